set_option maxHeartbeats 4000000 in
set_option maxRecDepth 100000 in
theorem c_X10_isAsPhases (l : Launch) (g : zG) (q : Nat) (a : Nat → Nat) (x : Nat → Int) (S : RS) (wh : Nat → Int) (hd : 0 ≤ x 10 ∧ x 10 ≤ 12000) (hwb : ∀ k, k < 6 → -9000000 ≤ wh k ∧ wh k ≤ 9000000) (hk : ∀ k, k < 6 → rk S k) : zMet l g yX10_isAsPhases wsX10_isAsPhases 2 0 0 [.ref q] zX0 [[mdl q a x], [((a 0), .inl (g.2 1, 88, .inr (.inl (aL S.1))))], [((a 1), .inl (g.2 1, 88, .inr (.inl (aL S.2.1))))], [((a 14), .inl (g.2 1, 6, .inr (.inl (aL wh))))]] (qi g (fun (T : RS) => (mEqN S wh (x 10) 6)) (fun (T : RS) => (kp78 S T)) (fun (T : RS) => [[mdl q a x], [((a 0), .inl (g.2 1, 88, .inr (.inl (aL T.1))))], [((a 1), .inl (g.2 1, 88, .inr (.inl (aL T.2.1))))], [((a 14), .inl (g.2 1, 6, .inr (.inl (aL wh))))]])) := by
  refine z_ent (cc := cX10_isAsPhases) (maxL := 3) (ret := (some .boolean)) (by decide) rfl (Nat.le_of_ble_eq_true rfl) ?_
  intro p e s m below meth c A ls hx hb hr hml hown hts hlocks hin0 hA hK hP hD hS hXX hl
  have hown : s.vm.findClass RX10 = some m.cls := hown
  have hin10_ : ∀ w ∈ wsX100, w ∈ wsX10_isAsPhases := zw_in [13, 14, 15, 16, 17, 18, 19, 20, 21, 22, 23, 24, 25, 26, 27, 28, 29, 30, 31, 32, 33, 34, 35, 36, 37, 38] rfl
  have hl : lv_has ls 3 [(0, .ref q)] := hl
  refine lv_aload_n hx hb dX10_isAsPhases_0 rfl (lv_at hl 0 rfl) ?_
  refine z_get hx hb hts hin10_ hown hK hP 0 rfl rfl 23 (by decide) (hts _ (List.mem_of_getElem? (i := 1) rfl)) rfl dX10_isAsPhases_1 ?_
  refine z_lconst hx hb 0 dX10_isAsPhases_4 rfl ?_
  refine z_lcmp_eq (tgt := 13) hx hb (by omega) (by decide) dX10_isAsPhases_5 dX10_isAsPhases_6 (by decide) (fun cq1 => ?_) (fun cq1 => ?_)
  · refine z_iconst hx hb dX10_isAsPhases_13 rfl ?_
    refine lv_istore_n (lv' := [(1, vI 0), (0, .ref q)]) hx hb dX10_isAsPhases_14 rfl hl (by decide) rfl (fun ls hl => ?_)
    refine z_iconst hx hb dX10_isAsPhases_15 rfl ?_
    refine lv_istore_n (lv' := [(2, vI 0), (1, vI 0), (0, .ref q)]) hx hb dX10_isAsPhases_16 rfl hl (by decide) rfl (fun ls hl => ?_)
    have loop17 : ∀ (N : Nat) (k : Nat) (z : Int) (T : RS) (H : Heap) (locs : List Loc) (ls : Array Slot), k ≤ 6 → z = mEqN S wh (x 10) k → kp78 S T → (6 - k) < N → zP g [[mdl q a x], [((a 0), .inl (g.2 1, 88, .inr (.inl (aL T.1))))], [((a 1), .inl (g.2 1, 88, .inr (.inl (aL T.2.1))))], [((a 14), .inl (g.2 1, 6, .inr (.inl (aL wh))))]] H → zD A [[mdl q a x], [((a 0), .inl (g.2 1, 88, .inr (.inl (aL T.1))))], [((a 1), .inl (g.2 1, 88, .inr (.inl (aL T.2.1))))], [((a 14), .inl (g.2 1, 6, .inr (.inl (aL wh))))]] → va_S A s.heap H locs → lv_has ls 3 [(0, .ref q), (1, vI z), (2, vI ((k : Nat) : Int))] → W p l e (zRm 2 0 0) s m ([.ref q] : List Value).toArray below meth c H locs (0) (0) (MQ below ((qi g (fun (T : RS) => (mEqN S wh (x 10) 6)) (fun (T : RS) => (kp78 S T)) (fun (T : RS) => [[mdl q a x], [((a 0), .inl (g.2 1, 88, .inr (.inl (aL T.1))))], [((a 1), .inl (g.2 1, 88, .inr (.inl (aL T.2.1))))], [((a 14), .inl (g.2 1, 6, .inr (.inl (aL wh))))]])) A) ([.ref q] : List Value).toArray s 0 0 A) (F0 m 17 ls []) := by
      intro N
      induction N with
      | zero => intro k z T H locs ls hk6 hz hT hm; exact absurd hm (Nat.not_lt_zero _)
      | succ N ih17 =>
        intro k z T H locs ls hk6 hz hT hm hP hD hS hl
        have hz0 := mEqN_01 S wh (x 10) k
        refine lv_iload_n hx hb dX10_isAsPhases_17 rfl (lv_at hl 2 rfl) ?_
        refine z_bipush hx hb 6 dX10_isAsPhases_18 rfl ?_
        refine z_icmp_ge (tgt := 89) hx hb (by omega) (by decide) dX10_isAsPhases_20 (by decide) (fun cq2 => ?_) (fun cq2 => ?_)
        · refine lv_iload_n hx hb dX10_isAsPhases_89 rfl (lv_at hl 1 rfl) ?_
          have h69 := mEqN_6 (S := S) (w := wh) (d := x 10) hk6
          have h68 : k = 6 → z = mEqN S wh (x 10) 6 := fun q => by rw [hz, q]
          exact z_reti T [0, 1, 2, 3] hx hb hr (nar_z (by omega)) hlocks hK hP hD hS (by omega) hT rfl rfl (rfl) (Nat.le_of_ble_eq_true rfl) (Nat.le_of_ble_eq_true rfl) dX10_isAsPhases_90
        · refine lv_iload_n hx hb dX10_isAsPhases_23 rfl (lv_at hl 1 rfl) ?_
          refine z_if_eq (tgt := 89) hx hb (by omega) dX10_isAsPhases_24 (by decide) (fun cq3 => ?_) (fun cq3 => ?_)
          · refine lv_iload_n hx hb dX10_isAsPhases_89 rfl (lv_at hl 1 rfl) ?_
            have h69 := mEqN_6 (S := S) (w := wh) (d := x 10) hk6
            have h68 : k = 6 → z = mEqN S wh (x 10) 6 := fun q => by rw [hz, q]
            exact z_reti T [0, 1, 2, 3] hx hb hr (nar_z (by omega)) hlocks hK hP hD hS (by omega) hT rfl rfl (rfl) (Nat.le_of_ble_eq_true rfl) (Nat.le_of_ble_eq_true rfl) dX10_isAsPhases_90
          · have hwk := hwb k (by omega)
            have hd1 := mEqN_d k (hz.symm.trans (show z = 1 by omega))
            refine lv_aload_n hx hb dX10_isAsPhases_27 rfl (lv_at hl 0 rfl) ?_
            refine z_bipush hx hb 78 dX10_isAsPhases_28 rfl ?_
            refine lv_aload_n hx hb dX10_isAsPhases_30 rfl (lv_at hl 0 rfl) ?_
            refine z_get hx hb hts hin10_ hown hK hP 0 rfl rfl 25 (by decide) (hts _ (List.mem_of_getElem? (i := 2) rfl)) rfl dX10_isAsPhases_31 ?_
            refine lv_iload_n hx hb dX10_isAsPhases_34 rfl (lv_at hl 2 rfl) ?_
            refine z_lald hx hb hK hP 3 rfl k (by omega) (by omega) (by decide) dX10_isAsPhases_35 ?_
            refine lv_aload_n hx hb dX10_isAsPhases_36 rfl (lv_at hl 0 rfl) ?_
            refine z_get hx hb hts hin10_ hown hK hP 0 rfl rfl 23 (by decide) (hts _ (List.mem_of_getElem? (i := 1) rfl)) rfl dX10_isAsPhases_37 ?_
            refine z_cVv (As := [vI 78, vL (wh k), vL (x 10)]) (rest := []) ⟨hx, hb, hml, hown, hts⟩ hK hP hD hS hA [0, 1, 2] [3] rfl rfl rfl (c_X10_lay l g q a x T 78 (wh k) (x 10) (by omega) (by omega) (by omega)) (cwV 3 hts gX10_isAsPhases_X10_lay rfl rfl rfl (by decide +kernel) ⟨Nat.le_of_ble_eq_true rfl, Nat.le_of_ble_eq_true rfl⟩) 10 0 rfl rfl rfl (fun _ _ _ _ _ _ => trivial) (fun _ _ _ => trivial) rfl hl.1 (Nat.le_of_ble_eq_true rfl) rfl dX10_isAsPhases_40 ⟨Nat.le_of_ble_eq_true rfl, Nat.le_of_ble_eq_true rfl⟩ (fun u_4 H locs hwu_4 hP hD hS => ?_)
            try dsimp only at hwu_4
            have hP : zP g [[((a 14), .inl (g.2 1, 6, .inr (.inl (aL wh))))], [mdl q a x], [((a 0), .inl (g.2 1, 88, .inr (.inl (aL (rLy 78 (wh k) (x 10) T).1))))], [((a 1), .inl (g.2 1, 88, .inr (.inl (aL (rLy 78 (wh k) (x 10) T).2.1))))]] H := hP
            have hD : zD A [[((a 14), .inl (g.2 1, 6, .inr (.inl (aL wh))))], [mdl q a x], [((a 0), .inl (g.2 1, 88, .inr (.inl (aL (rLy 78 (wh k) (x 10) T).1))))], [((a 1), .inl (g.2 1, 88, .inr (.inl (aL (rLy 78 (wh k) (x 10) T).2.1))))]] := hD
            have hg := gd_pos (wh k) (x 10)
            have hg3 := div_bd hg (gd_dvd_l (x := wh k) (y := x 10) (by omega))
            have hg4 := div_bd1 hg (by omega) (gd_dvd_r (x := wh k) (y := x 10) (by omega))
            have hrk := hk k (by omega)
            unfold rk at hrk
            have hs9 := mEqN_s S wh (x 10) k
            have hs8 := mEqN_01 S wh (x 10) (k + 1)
            refine lv_aload_n hx hb dX10_isAsPhases_43 rfl (lv_at hl 0 rfl) ?_
            refine z_get hx hb hts hin10_ hown hK hP 1 rfl rfl 0 (by decide) (hts _ (List.mem_of_getElem? (i := 3) rfl)) rfl dX10_isAsPhases_44 ?_
            refine z_bipush hx hb 78 dX10_isAsPhases_47 rfl ?_
            refine z_lald hx hb hK hP 2 rfl 78 rfl (by decide) (by decide) dX10_isAsPhases_49 ?_
            refine z_toL (wh k / gd (wh k) (x 10)) rLy_t.1 ?_
            refine lv_aload_n hx hb dX10_isAsPhases_50 rfl (lv_at hl 0 rfl) ?_
            refine z_get hx hb hts hin10_ hown hK hP 1 rfl rfl 0 (by decide) (hts _ (List.mem_of_getElem? (i := 3) rfl)) rfl dX10_isAsPhases_51 ?_
            refine lv_iload_n hx hb dX10_isAsPhases_54 rfl (lv_at hl 2 rfl) ?_
            refine z_lald hx hb hK hP 2 rfl k (by omega) (by omega) (by decide) dX10_isAsPhases_55 ?_
            refine z_toL (S.1 k) ((uI_n (show k ≠ 78 by omega)).trans (hT.1 k (by omega)).1) ?_
            refine z_lcmp_ne (tgt := 81) hx hb (by omega) (by omega) dX10_isAsPhases_56 dX10_isAsPhases_57 (by decide) (fun cq5 => ?_) (fun cq5 => ?_)
            · refine z_iconst hx hb dX10_isAsPhases_81 rfl ?_
              refine lv_istore_n (lv' := [(1, vI 0), (0, .ref q), (2, vI ((k : Nat) : Int))]) hx hb dX10_isAsPhases_82 rfl hl (by decide) rfl (fun ls hl => ?_)
              refine z_iinc hx hb (((k + 1) : Nat) : Int) (lv' := [(2, vI (((k + 1) : Nat) : Int)), (1, vI 0), (0, .ref q)]) dX10_isAsPhases_83 hl (k := 2) rfl (by omega) (by decide) rfl (fun ls hl => ?_)
              refine lv_goto (tgt := 17) hx hb dX10_isAsPhases_86 (by decide) ?_
              exact ih17 (k + 1) 0 (rLy 78 (wh k) (x 10) T) _ _ _ (by omega) (by omega) (kp78_l hT) (by omega) (zP_sub hP [1, 2, 3, 0] rfl) (zD_sub hD [1, 2, 3, 0] rfl rfl) hS (lv_sub hl [2, 1, 0] rfl)
            · refine lv_aload_n hx hb dX10_isAsPhases_60 rfl (lv_at hl 0 rfl) ?_
              refine z_get hx hb hts hin10_ hown hK hP 1 rfl rfl 1 (by decide) (hts _ (List.mem_of_getElem? (i := 4) rfl)) rfl dX10_isAsPhases_61 ?_
              refine z_bipush hx hb 78 dX10_isAsPhases_64 rfl ?_
              refine z_lald hx hb hK hP 3 rfl 78 rfl (by decide) (by decide) dX10_isAsPhases_66 ?_
              refine z_toL (x 10 / gd (wh k) (x 10)) rLy_t.2 ?_
              refine lv_aload_n hx hb dX10_isAsPhases_67 rfl (lv_at hl 0 rfl) ?_
              refine z_get hx hb hts hin10_ hown hK hP 1 rfl rfl 1 (by decide) (hts _ (List.mem_of_getElem? (i := 4) rfl)) rfl dX10_isAsPhases_68 ?_
              refine lv_iload_n hx hb dX10_isAsPhases_71 rfl (lv_at hl 2 rfl) ?_
              refine z_lald hx hb hK hP 3 rfl k (by omega) (by omega) (by decide) dX10_isAsPhases_72 ?_
              refine z_toL (S.2.1 k) ((uI_n (show k ≠ 78 by omega)).trans (hT.1 k (by omega)).2) ?_
              refine z_lcmp_ne (tgt := 81) hx hb (by omega) (by omega) dX10_isAsPhases_73 dX10_isAsPhases_74 (by decide) (fun cq6 => ?_) (fun cq6 => ?_)
              · refine z_iconst hx hb dX10_isAsPhases_81 rfl ?_
                refine lv_istore_n (lv' := [(1, vI 0), (0, .ref q), (2, vI ((k : Nat) : Int))]) hx hb dX10_isAsPhases_82 rfl hl (by decide) rfl (fun ls hl => ?_)
                refine z_iinc hx hb (((k + 1) : Nat) : Int) (lv' := [(2, vI (((k + 1) : Nat) : Int)), (1, vI 0), (0, .ref q)]) dX10_isAsPhases_83 hl (k := 2) rfl (by omega) (by decide) rfl (fun ls hl => ?_)
                refine lv_goto (tgt := 17) hx hb dX10_isAsPhases_86 (by decide) ?_
                exact ih17 (k + 1) 0 (rLy 78 (wh k) (x 10) T) _ _ _ (by omega) (by omega) (kp78_l hT) (by omega) (zP_sub hP [1, 2, 3, 0] rfl) (zD_sub hD [1, 2, 3, 0] rfl rfl) hS (lv_sub hl [2, 1, 0] rfl)
              · refine z_iconst hx hb dX10_isAsPhases_77 rfl ?_
                refine lv_goto (tgt := 82) hx hb dX10_isAsPhases_78 (by decide) ?_
                refine lv_istore_n (lv' := [(1, vI 1), (0, .ref q), (2, vI ((k : Nat) : Int))]) hx hb dX10_isAsPhases_82 rfl hl (by decide) rfl (fun ls hl => ?_)
                refine z_iinc hx hb (((k + 1) : Nat) : Int) (lv' := [(2, vI (((k + 1) : Nat) : Int)), (1, vI 1), (0, .ref q)]) dX10_isAsPhases_83 hl (k := 2) rfl (by omega) (by decide) rfl (fun ls hl => ?_)
                refine lv_goto (tgt := 17) hx hb dX10_isAsPhases_86 (by decide) ?_
                exact ih17 (k + 1) 1 (rLy 78 (wh k) (x 10) T) _ _ _ (by omega) (by omega) (kp78_l hT) (by omega) (zP_sub hP [1, 2, 3, 0] rfl) (zD_sub hD [1, 2, 3, 0] rfl rfl) hS (lv_sub hl [2, 1, 0] rfl)
    exact loop17 _ 0 0 S _ _ _ (by omega) (by rw [mEqN]; first | rw [if_pos (by omega)] | rw [if_neg (by omega)]) (kp78_r S) (Nat.lt_succ_self _) hP hD hS (lv_sub hl [2, 1, 0] rfl)
  · refine z_iconst hx hb dX10_isAsPhases_9 rfl ?_
    refine lv_goto (tgt := 14) hx hb dX10_isAsPhases_10 (by decide) ?_
    refine lv_istore_n (lv' := [(1, vI 1), (0, .ref q)]) hx hb dX10_isAsPhases_14 rfl hl (by decide) rfl (fun ls hl => ?_)
    refine z_iconst hx hb dX10_isAsPhases_15 rfl ?_
    refine lv_istore_n (lv' := [(2, vI 0), (1, vI 1), (0, .ref q)]) hx hb dX10_isAsPhases_16 rfl hl (by decide) rfl (fun ls hl => ?_)
    have loop17 : ∀ (N : Nat) (k : Nat) (z : Int) (T : RS) (H : Heap) (locs : List Loc) (ls : Array Slot), k ≤ 6 → z = mEqN S wh (x 10) k → kp78 S T → (6 - k) < N → zP g [[mdl q a x], [((a 0), .inl (g.2 1, 88, .inr (.inl (aL T.1))))], [((a 1), .inl (g.2 1, 88, .inr (.inl (aL T.2.1))))], [((a 14), .inl (g.2 1, 6, .inr (.inl (aL wh))))]] H → zD A [[mdl q a x], [((a 0), .inl (g.2 1, 88, .inr (.inl (aL T.1))))], [((a 1), .inl (g.2 1, 88, .inr (.inl (aL T.2.1))))], [((a 14), .inl (g.2 1, 6, .inr (.inl (aL wh))))]] → va_S A s.heap H locs → lv_has ls 3 [(0, .ref q), (1, vI z), (2, vI ((k : Nat) : Int))] → W p l e (zRm 2 0 0) s m ([.ref q] : List Value).toArray below meth c H locs (0) (0) (MQ below ((qi g (fun (T : RS) => (mEqN S wh (x 10) 6)) (fun (T : RS) => (kp78 S T)) (fun (T : RS) => [[mdl q a x], [((a 0), .inl (g.2 1, 88, .inr (.inl (aL T.1))))], [((a 1), .inl (g.2 1, 88, .inr (.inl (aL T.2.1))))], [((a 14), .inl (g.2 1, 6, .inr (.inl (aL wh))))]])) A) ([.ref q] : List Value).toArray s 0 0 A) (F0 m 17 ls []) := by
      intro N
      induction N with
      | zero => intro k z T H locs ls hk6 hz hT hm; exact absurd hm (Nat.not_lt_zero _)
      | succ N ih17 =>
        intro k z T H locs ls hk6 hz hT hm hP hD hS hl
        have hz0 := mEqN_01 S wh (x 10) k
        refine lv_iload_n hx hb dX10_isAsPhases_17 rfl (lv_at hl 2 rfl) ?_
        refine z_bipush hx hb 6 dX10_isAsPhases_18 rfl ?_
        refine z_icmp_ge (tgt := 89) hx hb (by omega) (by decide) dX10_isAsPhases_20 (by decide) (fun cq7 => ?_) (fun cq7 => ?_)
        · refine lv_iload_n hx hb dX10_isAsPhases_89 rfl (lv_at hl 1 rfl) ?_
          have h69 := mEqN_6 (S := S) (w := wh) (d := x 10) hk6
          have h68 : k = 6 → z = mEqN S wh (x 10) 6 := fun q => by rw [hz, q]
          exact z_reti T [0, 1, 2, 3] hx hb hr (nar_z (by omega)) hlocks hK hP hD hS (by omega) hT rfl rfl (rfl) (Nat.le_of_ble_eq_true rfl) (Nat.le_of_ble_eq_true rfl) dX10_isAsPhases_90
        · refine lv_iload_n hx hb dX10_isAsPhases_23 rfl (lv_at hl 1 rfl) ?_
          refine z_if_eq (tgt := 89) hx hb (by omega) dX10_isAsPhases_24 (by decide) (fun cq8 => ?_) (fun cq8 => ?_)
          · refine lv_iload_n hx hb dX10_isAsPhases_89 rfl (lv_at hl 1 rfl) ?_
            have h69 := mEqN_6 (S := S) (w := wh) (d := x 10) hk6
            have h68 : k = 6 → z = mEqN S wh (x 10) 6 := fun q => by rw [hz, q]
            exact z_reti T [0, 1, 2, 3] hx hb hr (nar_z (by omega)) hlocks hK hP hD hS (by omega) hT rfl rfl (rfl) (Nat.le_of_ble_eq_true rfl) (Nat.le_of_ble_eq_true rfl) dX10_isAsPhases_90
          · have hwk := hwb k (by omega)
            have hd1 := mEqN_d k (hz.symm.trans (show z = 1 by omega))
            refine lv_aload_n hx hb dX10_isAsPhases_27 rfl (lv_at hl 0 rfl) ?_
            refine z_bipush hx hb 78 dX10_isAsPhases_28 rfl ?_
            refine lv_aload_n hx hb dX10_isAsPhases_30 rfl (lv_at hl 0 rfl) ?_
            refine z_get hx hb hts hin10_ hown hK hP 0 rfl rfl 25 (by decide) (hts _ (List.mem_of_getElem? (i := 2) rfl)) rfl dX10_isAsPhases_31 ?_
            refine lv_iload_n hx hb dX10_isAsPhases_34 rfl (lv_at hl 2 rfl) ?_
            refine z_lald hx hb hK hP 3 rfl k (by omega) (by omega) (by decide) dX10_isAsPhases_35 ?_
            refine lv_aload_n hx hb dX10_isAsPhases_36 rfl (lv_at hl 0 rfl) ?_
            refine z_get hx hb hts hin10_ hown hK hP 0 rfl rfl 23 (by decide) (hts _ (List.mem_of_getElem? (i := 1) rfl)) rfl dX10_isAsPhases_37 ?_
            refine z_cVv (As := [vI 78, vL (wh k), vL (x 10)]) (rest := []) ⟨hx, hb, hml, hown, hts⟩ hK hP hD hS hA [0, 1, 2] [3] rfl rfl rfl (c_X10_lay l g q a x T 78 (wh k) (x 10) (by omega) (by omega) (by omega)) (cwV 3 hts gX10_isAsPhases_X10_lay rfl rfl rfl (by decide +kernel) ⟨Nat.le_of_ble_eq_true rfl, Nat.le_of_ble_eq_true rfl⟩) 10 0 rfl rfl rfl (fun _ _ _ _ _ _ => trivial) (fun _ _ _ => trivial) rfl hl.1 (Nat.le_of_ble_eq_true rfl) rfl dX10_isAsPhases_40 ⟨Nat.le_of_ble_eq_true rfl, Nat.le_of_ble_eq_true rfl⟩ (fun u_9 H locs hwu_9 hP hD hS => ?_)
            try dsimp only at hwu_9
            have hP : zP g [[((a 14), .inl (g.2 1, 6, .inr (.inl (aL wh))))], [mdl q a x], [((a 0), .inl (g.2 1, 88, .inr (.inl (aL (rLy 78 (wh k) (x 10) T).1))))], [((a 1), .inl (g.2 1, 88, .inr (.inl (aL (rLy 78 (wh k) (x 10) T).2.1))))]] H := hP
            have hD : zD A [[((a 14), .inl (g.2 1, 6, .inr (.inl (aL wh))))], [mdl q a x], [((a 0), .inl (g.2 1, 88, .inr (.inl (aL (rLy 78 (wh k) (x 10) T).1))))], [((a 1), .inl (g.2 1, 88, .inr (.inl (aL (rLy 78 (wh k) (x 10) T).2.1))))]] := hD
            have hg := gd_pos (wh k) (x 10)
            have hg3 := div_bd hg (gd_dvd_l (x := wh k) (y := x 10) (by omega))
            have hg4 := div_bd1 hg (by omega) (gd_dvd_r (x := wh k) (y := x 10) (by omega))
            have hrk := hk k (by omega)
            unfold rk at hrk
            have hs9 := mEqN_s S wh (x 10) k
            have hs8 := mEqN_01 S wh (x 10) (k + 1)
            refine lv_aload_n hx hb dX10_isAsPhases_43 rfl (lv_at hl 0 rfl) ?_
            refine z_get hx hb hts hin10_ hown hK hP 1 rfl rfl 0 (by decide) (hts _ (List.mem_of_getElem? (i := 3) rfl)) rfl dX10_isAsPhases_44 ?_
            refine z_bipush hx hb 78 dX10_isAsPhases_47 rfl ?_
            refine z_lald hx hb hK hP 2 rfl 78 rfl (by decide) (by decide) dX10_isAsPhases_49 ?_
            refine z_toL (wh k / gd (wh k) (x 10)) rLy_t.1 ?_
            refine lv_aload_n hx hb dX10_isAsPhases_50 rfl (lv_at hl 0 rfl) ?_
            refine z_get hx hb hts hin10_ hown hK hP 1 rfl rfl 0 (by decide) (hts _ (List.mem_of_getElem? (i := 3) rfl)) rfl dX10_isAsPhases_51 ?_
            refine lv_iload_n hx hb dX10_isAsPhases_54 rfl (lv_at hl 2 rfl) ?_
            refine z_lald hx hb hK hP 2 rfl k (by omega) (by omega) (by decide) dX10_isAsPhases_55 ?_
            refine z_toL (S.1 k) ((uI_n (show k ≠ 78 by omega)).trans (hT.1 k (by omega)).1) ?_
            refine z_lcmp_ne (tgt := 81) hx hb (by omega) (by omega) dX10_isAsPhases_56 dX10_isAsPhases_57 (by decide) (fun cq10 => ?_) (fun cq10 => ?_)
            · refine z_iconst hx hb dX10_isAsPhases_81 rfl ?_
              refine lv_istore_n (lv' := [(1, vI 0), (0, .ref q), (2, vI ((k : Nat) : Int))]) hx hb dX10_isAsPhases_82 rfl hl (by decide) rfl (fun ls hl => ?_)
              refine z_iinc hx hb (((k + 1) : Nat) : Int) (lv' := [(2, vI (((k + 1) : Nat) : Int)), (1, vI 0), (0, .ref q)]) dX10_isAsPhases_83 hl (k := 2) rfl (by omega) (by decide) rfl (fun ls hl => ?_)
              refine lv_goto (tgt := 17) hx hb dX10_isAsPhases_86 (by decide) ?_
              exact ih17 (k + 1) 0 (rLy 78 (wh k) (x 10) T) _ _ _ (by omega) (by omega) (kp78_l hT) (by omega) (zP_sub hP [1, 2, 3, 0] rfl) (zD_sub hD [1, 2, 3, 0] rfl rfl) hS (lv_sub hl [2, 1, 0] rfl)
            · refine lv_aload_n hx hb dX10_isAsPhases_60 rfl (lv_at hl 0 rfl) ?_
              refine z_get hx hb hts hin10_ hown hK hP 1 rfl rfl 1 (by decide) (hts _ (List.mem_of_getElem? (i := 4) rfl)) rfl dX10_isAsPhases_61 ?_
              refine z_bipush hx hb 78 dX10_isAsPhases_64 rfl ?_
              refine z_lald hx hb hK hP 3 rfl 78 rfl (by decide) (by decide) dX10_isAsPhases_66 ?_
              refine z_toL (x 10 / gd (wh k) (x 10)) rLy_t.2 ?_
              refine lv_aload_n hx hb dX10_isAsPhases_67 rfl (lv_at hl 0 rfl) ?_
              refine z_get hx hb hts hin10_ hown hK hP 1 rfl rfl 1 (by decide) (hts _ (List.mem_of_getElem? (i := 4) rfl)) rfl dX10_isAsPhases_68 ?_
              refine lv_iload_n hx hb dX10_isAsPhases_71 rfl (lv_at hl 2 rfl) ?_
              refine z_lald hx hb hK hP 3 rfl k (by omega) (by omega) (by decide) dX10_isAsPhases_72 ?_
              refine z_toL (S.2.1 k) ((uI_n (show k ≠ 78 by omega)).trans (hT.1 k (by omega)).2) ?_
              refine z_lcmp_ne (tgt := 81) hx hb (by omega) (by omega) dX10_isAsPhases_73 dX10_isAsPhases_74 (by decide) (fun cq11 => ?_) (fun cq11 => ?_)
              · refine z_iconst hx hb dX10_isAsPhases_81 rfl ?_
                refine lv_istore_n (lv' := [(1, vI 0), (0, .ref q), (2, vI ((k : Nat) : Int))]) hx hb dX10_isAsPhases_82 rfl hl (by decide) rfl (fun ls hl => ?_)
                refine z_iinc hx hb (((k + 1) : Nat) : Int) (lv' := [(2, vI (((k + 1) : Nat) : Int)), (1, vI 0), (0, .ref q)]) dX10_isAsPhases_83 hl (k := 2) rfl (by omega) (by decide) rfl (fun ls hl => ?_)
                refine lv_goto (tgt := 17) hx hb dX10_isAsPhases_86 (by decide) ?_
                exact ih17 (k + 1) 0 (rLy 78 (wh k) (x 10) T) _ _ _ (by omega) (by omega) (kp78_l hT) (by omega) (zP_sub hP [1, 2, 3, 0] rfl) (zD_sub hD [1, 2, 3, 0] rfl rfl) hS (lv_sub hl [2, 1, 0] rfl)
              · refine z_iconst hx hb dX10_isAsPhases_77 rfl ?_
                refine lv_goto (tgt := 82) hx hb dX10_isAsPhases_78 (by decide) ?_
                refine lv_istore_n (lv' := [(1, vI 1), (0, .ref q), (2, vI ((k : Nat) : Int))]) hx hb dX10_isAsPhases_82 rfl hl (by decide) rfl (fun ls hl => ?_)
                refine z_iinc hx hb (((k + 1) : Nat) : Int) (lv' := [(2, vI (((k + 1) : Nat) : Int)), (1, vI 1), (0, .ref q)]) dX10_isAsPhases_83 hl (k := 2) rfl (by omega) (by decide) rfl (fun ls hl => ?_)
                refine lv_goto (tgt := 17) hx hb dX10_isAsPhases_86 (by decide) ?_
                exact ih17 (k + 1) 1 (rLy 78 (wh k) (x 10) T) _ _ _ (by omega) (by omega) (kp78_l hT) (by omega) (zP_sub hP [1, 2, 3, 0] rfl) (zD_sub hD [1, 2, 3, 0] rfl rfl) hS (lv_sub hl [2, 1, 0] rfl)
    exact loop17 _ 0 1 S _ _ _ (by omega) (by rw [mEqN]; first | rw [if_pos (by omega)] | rw [if_neg (by omega)]) (kp78_r S) (Nat.lt_succ_self _) hP hD hS (lv_sub hl [2, 1, 0] rfl)

set_option maxHeartbeats 4000000 in
set_option maxRecDepth 100000 in
theorem c_X10_load_unk (l : Launch) (g : zG) (q : Nat) (a : Nat → Nat) (x : Nat → Int) (b : Nat) (s_ : Int) (i : Int) (f : Int) (hx1 : x 1 = (b : Int)) (hb6 : 1 ≤ b ∧ b ≤ 6) (hs : -2147483648 ≤ s_ ∧ s_ < 2147483648) (hi : -2147483648 ≤ i ∧ i < 2147483648) (hf : -2147483648 ≤ f ∧ f < 2147483648) (hu : ¬ (0 ≤ i ∧ i ≤ (b : Int) - 1)) : zMet l g yX10_load wsX10_load 2 0 0 [.ref q, vI s_, vI i, vI f] zX0 [[mdl q a x]] (qi g (fun (_ : Unit) => (-2000000001)) (fun (_ : Unit) => True) (fun (_ : Unit) => [[mdl q a x]])) := by
  refine z_ent (cc := cX10_load) (maxL := 5) (ret := (some .int)) (by decide) rfl (Nat.le_of_ble_eq_true rfl) ?_
  intro p e s m below meth c A ls hx hb hr hml hown hts hlocks hin0 hA hK hP hD hS hXX hl
  have hown : s.vm.findClass RX10 = some m.cls := hown
  have hl : lv_has ls 5 [(0, .ref q), (1, vI s_), (2, vI i), (3, vI f)] := hl
  refine lv_aload_n hx hb dX10_load_0 rfl (lv_at hl 0 rfl) ?_
  refine lv_iload_n hx hb dX10_load_1 rfl (lv_at hl 2 rfl) ?_
  refine z_cVi (As := [vI i]) (rest := []) ⟨hx, hb, hml, hown, hts⟩ hK hP hD hS hA [0] [] rfl rfl rfl (c_X10_isBus l g q a x i (by omega) (by omega)) (cwV 1 hts gX10_load_X10_isBus rfl rfl rfl (by decide +kernel) ⟨Nat.le_of_ble_eq_true rfl, Nat.le_of_ble_eq_true rfl⟩) 10 0 rfl rfl rfl (fun _ _ _ _ _ _ => trivial) (fun _ _ _ => trivial) rfl hl.1 (Nat.le_of_ble_eq_true rfl) rfl dX10_load_2 ⟨Nat.le_of_ble_eq_true rfl, Nat.le_of_ble_eq_true rfl⟩ (fun u_1 H locs hwu_1 hP hD hS => ?_)
  try dsimp only at hwu_1
  have hP : zP g [[mdl q a x]] H := hP
  have hD : zD A [[mdl q a x]] := hD
  refine z_toI (inI i 0 (x 1 - 1)) rfl ?_
  have hf_2 := inI_s i 0 (x 1 - 1)
  refine z_if_ne (tgt := 11) hx hb (by omega) dX10_load_5 (by decide) (fun cq3 => False.elim (by omega)) (fun cq3 => ?_)
  refine z_ldc hx hb (-2000000001) hown (hts _ (List.mem_of_getElem? (i := 1) rfl)) rfl dX10_load_8 ?_
  exact z_reti () [0] hx hb hr rfl hlocks hK hP hD hS (rfl) trivial rfl rfl (rfl) (Nat.le_of_ble_eq_true rfl) (Nat.le_of_ble_eq_true rfl) dX10_load_10

set_option maxHeartbeats 4000000 in
set_option maxRecDepth 100000 in
theorem c_X10_load_out (l : Launch) (g : zG) (q : Nat) (a : Nat → Nat) (x : Nat → Int) (b : Nat) (s_ : Int) (i : Int) (f : Int) (hx1 : x 1 = (b : Int)) (hb6 : 1 ≤ b ∧ b ≤ 6) (hs : -2147483648 ≤ s_ ∧ s_ < 2147483648) (hi : -2147483648 ≤ i ∧ i < 2147483648) (hf : -2147483648 ≤ f ∧ f < 2147483648) (hu : (0 ≤ i ∧ i ≤ (b : Int) - 1)) (ho : ¬ ((0 ≤ s_ ∧ s_ ≤ 3) ∧ (0 ≤ f ∧ f ≤ 9))) : zMet l g yX10_load wsX10_load 2 0 0 [.ref q, vI s_, vI i, vI f] zX0 [[mdl q a x]] (qi g (fun (_ : Unit) => (-2000000002)) (fun (_ : Unit) => True) (fun (_ : Unit) => [[mdl q a x]])) := by
  refine z_ent (cc := cX10_load) (maxL := 5) (ret := (some .int)) (by decide) rfl (Nat.le_of_ble_eq_true rfl) ?_
  intro p e s m below meth c A ls hx hb hr hml hown hts hlocks hin0 hA hK hP hD hS hXX hl
  have hown : s.vm.findClass RX10 = some m.cls := hown
  have hl : lv_has ls 5 [(0, .ref q), (1, vI s_), (2, vI i), (3, vI f)] := hl
  refine lv_aload_n hx hb dX10_load_0 rfl (lv_at hl 0 rfl) ?_
  refine lv_iload_n hx hb dX10_load_1 rfl (lv_at hl 2 rfl) ?_
  refine z_cVi (As := [vI i]) (rest := []) ⟨hx, hb, hml, hown, hts⟩ hK hP hD hS hA [0] [] rfl rfl rfl (c_X10_isBus l g q a x i (by omega) (by omega)) (cwV 1 hts gX10_load_X10_isBus rfl rfl rfl (by decide +kernel) ⟨Nat.le_of_ble_eq_true rfl, Nat.le_of_ble_eq_true rfl⟩) 10 0 rfl rfl rfl (fun _ _ _ _ _ _ => trivial) (fun _ _ _ => trivial) rfl hl.1 (Nat.le_of_ble_eq_true rfl) rfl dX10_load_2 ⟨Nat.le_of_ble_eq_true rfl, Nat.le_of_ble_eq_true rfl⟩ (fun u_1 H locs hwu_1 hP hD hS => ?_)
  try dsimp only at hwu_1
  have hP : zP g [[mdl q a x]] H := hP
  have hD : zD A [[mdl q a x]] := hD
  refine z_toI (inI i 0 (x 1 - 1)) rfl ?_
  have hf_2 := inI_s i 0 (x 1 - 1)
  refine z_if_ne (tgt := 11) hx hb (by omega) dX10_load_5 (by decide) (fun cq3 => ?_) (fun cq3 => False.elim (by omega))
  refine lv_iload_n hx hb dX10_load_11 rfl (lv_at hl 1 rfl) ?_
  refine lv_iload_n hx hb dX10_load_12 rfl (lv_at hl 3 rfl) ?_
  refine z_cSi (As := [vI s_, vI f]) (rest := []) ⟨hx, hb, hml, hown, hts⟩ hK hP hD hS hA [] [0] rfl rfl rfl (c_X10_isSort l g s_ f (by first | assumption | omega | decide) (by first | assumption | omega | decide)) (va_cwS 2 hts gX10_load_X10_isSort rfl rfl rfl (by decide +kernel) ⟨Nat.le_of_ble_eq_true rfl, Nat.le_of_ble_eq_true rfl⟩) (fun _ _ _ _ _ _ => trivial) (fun _ _ _ => trivial) rfl hl.1 (Nat.le_of_ble_eq_true rfl) rfl dX10_load_13 ⟨Nat.le_of_ble_eq_true rfl, Nat.le_of_ble_eq_true rfl⟩ (fun u_4 H locs hwu_4 hP hD hS => ?_)
  try dsimp only at hwu_4
  have hP : zP g [[mdl q a x]] H := hP
  have hD : zD A [[mdl q a x]] := hD
  refine z_toI (one ((0 ≤ s_ ∧ s_ ≤ 3) ∧ (0 ≤ f ∧ f ≤ 9))) rfl ?_
  have hf_5 := one_s ((0 ≤ s_ ∧ s_ ≤ 3) ∧ (0 ≤ f ∧ f ≤ 9))
  refine z_if_ne (tgt := 22) hx hb (by omega) dX10_load_16 (by decide) (fun cq6 => False.elim (by omega)) (fun cq6 => ?_)
  refine z_ldc hx hb (-2000000002) hown (hts _ (List.mem_of_getElem? (i := 2) rfl)) rfl dX10_load_19 ?_
  exact z_reti () [0] hx hb hr rfl hlocks hK hP hD hS (rfl) trivial rfl rfl (rfl) (Nat.le_of_ble_eq_true rfl) (Nat.le_of_ble_eq_true rfl) dX10_load_21

set_option maxHeartbeats 4000000 in
set_option maxRecDepth 100000 in
theorem c_X10_load_not (l : Launch) (g : zG) (q : Nat) (a : Nat → Nat) (x : Nat → Int) (b : Nat) (h : Nat → Int) (o : Nat → Int) (l_ : Nat → Int) (pp : Nat → Int) (wh : Nat → Int) (s_ : Int) (i : Int) (f : Int) (hN : nok (x 0) b h o l_) (hx1 : x 1 = (b : Int)) (hs : -2147483648 ≤ s_ ∧ s_ < 2147483648) (hi : -2147483648 ≤ i ∧ i < 2147483648) (hf : -2147483648 ≤ f ∧ f < 2147483648) (hu : (0 ≤ i ∧ i ≤ (b : Int) - 1)) (ho : ((0 ≤ s_ ∧ s_ ≤ 3) ∧ (0 ≤ f ∧ f ≤ 9))) (hc : (cB h o s_ i.toNat f) = 0) : zMet l g yX10_load wsX10_load 2 0 0 [.ref q, vI s_, vI i, vI f] zX0 [[mdl q a x], [((a 2), .inl (g.2 0, 6, .inl (aI h)))], [((a 3), .inl (g.2 0, 18, .inl (aI o)))], [((a 13), .inl (g.2 1, 3, .inr (.inl (aL pp))))]] (qi g (fun (p2 : Nat → Int) => (-2000000003)) (fun (p2 : Nat → Int) => True) (fun (p2 : Nat → Int) => [[mdl q a (uI x 10 (cB h o s_ i.toNat f))], [((a 2), .inl (g.2 0, 6, .inl (aI h)))], [((a 3), .inl (g.2 0, 18, .inl (aI o)))], [((a 13), .inl (g.2 1, 3, .inr (.inl (aL p2))))]])) := by
  obtain ⟨hn1, hn2, hn3, hn4, hn5, hn6, hn7⟩ := id hN
  refine z_ent (cc := cX10_load) (maxL := 5) (ret := (some .int)) (by decide) rfl (Nat.le_of_ble_eq_true rfl) ?_
  intro p e s m below meth c A ls hx hb hr hml hown hts hlocks hin0 hA hK hP hD hS hXX hl
  have hown : s.vm.findClass RX10 = some m.cls := hown
  have hin10_ : ∀ w ∈ wsX100, w ∈ wsX10_load := zw_in [54, 55, 56, 57, 58, 59, 60, 61, 62, 63, 64, 65, 66, 67, 68, 69, 70, 71, 72, 73, 74, 75, 76, 77, 78, 79] rfl
  have hl : lv_has ls 5 [(0, .ref q), (1, vI s_), (2, vI i), (3, vI f)] := hl
  refine lv_aload_n hx hb dX10_load_0 rfl (lv_at hl 0 rfl) ?_
  refine lv_iload_n hx hb dX10_load_1 rfl (lv_at hl 2 rfl) ?_
  refine z_cVi (As := [vI i]) (rest := []) ⟨hx, hb, hml, hown, hts⟩ hK hP hD hS hA [0] [1, 2, 3] rfl rfl rfl (c_X10_isBus l g q a x i (by omega) (by omega)) (cwV 1 hts gX10_load_X10_isBus rfl rfl rfl (by decide +kernel) ⟨Nat.le_of_ble_eq_true rfl, Nat.le_of_ble_eq_true rfl⟩) 10 0 rfl rfl rfl (fun _ _ _ _ _ _ => trivial) (fun _ _ _ => trivial) rfl hl.1 (Nat.le_of_ble_eq_true rfl) rfl dX10_load_2 ⟨Nat.le_of_ble_eq_true rfl, Nat.le_of_ble_eq_true rfl⟩ (fun u_1 H locs hwu_1 hP hD hS => ?_)
  try dsimp only at hwu_1
  have hP : zP g [[((a 2), .inl (g.2 0, 6, .inl (aI h)))], [((a 3), .inl (g.2 0, 18, .inl (aI o)))], [((a 13), .inl (g.2 1, 3, .inr (.inl (aL pp))))], [mdl q a x]] H := hP
  have hD : zD A [[((a 2), .inl (g.2 0, 6, .inl (aI h)))], [((a 3), .inl (g.2 0, 18, .inl (aI o)))], [((a 13), .inl (g.2 1, 3, .inr (.inl (aL pp))))], [mdl q a x]] := hD
  refine z_toI (inI i 0 (x 1 - 1)) rfl ?_
  have hf_2 := inI_s i 0 (x 1 - 1)
  refine z_if_ne (tgt := 11) hx hb (by omega) dX10_load_5 (by decide) (fun cq3 => ?_) (fun cq3 => False.elim (by omega))
  refine lv_iload_n hx hb dX10_load_11 rfl (lv_at hl 1 rfl) ?_
  refine lv_iload_n hx hb dX10_load_12 rfl (lv_at hl 3 rfl) ?_
  refine z_cSi (As := [vI s_, vI f]) (rest := []) ⟨hx, hb, hml, hown, hts⟩ hK hP hD hS hA [] [0, 1, 2, 3] rfl rfl rfl (c_X10_isSort l g s_ f (by first | assumption | omega | decide) (by first | assumption | omega | decide)) (va_cwS 2 hts gX10_load_X10_isSort rfl rfl rfl (by decide +kernel) ⟨Nat.le_of_ble_eq_true rfl, Nat.le_of_ble_eq_true rfl⟩) (fun _ _ _ _ _ _ => trivial) (fun _ _ _ => trivial) rfl hl.1 (Nat.le_of_ble_eq_true rfl) rfl dX10_load_13 ⟨Nat.le_of_ble_eq_true rfl, Nat.le_of_ble_eq_true rfl⟩ (fun u_4 H locs hwu_4 hP hD hS => ?_)
  try dsimp only at hwu_4
  have hP : zP g [[((a 2), .inl (g.2 0, 6, .inl (aI h)))], [((a 3), .inl (g.2 0, 18, .inl (aI o)))], [((a 13), .inl (g.2 1, 3, .inr (.inl (aL pp))))], [mdl q a x]] H := hP
  have hD : zD A [[((a 2), .inl (g.2 0, 6, .inl (aI h)))], [((a 3), .inl (g.2 0, 18, .inl (aI o)))], [((a 13), .inl (g.2 1, 3, .inr (.inl (aL pp))))], [mdl q a x]] := hD
  refine z_toI (one ((0 ≤ s_ ∧ s_ ≤ 3) ∧ (0 ≤ f ∧ f ≤ 9))) rfl ?_
  have hf_5 := one_s ((0 ≤ s_ ∧ s_ ≤ 3) ∧ (0 ≤ f ∧ f ≤ 9))
  refine z_if_ne (tgt := 22) hx hb (by omega) dX10_load_16 (by decide) (fun cq6 => ?_) (fun cq6 => False.elim (by omega))
  refine lv_aload_n hx hb dX10_load_22 rfl (lv_at hl 0 rfl) ?_
  refine lv_iload_n hx hb dX10_load_23 rfl (lv_at hl 1 rfl) ?_
  refine lv_iload_n hx hb dX10_load_24 rfl (lv_at hl 2 rfl) ?_
  refine z_toI ((i.toNat : Nat) : Int) (by omega) ?_
  refine lv_iload_n hx hb dX10_load_25 rfl (lv_at hl 3 rfl) ?_
  refine z_cVv (As := [vI s_, vI ((i.toNat : Nat) : Int), vI f]) (rest := []) ⟨hx, hb, hml, hown, hts⟩ hK hP hD hS hA [3, 0, 1, 2] [] rfl rfl rfl (c_X10_layFault l g q a x b h o l_ pp s_ i.toNat f hN (by omega) (by omega) (by omega)) (cwV 3 hts gX10_load_X10_layFault rfl rfl rfl (by decide +kernel) ⟨Nat.le_of_ble_eq_true rfl, Nat.le_of_ble_eq_true rfl⟩) 10 0 rfl rfl rfl (fun _ _ _ _ _ _ => trivial) (fun _ _ _ => trivial) rfl hl.1 (Nat.le_of_ble_eq_true rfl) rfl dX10_load_26 ⟨Nat.le_of_ble_eq_true rfl, Nat.le_of_ble_eq_true rfl⟩ (fun u_7 H locs hwu_7 hP hD hS => ?_)
  obtain ⟨p2_8, rfl⟩ : ∃ z_, z_ = u_7 := ⟨_, rfl⟩
  try dsimp only at hwu_7
  have hP : zP g [[mdl q a (uI x 10 (cB h o s_ i.toNat f))], [((a 2), .inl (g.2 0, 6, .inl (aI h)))], [((a 3), .inl (g.2 0, 18, .inl (aI o)))], [((a 13), .inl (g.2 1, 3, .inr (.inl (aL p2_8))))]] H := hP
  have hD : zD A [[mdl q a (uI x 10 (cB h o s_ i.toNat f))], [((a 2), .inl (g.2 0, 6, .inl (aI h)))], [((a 3), .inl (g.2 0, 18, .inl (aI o)))], [((a 13), .inl (g.2 1, 3, .inr (.inl (aL p2_8))))]] := hD
  have hpp := hwu_7
  have hbd := cur_bd hN s_ (i := i.toNat) (by omega) (f := f) (by omega)
  have hb3 := hbd.2.2.2
  refine lv_aload_n hx hb dX10_load_29 rfl (lv_at hl 0 rfl) ?_
  refine z_get hx hb hts hin10_ hown hK hP 0 rfl rfl 23 (by decide) (hts _ (List.mem_of_getElem? (i := 3) rfl)) rfl dX10_load_30 ?_
  refine z_toL (cB h o s_ i.toNat f) rfl ?_
  refine z_lconst hx hb 0 dX10_load_33 rfl ?_
  refine z_lcmp_ne (tgt := 41) hx hb (by omega) (by decide) dX10_load_34 dX10_load_35 (by decide) (fun cq9 => False.elim (by omega)) (fun cq9 => ?_)
  refine z_ldc hx hb (-2000000003) hown (hts _ (List.mem_of_getElem? (i := 4) rfl)) rfl dX10_load_38 ?_
  exact z_reti p2_8 [0, 1, 2, 3] hx hb hr rfl hlocks hK hP hD hS (rfl) trivial rfl rfl (rfl) (Nat.le_of_ble_eq_true rfl) (Nat.le_of_ble_eq_true rfl) dX10_load_40

set_option maxHeartbeats 4000000 in
set_option maxRecDepth 100000 in
theorem c_X10_load_ok (l : Launch) (g : zG) (q : Nat) (a : Nat → Nat) (x : Nat → Int) (S : RS) (b : Nat) (h : Nat → Int) (o : Nat → Int) (l_ : Nat → Int) (pp : Nat → Int) (wh : Nat → Int) (s_ : Int) (i : Int) (f : Int) (u : Nat) (hN : nok (x 0) b h o l_) (hx1 : x 1 = (b : Int)) (hs : -2147483648 ≤ s_ ∧ s_ < 2147483648) (hi : -2147483648 ≤ i ∧ i < 2147483648) (hf : -2147483648 ≤ f ∧ f < 2147483648) (hu : x 2 = (u : Int)) (hu8 : u ≤ 8) (hu1 : (0 ≤ i ∧ i ≤ (b : Int) - 1)) (ho : ((0 ≤ s_ ∧ s_ ≤ 3) ∧ (0 ≤ f ∧ f ≤ 9))) (hc : 0 < (cB h o s_ i.toNat f)) : zMet l g yX10_load wsX10_load 2 0 0 [.ref q, vI s_, vI i, vI f] zX0 [[mdl q a x], [((a 0), .inl (g.2 1, 88, .inr (.inl (aL S.1))))], [((a 1), .inl (g.2 1, 88, .inr (.inl (aL S.2.1))))], [((a 2), .inl (g.2 0, 6, .inl (aI h)))], [((a 3), .inl (g.2 0, 18, .inl (aI o)))], [((a 13), .inl (g.2 1, 3, .inr (.inl (aL pp))))], [((a 14), .inl (g.2 1, 6, .inr (.inl (aL wh))))]] (qi g (fun (u_ : (Nat → Int) × (Nat → Int)) => 1) (fun (u_ : (Nat → Int) × (Nat → Int)) => (wq u_.2 (cP0 (x 0) h o s_ i.toNat f) (cP1 (x 0) h o s_ i.toNat f) (cP2 (x 0) h o s_ i.toNat f))) (fun (u_ : (Nat → Int) × (Nat → Int)) => [[mdl q a (uI (uI x 2 (((min (u + 1) 8) : Nat) : Int)) 10 (cB h o s_ i.toNat f))], [((a 0), .inl (g.2 1, 88, .inr (.inl (aL (ld6 u_.2 (cB h o s_ i.toNat f) (kpS u S)).1))))], [((a 1), .inl (g.2 1, 88, .inr (.inl (aL (ld6 u_.2 (cB h o s_ i.toNat f) (kpS u S)).2.1))))], [((a 2), .inl (g.2 0, 6, .inl (aI h)))], [((a 3), .inl (g.2 0, 18, .inl (aI o)))], [((a 13), .inl (g.2 1, 3, .inr (.inl (aL u_.1))))], [((a 14), .inl (g.2 1, 6, .inr (.inl (aL u_.2))))]])) := by
  obtain ⟨hn1, hn2, hn3, hn4, hn5, hn6, hn7⟩ := id hN
  refine z_ent (cc := cX10_load) (maxL := 5) (ret := (some .int)) (by decide) rfl (Nat.le_of_ble_eq_true rfl) ?_
  intro p e s m below meth c A ls hx hb hr hml hown hts hlocks hin0 hA hK hP hD hS hXX hl
  have hown : s.vm.findClass RX10 = some m.cls := hown
  have hin10_ : ∀ w ∈ wsX100, w ∈ wsX10_load := zw_in [54, 55, 56, 57, 58, 59, 60, 61, 62, 63, 64, 65, 66, 67, 68, 69, 70, 71, 72, 73, 74, 75, 76, 77, 78, 79] rfl
  have hl : lv_has ls 5 [(0, .ref q), (1, vI s_), (2, vI i), (3, vI f)] := hl
  refine lv_aload_n hx hb dX10_load_0 rfl (lv_at hl 0 rfl) ?_
  refine lv_iload_n hx hb dX10_load_1 rfl (lv_at hl 2 rfl) ?_
  refine z_cVi (As := [vI i]) (rest := []) ⟨hx, hb, hml, hown, hts⟩ hK hP hD hS hA [0] [1, 2, 3, 4, 5, 6] rfl rfl rfl (c_X10_isBus l g q a x i (by omega) (by omega)) (cwV 1 hts gX10_load_X10_isBus rfl rfl rfl (by decide +kernel) ⟨Nat.le_of_ble_eq_true rfl, Nat.le_of_ble_eq_true rfl⟩) 10 0 rfl rfl rfl (fun _ _ _ _ _ _ => trivial) (fun _ _ _ => trivial) rfl hl.1 (Nat.le_of_ble_eq_true rfl) rfl dX10_load_2 ⟨Nat.le_of_ble_eq_true rfl, Nat.le_of_ble_eq_true rfl⟩ (fun u_1 H locs hwu_1 hP hD hS => ?_)
  try dsimp only at hwu_1
  have hP : zP g [[((a 0), .inl (g.2 1, 88, .inr (.inl (aL S.1))))], [((a 1), .inl (g.2 1, 88, .inr (.inl (aL S.2.1))))], [((a 2), .inl (g.2 0, 6, .inl (aI h)))], [((a 3), .inl (g.2 0, 18, .inl (aI o)))], [((a 13), .inl (g.2 1, 3, .inr (.inl (aL pp))))], [((a 14), .inl (g.2 1, 6, .inr (.inl (aL wh))))], [mdl q a x]] H := hP
  have hD : zD A [[((a 0), .inl (g.2 1, 88, .inr (.inl (aL S.1))))], [((a 1), .inl (g.2 1, 88, .inr (.inl (aL S.2.1))))], [((a 2), .inl (g.2 0, 6, .inl (aI h)))], [((a 3), .inl (g.2 0, 18, .inl (aI o)))], [((a 13), .inl (g.2 1, 3, .inr (.inl (aL pp))))], [((a 14), .inl (g.2 1, 6, .inr (.inl (aL wh))))], [mdl q a x]] := hD
  refine z_toI (inI i 0 (x 1 - 1)) rfl ?_
  have hf_2 := inI_s i 0 (x 1 - 1)
  refine z_if_ne (tgt := 11) hx hb (by omega) dX10_load_5 (by decide) (fun cq3 => ?_) (fun cq3 => False.elim (by omega))
  refine lv_iload_n hx hb dX10_load_11 rfl (lv_at hl 1 rfl) ?_
  refine lv_iload_n hx hb dX10_load_12 rfl (lv_at hl 3 rfl) ?_
  refine z_cSi (As := [vI s_, vI f]) (rest := []) ⟨hx, hb, hml, hown, hts⟩ hK hP hD hS hA [] [0, 1, 2, 3, 4, 5, 6] rfl rfl rfl (c_X10_isSort l g s_ f (by first | assumption | omega | decide) (by first | assumption | omega | decide)) (va_cwS 2 hts gX10_load_X10_isSort rfl rfl rfl (by decide +kernel) ⟨Nat.le_of_ble_eq_true rfl, Nat.le_of_ble_eq_true rfl⟩) (fun _ _ _ _ _ _ => trivial) (fun _ _ _ => trivial) rfl hl.1 (Nat.le_of_ble_eq_true rfl) rfl dX10_load_13 ⟨Nat.le_of_ble_eq_true rfl, Nat.le_of_ble_eq_true rfl⟩ (fun u_4 H locs hwu_4 hP hD hS => ?_)
  try dsimp only at hwu_4
  have hP : zP g [[((a 0), .inl (g.2 1, 88, .inr (.inl (aL S.1))))], [((a 1), .inl (g.2 1, 88, .inr (.inl (aL S.2.1))))], [((a 2), .inl (g.2 0, 6, .inl (aI h)))], [((a 3), .inl (g.2 0, 18, .inl (aI o)))], [((a 13), .inl (g.2 1, 3, .inr (.inl (aL pp))))], [((a 14), .inl (g.2 1, 6, .inr (.inl (aL wh))))], [mdl q a x]] H := hP
  have hD : zD A [[((a 0), .inl (g.2 1, 88, .inr (.inl (aL S.1))))], [((a 1), .inl (g.2 1, 88, .inr (.inl (aL S.2.1))))], [((a 2), .inl (g.2 0, 6, .inl (aI h)))], [((a 3), .inl (g.2 0, 18, .inl (aI o)))], [((a 13), .inl (g.2 1, 3, .inr (.inl (aL pp))))], [((a 14), .inl (g.2 1, 6, .inr (.inl (aL wh))))], [mdl q a x]] := hD
  refine z_toI (one ((0 ≤ s_ ∧ s_ ≤ 3) ∧ (0 ≤ f ∧ f ≤ 9))) rfl ?_
  have hf_5 := one_s ((0 ≤ s_ ∧ s_ ≤ 3) ∧ (0 ≤ f ∧ f ≤ 9))
  refine z_if_ne (tgt := 22) hx hb (by omega) dX10_load_16 (by decide) (fun cq6 => ?_) (fun cq6 => False.elim (by omega))
  refine lv_aload_n hx hb dX10_load_22 rfl (lv_at hl 0 rfl) ?_
  refine lv_iload_n hx hb dX10_load_23 rfl (lv_at hl 1 rfl) ?_
  refine lv_iload_n hx hb dX10_load_24 rfl (lv_at hl 2 rfl) ?_
  refine z_toI ((i.toNat : Nat) : Int) (by omega) ?_
  refine lv_iload_n hx hb dX10_load_25 rfl (lv_at hl 3 rfl) ?_
  refine z_cVv (As := [vI s_, vI ((i.toNat : Nat) : Int), vI f]) (rest := []) ⟨hx, hb, hml, hown, hts⟩ hK hP hD hS hA [6, 2, 3, 4] [0, 1, 5] rfl rfl rfl (c_X10_layFault l g q a x b h o l_ pp s_ i.toNat f hN (by omega) (by omega) (by omega)) (cwV 3 hts gX10_load_X10_layFault rfl rfl rfl (by decide +kernel) ⟨Nat.le_of_ble_eq_true rfl, Nat.le_of_ble_eq_true rfl⟩) 10 0 rfl rfl rfl (fun _ _ _ _ _ _ => trivial) (fun _ _ _ => trivial) rfl hl.1 (Nat.le_of_ble_eq_true rfl) rfl dX10_load_26 ⟨Nat.le_of_ble_eq_true rfl, Nat.le_of_ble_eq_true rfl⟩ (fun u_7 H locs hwu_7 hP hD hS => ?_)
  obtain ⟨p2_8, rfl⟩ : ∃ z_, z_ = u_7 := ⟨_, rfl⟩
  try dsimp only at hwu_7
  have hP : zP g [[((a 0), .inl (g.2 1, 88, .inr (.inl (aL S.1))))], [((a 1), .inl (g.2 1, 88, .inr (.inl (aL S.2.1))))], [((a 14), .inl (g.2 1, 6, .inr (.inl (aL wh))))], [mdl q a (uI x 10 (cB h o s_ i.toNat f))], [((a 2), .inl (g.2 0, 6, .inl (aI h)))], [((a 3), .inl (g.2 0, 18, .inl (aI o)))], [((a 13), .inl (g.2 1, 3, .inr (.inl (aL p2_8))))]] H := hP
  have hD : zD A [[((a 0), .inl (g.2 1, 88, .inr (.inl (aL S.1))))], [((a 1), .inl (g.2 1, 88, .inr (.inl (aL S.2.1))))], [((a 14), .inl (g.2 1, 6, .inr (.inl (aL wh))))], [mdl q a (uI x 10 (cB h o s_ i.toNat f))], [((a 2), .inl (g.2 0, 6, .inl (aI h)))], [((a 3), .inl (g.2 0, 18, .inl (aI o)))], [((a 13), .inl (g.2 1, 3, .inr (.inl (aL p2_8))))]] := hD
  have hpp := hwu_7
  have hbd := cur_bd hN s_ (i := i.toNat) (by omega) (f := f) (by omega)
  have hb3 := hbd.2.2.2
  refine lv_aload_n hx hb dX10_load_29 rfl (lv_at hl 0 rfl) ?_
  refine z_get hx hb hts hin10_ hown hK hP 3 rfl rfl 23 (by decide) (hts _ (List.mem_of_getElem? (i := 3) rfl)) rfl dX10_load_30 ?_
  refine z_toL (cB h o s_ i.toNat f) rfl ?_
  refine z_lconst hx hb 0 dX10_load_33 rfl ?_
  refine z_lcmp_ne (tgt := 41) hx hb (by omega) (by decide) dX10_load_34 dX10_load_35 (by decide) (fun cq9 => ?_) (fun cq9 => False.elim (by omega))
  refine lv_aload_n hx hb dX10_load_41 rfl (lv_at hl 0 rfl) ?_
  refine z_cVv (As := []) (rest := []) ⟨hx, hb, hml, hown, hts⟩ hK hP hD hS hA [3, 0, 1] [2, 4, 5, 6] rfl rfl rfl (c_X10_kp l g q a (uI x 10 (cB h o s_ i.toNat f)) S u hu hu8) (cwV 0 hts gX10_load_X10_keepPast rfl rfl rfl (by decide +kernel) ⟨Nat.le_of_ble_eq_true rfl, Nat.le_of_ble_eq_true rfl⟩) 10 0 rfl rfl rfl (fun _ _ _ _ _ _ => trivial) (fun _ _ _ => trivial) rfl hl.1 (Nat.le_of_ble_eq_true rfl) rfl dX10_load_42 ⟨Nat.le_of_ble_eq_true rfl, Nat.le_of_ble_eq_true rfl⟩ (fun u_10 H locs hwu_10 hP hD hS => ?_)
  try dsimp only at hwu_10
  have hP : zP g [[((a 14), .inl (g.2 1, 6, .inr (.inl (aL wh))))], [((a 2), .inl (g.2 0, 6, .inl (aI h)))], [((a 3), .inl (g.2 0, 18, .inl (aI o)))], [((a 13), .inl (g.2 1, 3, .inr (.inl (aL p2_8))))], [mdl q a (uI (uI x 2 (((min (u + 1) 8) : Nat) : Int)) 10 (cB h o s_ i.toNat f))], [((a 0), .inl (g.2 1, 88, .inr (.inl (aL (kpS u S).1))))], [((a 1), .inl (g.2 1, 88, .inr (.inl (aL (kpS u S).2.1))))]] H := hP
  have hD : zD A [[((a 14), .inl (g.2 1, 6, .inr (.inl (aL wh))))], [((a 2), .inl (g.2 0, 6, .inl (aI h)))], [((a 3), .inl (g.2 0, 18, .inl (aI o)))], [((a 13), .inl (g.2 1, 3, .inr (.inl (aL p2_8))))], [mdl q a (uI (uI x 2 (((min (u + 1) 8) : Nat) : Int)) 10 (cB h o s_ i.toNat f))], [((a 0), .inl (g.2 1, 88, .inr (.inl (aL (kpS u S).1))))], [((a 1), .inl (g.2 1, 88, .inr (.inl (aL (kpS u S).2.1))))]] := hD
  refine lv_aload_n hx hb dX10_load_45 rfl (lv_at hl 0 rfl) ?_
  refine z_cVv (As := []) (rest := []) ⟨hx, hb, hml, hown, hts⟩ hK hP hD hS hA [4, 3, 0] [1, 2, 5, 6] rfl rfl rfl (c_X10_layPhases l g q a (uI (uI x 2 (((min (u + 1) 8) : Nat) : Int)) 10 (cB h o s_ i.toNat f)) p2_8 wh ) (cwV 0 hts gX10_load_X10_layPhases rfl rfl rfl (by decide +kernel) ⟨Nat.le_of_ble_eq_true rfl, Nat.le_of_ble_eq_true rfl⟩) 10 0 rfl rfl rfl (fun _ _ _ _ _ _ => trivial) (fun _ _ _ => trivial) rfl hl.1 (Nat.le_of_ble_eq_true rfl) rfl dX10_load_46 ⟨Nat.le_of_ble_eq_true rfl, Nat.le_of_ble_eq_true rfl⟩ (fun u_11 H locs hwu_11 hP hD hS => ?_)
  obtain ⟨w2_12, rfl⟩ : ∃ z_, z_ = u_11 := ⟨_, rfl⟩
  try dsimp only at hwu_11
  have hP : zP g [[((a 2), .inl (g.2 0, 6, .inl (aI h)))], [((a 3), .inl (g.2 0, 18, .inl (aI o)))], [((a 0), .inl (g.2 1, 88, .inr (.inl (aL (kpS u S).1))))], [((a 1), .inl (g.2 1, 88, .inr (.inl (aL (kpS u S).2.1))))], [mdl q a (uI (uI x 2 (((min (u + 1) 8) : Nat) : Int)) 10 (cB h o s_ i.toNat f))], [((a 13), .inl (g.2 1, 3, .inr (.inl (aL p2_8))))], [((a 14), .inl (g.2 1, 6, .inr (.inl (aL w2_12))))]] H := hP
  have hD : zD A [[((a 2), .inl (g.2 0, 6, .inl (aI h)))], [((a 3), .inl (g.2 0, 18, .inl (aI o)))], [((a 0), .inl (g.2 1, 88, .inr (.inl (aL (kpS u S).1))))], [((a 1), .inl (g.2 1, 88, .inr (.inl (aL (kpS u S).2.1))))], [mdl q a (uI (uI x 2 (((min (u + 1) 8) : Nat) : Int)) 10 (cB h o s_ i.toNat f))], [((a 13), .inl (g.2 1, 3, .inr (.inl (aL p2_8))))], [((a 14), .inl (g.2 1, 6, .inr (.inl (aL w2_12))))]] := hD
  have hwq := wq_of hpp hwu_11
  have hwb := wq_b hwq hbd (by decide)
  have hwn := wN_b hwb
  refine z_iconst hx hb dX10_load_49 rfl ?_
  refine lv_istore (lv' := [(4, vI 0), (0, .ref q), (1, vI s_), (2, vI i), (3, vI f)]) hx hb dX10_load_50 hl (by decide) rfl (fun ls hl => ?_)
  refine lv_iload hx hb dX10_load_52 (lv_at hl 0 rfl) ?_
  refine z_bipush hx hb 6 dX10_load_54 rfl ?_
  refine z_icmp_ge (tgt := 82) hx hb (by decide) (by decide) dX10_load_56 (by decide) (fun cq13 => False.elim (by omega)) (fun cq13 => ?_)
  refine lv_aload_n hx hb dX10_load_59 rfl (lv_at hl 1 rfl) ?_
  refine lv_iload hx hb dX10_load_60 (lv_at hl 0 rfl) ?_
  refine lv_aload_n hx hb dX10_load_62 rfl (lv_at hl 1 rfl) ?_
  refine z_get hx hb hts hin10_ hown hK hP 4 rfl rfl 25 (by decide) (hts _ (List.mem_of_getElem? (i := 5) rfl)) rfl dX10_load_63 ?_
  refine lv_iload hx hb dX10_load_66 (lv_at hl 0 rfl) ?_
  refine z_lald hx hb hK hP 6 rfl 0 rfl (by decide) (by decide) dX10_load_68 ?_
  refine lv_aload_n hx hb dX10_load_69 rfl (lv_at hl 1 rfl) ?_
  refine z_get hx hb hts hin10_ hown hK hP 4 rfl rfl 23 (by decide) (hts _ (List.mem_of_getElem? (i := 3) rfl)) rfl dX10_load_70 ?_
  refine z_toL (cB h o s_ i.toNat f) rfl ?_
  refine z_cVv (As := [vI 0, vL (w2_12 0), vL (cB h o s_ i.toNat f)]) (rest := []) ⟨hx, hb, hml, hown, hts⟩ hK hP hD hS hA [4, 2, 3] [0, 1, 5, 6] rfl rfl rfl (c_X10_lay l g q a (uI (uI x 2 (((min (u + 1) 8) : Nat) : Int)) 10 (cB h o s_ i.toNat f)) (kpS u S) 0 (w2_12 0) (cB h o s_ i.toNat f) (by have := hwb 0 (by decide); omega) (by have := hwb 0 (by decide); omega) (by have := hwb 0 (by decide); omega)) (cwV 3 hts gX10_load_X10_lay rfl rfl rfl (by decide +kernel) ⟨Nat.le_of_ble_eq_true rfl, Nat.le_of_ble_eq_true rfl⟩) 10 0 rfl rfl rfl (fun _ _ _ _ _ _ => trivial) (fun _ _ _ => trivial) rfl hl.1 (Nat.le_of_ble_eq_true rfl) rfl dX10_load_73 ⟨Nat.le_of_ble_eq_true rfl, Nat.le_of_ble_eq_true rfl⟩ (fun u_14 H locs hwu_14 hP hD hS => ?_)
  try dsimp only at hwu_14
  have hP : zP g [[((a 2), .inl (g.2 0, 6, .inl (aI h)))], [((a 3), .inl (g.2 0, 18, .inl (aI o)))], [((a 13), .inl (g.2 1, 3, .inr (.inl (aL p2_8))))], [((a 14), .inl (g.2 1, 6, .inr (.inl (aL w2_12))))], [mdl q a (uI (uI x 2 (((min (u + 1) 8) : Nat) : Int)) 10 (cB h o s_ i.toNat f))], [((a 0), .inl (g.2 1, 88, .inr (.inl (aL (rLy 0 (w2_12 0) (cB h o s_ i.toNat f) (kpS u S)).1))))], [((a 1), .inl (g.2 1, 88, .inr (.inl (aL (rLy 0 (w2_12 0) (cB h o s_ i.toNat f) (kpS u S)).2.1))))]] H := hP
  have hD : zD A [[((a 2), .inl (g.2 0, 6, .inl (aI h)))], [((a 3), .inl (g.2 0, 18, .inl (aI o)))], [((a 13), .inl (g.2 1, 3, .inr (.inl (aL p2_8))))], [((a 14), .inl (g.2 1, 6, .inr (.inl (aL w2_12))))], [mdl q a (uI (uI x 2 (((min (u + 1) 8) : Nat) : Int)) 10 (cB h o s_ i.toNat f))], [((a 0), .inl (g.2 1, 88, .inr (.inl (aL (rLy 0 (w2_12 0) (cB h o s_ i.toNat f) (kpS u S)).1))))], [((a 1), .inl (g.2 1, 88, .inr (.inl (aL (rLy 0 (w2_12 0) (cB h o s_ i.toNat f) (kpS u S)).2.1))))]] := hD
  refine z_iinc hx hb 1 (lv' := [(4, vI 1), (0, .ref q), (1, vI s_), (2, vI i), (3, vI f)]) dX10_load_76 hl (k := 0) rfl (rfl) (by decide) rfl (fun ls hl => ?_)
  refine lv_goto (tgt := 52) hx hb dX10_load_79 (by decide) ?_
  refine lv_iload hx hb dX10_load_52 (lv_at hl 0 rfl) ?_
  refine z_bipush hx hb 6 dX10_load_54 rfl ?_
  refine z_icmp_ge (tgt := 82) hx hb (by decide) (by decide) dX10_load_56 (by decide) (fun cq15 => False.elim (by omega)) (fun cq15 => ?_)
  refine lv_aload_n hx hb dX10_load_59 rfl (lv_at hl 1 rfl) ?_
  refine lv_iload hx hb dX10_load_60 (lv_at hl 0 rfl) ?_
  refine lv_aload_n hx hb dX10_load_62 rfl (lv_at hl 1 rfl) ?_
  refine z_get hx hb hts hin10_ hown hK hP 4 rfl rfl 25 (by decide) (hts _ (List.mem_of_getElem? (i := 5) rfl)) rfl dX10_load_63 ?_
  refine lv_iload hx hb dX10_load_66 (lv_at hl 0 rfl) ?_
  refine z_lald hx hb hK hP 3 rfl 1 rfl (by decide) (by decide) dX10_load_68 ?_
  refine lv_aload_n hx hb dX10_load_69 rfl (lv_at hl 1 rfl) ?_
  refine z_get hx hb hts hin10_ hown hK hP 4 rfl rfl 23 (by decide) (hts _ (List.mem_of_getElem? (i := 3) rfl)) rfl dX10_load_70 ?_
  refine z_toL (cB h o s_ i.toNat f) rfl ?_
  refine z_cVv (As := [vI 1, vL (w2_12 1), vL (cB h o s_ i.toNat f)]) (rest := []) ⟨hx, hb, hml, hown, hts⟩ hK hP hD hS hA [4, 5, 6] [0, 1, 2, 3] rfl rfl rfl (c_X10_lay l g q a (uI (uI x 2 (((min (u + 1) 8) : Nat) : Int)) 10 (cB h o s_ i.toNat f)) (rLy 0 (w2_12 0) (cB h o s_ i.toNat f) (kpS u S)) 1 (w2_12 1) (cB h o s_ i.toNat f) (by have := hwb 1 (by decide); omega) (by have := hwb 1 (by decide); omega) (by have := hwb 1 (by decide); omega)) (cwV 3 hts gX10_load_X10_lay rfl rfl rfl (by decide +kernel) ⟨Nat.le_of_ble_eq_true rfl, Nat.le_of_ble_eq_true rfl⟩) 10 0 rfl rfl rfl (fun _ _ _ _ _ _ => trivial) (fun _ _ _ => trivial) rfl hl.1 (Nat.le_of_ble_eq_true rfl) rfl dX10_load_73 ⟨Nat.le_of_ble_eq_true rfl, Nat.le_of_ble_eq_true rfl⟩ (fun u_16 H locs hwu_16 hP hD hS => ?_)
  try dsimp only at hwu_16
  have hP : zP g [[((a 2), .inl (g.2 0, 6, .inl (aI h)))], [((a 3), .inl (g.2 0, 18, .inl (aI o)))], [((a 13), .inl (g.2 1, 3, .inr (.inl (aL p2_8))))], [((a 14), .inl (g.2 1, 6, .inr (.inl (aL w2_12))))], [mdl q a (uI (uI x 2 (((min (u + 1) 8) : Nat) : Int)) 10 (cB h o s_ i.toNat f))], [((a 0), .inl (g.2 1, 88, .inr (.inl (aL (rLy 1 (w2_12 1) (cB h o s_ i.toNat f) (rLy 0 (w2_12 0) (cB h o s_ i.toNat f) (kpS u S))).1))))], [((a 1), .inl (g.2 1, 88, .inr (.inl (aL (rLy 1 (w2_12 1) (cB h o s_ i.toNat f) (rLy 0 (w2_12 0) (cB h o s_ i.toNat f) (kpS u S))).2.1))))]] H := hP
  have hD : zD A [[((a 2), .inl (g.2 0, 6, .inl (aI h)))], [((a 3), .inl (g.2 0, 18, .inl (aI o)))], [((a 13), .inl (g.2 1, 3, .inr (.inl (aL p2_8))))], [((a 14), .inl (g.2 1, 6, .inr (.inl (aL w2_12))))], [mdl q a (uI (uI x 2 (((min (u + 1) 8) : Nat) : Int)) 10 (cB h o s_ i.toNat f))], [((a 0), .inl (g.2 1, 88, .inr (.inl (aL (rLy 1 (w2_12 1) (cB h o s_ i.toNat f) (rLy 0 (w2_12 0) (cB h o s_ i.toNat f) (kpS u S))).1))))], [((a 1), .inl (g.2 1, 88, .inr (.inl (aL (rLy 1 (w2_12 1) (cB h o s_ i.toNat f) (rLy 0 (w2_12 0) (cB h o s_ i.toNat f) (kpS u S))).2.1))))]] := hD
  refine z_iinc hx hb 2 (lv' := [(4, vI 2), (0, .ref q), (1, vI s_), (2, vI i), (3, vI f)]) dX10_load_76 hl (k := 0) rfl (rfl) (by decide) rfl (fun ls hl => ?_)
  refine lv_goto (tgt := 52) hx hb dX10_load_79 (by decide) ?_
  refine lv_iload hx hb dX10_load_52 (lv_at hl 0 rfl) ?_
  refine z_bipush hx hb 6 dX10_load_54 rfl ?_
  refine z_icmp_ge (tgt := 82) hx hb (by decide) (by decide) dX10_load_56 (by decide) (fun cq17 => False.elim (by omega)) (fun cq17 => ?_)
  refine lv_aload_n hx hb dX10_load_59 rfl (lv_at hl 1 rfl) ?_
  refine lv_iload hx hb dX10_load_60 (lv_at hl 0 rfl) ?_
  refine lv_aload_n hx hb dX10_load_62 rfl (lv_at hl 1 rfl) ?_
  refine z_get hx hb hts hin10_ hown hK hP 4 rfl rfl 25 (by decide) (hts _ (List.mem_of_getElem? (i := 5) rfl)) rfl dX10_load_63 ?_
  refine lv_iload hx hb dX10_load_66 (lv_at hl 0 rfl) ?_
  refine z_lald hx hb hK hP 3 rfl 2 rfl (by decide) (by decide) dX10_load_68 ?_
  refine lv_aload_n hx hb dX10_load_69 rfl (lv_at hl 1 rfl) ?_
  refine z_get hx hb hts hin10_ hown hK hP 4 rfl rfl 23 (by decide) (hts _ (List.mem_of_getElem? (i := 3) rfl)) rfl dX10_load_70 ?_
  refine z_toL (cB h o s_ i.toNat f) rfl ?_
  refine z_cVv (As := [vI 2, vL (w2_12 2), vL (cB h o s_ i.toNat f)]) (rest := []) ⟨hx, hb, hml, hown, hts⟩ hK hP hD hS hA [4, 5, 6] [0, 1, 2, 3] rfl rfl rfl (c_X10_lay l g q a (uI (uI x 2 (((min (u + 1) 8) : Nat) : Int)) 10 (cB h o s_ i.toNat f)) (rLy 1 (w2_12 1) (cB h o s_ i.toNat f) (rLy 0 (w2_12 0) (cB h o s_ i.toNat f) (kpS u S))) 2 (w2_12 2) (cB h o s_ i.toNat f) (by have := hwb 2 (by decide); omega) (by have := hwb 2 (by decide); omega) (by have := hwb 2 (by decide); omega)) (cwV 3 hts gX10_load_X10_lay rfl rfl rfl (by decide +kernel) ⟨Nat.le_of_ble_eq_true rfl, Nat.le_of_ble_eq_true rfl⟩) 10 0 rfl rfl rfl (fun _ _ _ _ _ _ => trivial) (fun _ _ _ => trivial) rfl hl.1 (Nat.le_of_ble_eq_true rfl) rfl dX10_load_73 ⟨Nat.le_of_ble_eq_true rfl, Nat.le_of_ble_eq_true rfl⟩ (fun u_18 H locs hwu_18 hP hD hS => ?_)
  try dsimp only at hwu_18
  have hP : zP g [[((a 2), .inl (g.2 0, 6, .inl (aI h)))], [((a 3), .inl (g.2 0, 18, .inl (aI o)))], [((a 13), .inl (g.2 1, 3, .inr (.inl (aL p2_8))))], [((a 14), .inl (g.2 1, 6, .inr (.inl (aL w2_12))))], [mdl q a (uI (uI x 2 (((min (u + 1) 8) : Nat) : Int)) 10 (cB h o s_ i.toNat f))], [((a 0), .inl (g.2 1, 88, .inr (.inl (aL (rLy 2 (w2_12 2) (cB h o s_ i.toNat f) (rLy 1 (w2_12 1) (cB h o s_ i.toNat f) (rLy 0 (w2_12 0) (cB h o s_ i.toNat f) (kpS u S)))).1))))], [((a 1), .inl (g.2 1, 88, .inr (.inl (aL (rLy 2 (w2_12 2) (cB h o s_ i.toNat f) (rLy 1 (w2_12 1) (cB h o s_ i.toNat f) (rLy 0 (w2_12 0) (cB h o s_ i.toNat f) (kpS u S)))).2.1))))]] H := hP
  have hD : zD A [[((a 2), .inl (g.2 0, 6, .inl (aI h)))], [((a 3), .inl (g.2 0, 18, .inl (aI o)))], [((a 13), .inl (g.2 1, 3, .inr (.inl (aL p2_8))))], [((a 14), .inl (g.2 1, 6, .inr (.inl (aL w2_12))))], [mdl q a (uI (uI x 2 (((min (u + 1) 8) : Nat) : Int)) 10 (cB h o s_ i.toNat f))], [((a 0), .inl (g.2 1, 88, .inr (.inl (aL (rLy 2 (w2_12 2) (cB h o s_ i.toNat f) (rLy 1 (w2_12 1) (cB h o s_ i.toNat f) (rLy 0 (w2_12 0) (cB h o s_ i.toNat f) (kpS u S)))).1))))], [((a 1), .inl (g.2 1, 88, .inr (.inl (aL (rLy 2 (w2_12 2) (cB h o s_ i.toNat f) (rLy 1 (w2_12 1) (cB h o s_ i.toNat f) (rLy 0 (w2_12 0) (cB h o s_ i.toNat f) (kpS u S)))).2.1))))]] := hD
  refine z_iinc hx hb 3 (lv' := [(4, vI 3), (0, .ref q), (1, vI s_), (2, vI i), (3, vI f)]) dX10_load_76 hl (k := 0) rfl (rfl) (by decide) rfl (fun ls hl => ?_)
  refine lv_goto (tgt := 52) hx hb dX10_load_79 (by decide) ?_
  refine lv_iload hx hb dX10_load_52 (lv_at hl 0 rfl) ?_
  refine z_bipush hx hb 6 dX10_load_54 rfl ?_
  refine z_icmp_ge (tgt := 82) hx hb (by decide) (by decide) dX10_load_56 (by decide) (fun cq19 => False.elim (by omega)) (fun cq19 => ?_)
  refine lv_aload_n hx hb dX10_load_59 rfl (lv_at hl 1 rfl) ?_
  refine lv_iload hx hb dX10_load_60 (lv_at hl 0 rfl) ?_
  refine lv_aload_n hx hb dX10_load_62 rfl (lv_at hl 1 rfl) ?_
  refine z_get hx hb hts hin10_ hown hK hP 4 rfl rfl 25 (by decide) (hts _ (List.mem_of_getElem? (i := 5) rfl)) rfl dX10_load_63 ?_
  refine lv_iload hx hb dX10_load_66 (lv_at hl 0 rfl) ?_
  refine z_lald hx hb hK hP 3 rfl 3 rfl (by decide) (by decide) dX10_load_68 ?_
  refine lv_aload_n hx hb dX10_load_69 rfl (lv_at hl 1 rfl) ?_
  refine z_get hx hb hts hin10_ hown hK hP 4 rfl rfl 23 (by decide) (hts _ (List.mem_of_getElem? (i := 3) rfl)) rfl dX10_load_70 ?_
  refine z_toL (cB h o s_ i.toNat f) rfl ?_
  refine z_cVv (As := [vI 3, vL (w2_12 3), vL (cB h o s_ i.toNat f)]) (rest := []) ⟨hx, hb, hml, hown, hts⟩ hK hP hD hS hA [4, 5, 6] [0, 1, 2, 3] rfl rfl rfl (c_X10_lay l g q a (uI (uI x 2 (((min (u + 1) 8) : Nat) : Int)) 10 (cB h o s_ i.toNat f)) (rLy 2 (w2_12 2) (cB h o s_ i.toNat f) (rLy 1 (w2_12 1) (cB h o s_ i.toNat f) (rLy 0 (w2_12 0) (cB h o s_ i.toNat f) (kpS u S)))) 3 (w2_12 3) (cB h o s_ i.toNat f) (by have := hwb 3 (by decide); omega) (by have := hwb 3 (by decide); omega) (by have := hwb 3 (by decide); omega)) (cwV 3 hts gX10_load_X10_lay rfl rfl rfl (by decide +kernel) ⟨Nat.le_of_ble_eq_true rfl, Nat.le_of_ble_eq_true rfl⟩) 10 0 rfl rfl rfl (fun _ _ _ _ _ _ => trivial) (fun _ _ _ => trivial) rfl hl.1 (Nat.le_of_ble_eq_true rfl) rfl dX10_load_73 ⟨Nat.le_of_ble_eq_true rfl, Nat.le_of_ble_eq_true rfl⟩ (fun u_20 H locs hwu_20 hP hD hS => ?_)
  try dsimp only at hwu_20
  have hP : zP g [[((a 2), .inl (g.2 0, 6, .inl (aI h)))], [((a 3), .inl (g.2 0, 18, .inl (aI o)))], [((a 13), .inl (g.2 1, 3, .inr (.inl (aL p2_8))))], [((a 14), .inl (g.2 1, 6, .inr (.inl (aL w2_12))))], [mdl q a (uI (uI x 2 (((min (u + 1) 8) : Nat) : Int)) 10 (cB h o s_ i.toNat f))], [((a 0), .inl (g.2 1, 88, .inr (.inl (aL (rLy 3 (w2_12 3) (cB h o s_ i.toNat f) (rLy 2 (w2_12 2) (cB h o s_ i.toNat f) (rLy 1 (w2_12 1) (cB h o s_ i.toNat f) (rLy 0 (w2_12 0) (cB h o s_ i.toNat f) (kpS u S))))).1))))], [((a 1), .inl (g.2 1, 88, .inr (.inl (aL (rLy 3 (w2_12 3) (cB h o s_ i.toNat f) (rLy 2 (w2_12 2) (cB h o s_ i.toNat f) (rLy 1 (w2_12 1) (cB h o s_ i.toNat f) (rLy 0 (w2_12 0) (cB h o s_ i.toNat f) (kpS u S))))).2.1))))]] H := hP
  have hD : zD A [[((a 2), .inl (g.2 0, 6, .inl (aI h)))], [((a 3), .inl (g.2 0, 18, .inl (aI o)))], [((a 13), .inl (g.2 1, 3, .inr (.inl (aL p2_8))))], [((a 14), .inl (g.2 1, 6, .inr (.inl (aL w2_12))))], [mdl q a (uI (uI x 2 (((min (u + 1) 8) : Nat) : Int)) 10 (cB h o s_ i.toNat f))], [((a 0), .inl (g.2 1, 88, .inr (.inl (aL (rLy 3 (w2_12 3) (cB h o s_ i.toNat f) (rLy 2 (w2_12 2) (cB h o s_ i.toNat f) (rLy 1 (w2_12 1) (cB h o s_ i.toNat f) (rLy 0 (w2_12 0) (cB h o s_ i.toNat f) (kpS u S))))).1))))], [((a 1), .inl (g.2 1, 88, .inr (.inl (aL (rLy 3 (w2_12 3) (cB h o s_ i.toNat f) (rLy 2 (w2_12 2) (cB h o s_ i.toNat f) (rLy 1 (w2_12 1) (cB h o s_ i.toNat f) (rLy 0 (w2_12 0) (cB h o s_ i.toNat f) (kpS u S))))).2.1))))]] := hD
  refine z_iinc hx hb 4 (lv' := [(4, vI 4), (0, .ref q), (1, vI s_), (2, vI i), (3, vI f)]) dX10_load_76 hl (k := 0) rfl (rfl) (by decide) rfl (fun ls hl => ?_)
  refine lv_goto (tgt := 52) hx hb dX10_load_79 (by decide) ?_
  refine lv_iload hx hb dX10_load_52 (lv_at hl 0 rfl) ?_
  refine z_bipush hx hb 6 dX10_load_54 rfl ?_
  refine z_icmp_ge (tgt := 82) hx hb (by decide) (by decide) dX10_load_56 (by decide) (fun cq21 => False.elim (by omega)) (fun cq21 => ?_)
  refine lv_aload_n hx hb dX10_load_59 rfl (lv_at hl 1 rfl) ?_
  refine lv_iload hx hb dX10_load_60 (lv_at hl 0 rfl) ?_
  refine lv_aload_n hx hb dX10_load_62 rfl (lv_at hl 1 rfl) ?_
  refine z_get hx hb hts hin10_ hown hK hP 4 rfl rfl 25 (by decide) (hts _ (List.mem_of_getElem? (i := 5) rfl)) rfl dX10_load_63 ?_
  refine lv_iload hx hb dX10_load_66 (lv_at hl 0 rfl) ?_
  refine z_lald hx hb hK hP 3 rfl 4 rfl (by decide) (by decide) dX10_load_68 ?_
  refine lv_aload_n hx hb dX10_load_69 rfl (lv_at hl 1 rfl) ?_
  refine z_get hx hb hts hin10_ hown hK hP 4 rfl rfl 23 (by decide) (hts _ (List.mem_of_getElem? (i := 3) rfl)) rfl dX10_load_70 ?_
  refine z_toL (cB h o s_ i.toNat f) rfl ?_
  refine z_cVv (As := [vI 4, vL (w2_12 4), vL (cB h o s_ i.toNat f)]) (rest := []) ⟨hx, hb, hml, hown, hts⟩ hK hP hD hS hA [4, 5, 6] [0, 1, 2, 3] rfl rfl rfl (c_X10_lay l g q a (uI (uI x 2 (((min (u + 1) 8) : Nat) : Int)) 10 (cB h o s_ i.toNat f)) (rLy 3 (w2_12 3) (cB h o s_ i.toNat f) (rLy 2 (w2_12 2) (cB h o s_ i.toNat f) (rLy 1 (w2_12 1) (cB h o s_ i.toNat f) (rLy 0 (w2_12 0) (cB h o s_ i.toNat f) (kpS u S))))) 4 (w2_12 4) (cB h o s_ i.toNat f) (by have := hwb 4 (by decide); omega) (by have := hwb 4 (by decide); omega) (by have := hwb 4 (by decide); omega)) (cwV 3 hts gX10_load_X10_lay rfl rfl rfl (by decide +kernel) ⟨Nat.le_of_ble_eq_true rfl, Nat.le_of_ble_eq_true rfl⟩) 10 0 rfl rfl rfl (fun _ _ _ _ _ _ => trivial) (fun _ _ _ => trivial) rfl hl.1 (Nat.le_of_ble_eq_true rfl) rfl dX10_load_73 ⟨Nat.le_of_ble_eq_true rfl, Nat.le_of_ble_eq_true rfl⟩ (fun u_22 H locs hwu_22 hP hD hS => ?_)
  try dsimp only at hwu_22
  have hP : zP g [[((a 2), .inl (g.2 0, 6, .inl (aI h)))], [((a 3), .inl (g.2 0, 18, .inl (aI o)))], [((a 13), .inl (g.2 1, 3, .inr (.inl (aL p2_8))))], [((a 14), .inl (g.2 1, 6, .inr (.inl (aL w2_12))))], [mdl q a (uI (uI x 2 (((min (u + 1) 8) : Nat) : Int)) 10 (cB h o s_ i.toNat f))], [((a 0), .inl (g.2 1, 88, .inr (.inl (aL (rLy 4 (w2_12 4) (cB h o s_ i.toNat f) (rLy 3 (w2_12 3) (cB h o s_ i.toNat f) (rLy 2 (w2_12 2) (cB h o s_ i.toNat f) (rLy 1 (w2_12 1) (cB h o s_ i.toNat f) (rLy 0 (w2_12 0) (cB h o s_ i.toNat f) (kpS u S)))))).1))))], [((a 1), .inl (g.2 1, 88, .inr (.inl (aL (rLy 4 (w2_12 4) (cB h o s_ i.toNat f) (rLy 3 (w2_12 3) (cB h o s_ i.toNat f) (rLy 2 (w2_12 2) (cB h o s_ i.toNat f) (rLy 1 (w2_12 1) (cB h o s_ i.toNat f) (rLy 0 (w2_12 0) (cB h o s_ i.toNat f) (kpS u S)))))).2.1))))]] H := hP
  have hD : zD A [[((a 2), .inl (g.2 0, 6, .inl (aI h)))], [((a 3), .inl (g.2 0, 18, .inl (aI o)))], [((a 13), .inl (g.2 1, 3, .inr (.inl (aL p2_8))))], [((a 14), .inl (g.2 1, 6, .inr (.inl (aL w2_12))))], [mdl q a (uI (uI x 2 (((min (u + 1) 8) : Nat) : Int)) 10 (cB h o s_ i.toNat f))], [((a 0), .inl (g.2 1, 88, .inr (.inl (aL (rLy 4 (w2_12 4) (cB h o s_ i.toNat f) (rLy 3 (w2_12 3) (cB h o s_ i.toNat f) (rLy 2 (w2_12 2) (cB h o s_ i.toNat f) (rLy 1 (w2_12 1) (cB h o s_ i.toNat f) (rLy 0 (w2_12 0) (cB h o s_ i.toNat f) (kpS u S)))))).1))))], [((a 1), .inl (g.2 1, 88, .inr (.inl (aL (rLy 4 (w2_12 4) (cB h o s_ i.toNat f) (rLy 3 (w2_12 3) (cB h o s_ i.toNat f) (rLy 2 (w2_12 2) (cB h o s_ i.toNat f) (rLy 1 (w2_12 1) (cB h o s_ i.toNat f) (rLy 0 (w2_12 0) (cB h o s_ i.toNat f) (kpS u S)))))).2.1))))]] := hD
  refine z_iinc hx hb 5 (lv' := [(4, vI 5), (0, .ref q), (1, vI s_), (2, vI i), (3, vI f)]) dX10_load_76 hl (k := 0) rfl (rfl) (by decide) rfl (fun ls hl => ?_)
  refine lv_goto (tgt := 52) hx hb dX10_load_79 (by decide) ?_
  refine lv_iload hx hb dX10_load_52 (lv_at hl 0 rfl) ?_
  refine z_bipush hx hb 6 dX10_load_54 rfl ?_
  refine z_icmp_ge (tgt := 82) hx hb (by decide) (by decide) dX10_load_56 (by decide) (fun cq23 => False.elim (by omega)) (fun cq23 => ?_)
  refine lv_aload_n hx hb dX10_load_59 rfl (lv_at hl 1 rfl) ?_
  refine lv_iload hx hb dX10_load_60 (lv_at hl 0 rfl) ?_
  refine lv_aload_n hx hb dX10_load_62 rfl (lv_at hl 1 rfl) ?_
  refine z_get hx hb hts hin10_ hown hK hP 4 rfl rfl 25 (by decide) (hts _ (List.mem_of_getElem? (i := 5) rfl)) rfl dX10_load_63 ?_
  refine lv_iload hx hb dX10_load_66 (lv_at hl 0 rfl) ?_
  refine z_lald hx hb hK hP 3 rfl 5 rfl (by decide) (by decide) dX10_load_68 ?_
  refine lv_aload_n hx hb dX10_load_69 rfl (lv_at hl 1 rfl) ?_
  refine z_get hx hb hts hin10_ hown hK hP 4 rfl rfl 23 (by decide) (hts _ (List.mem_of_getElem? (i := 3) rfl)) rfl dX10_load_70 ?_
  refine z_toL (cB h o s_ i.toNat f) rfl ?_
  refine z_cVv (As := [vI 5, vL (w2_12 5), vL (cB h o s_ i.toNat f)]) (rest := []) ⟨hx, hb, hml, hown, hts⟩ hK hP hD hS hA [4, 5, 6] [0, 1, 2, 3] rfl rfl rfl (c_X10_lay l g q a (uI (uI x 2 (((min (u + 1) 8) : Nat) : Int)) 10 (cB h o s_ i.toNat f)) (rLy 4 (w2_12 4) (cB h o s_ i.toNat f) (rLy 3 (w2_12 3) (cB h o s_ i.toNat f) (rLy 2 (w2_12 2) (cB h o s_ i.toNat f) (rLy 1 (w2_12 1) (cB h o s_ i.toNat f) (rLy 0 (w2_12 0) (cB h o s_ i.toNat f) (kpS u S)))))) 5 (w2_12 5) (cB h o s_ i.toNat f) (by have := hwb 5 (by decide); omega) (by have := hwb 5 (by decide); omega) (by have := hwb 5 (by decide); omega)) (cwV 3 hts gX10_load_X10_lay rfl rfl rfl (by decide +kernel) ⟨Nat.le_of_ble_eq_true rfl, Nat.le_of_ble_eq_true rfl⟩) 10 0 rfl rfl rfl (fun _ _ _ _ _ _ => trivial) (fun _ _ _ => trivial) rfl hl.1 (Nat.le_of_ble_eq_true rfl) rfl dX10_load_73 ⟨Nat.le_of_ble_eq_true rfl, Nat.le_of_ble_eq_true rfl⟩ (fun u_24 H locs hwu_24 hP hD hS => ?_)
  try dsimp only at hwu_24
  have hP : zP g [[((a 2), .inl (g.2 0, 6, .inl (aI h)))], [((a 3), .inl (g.2 0, 18, .inl (aI o)))], [((a 13), .inl (g.2 1, 3, .inr (.inl (aL p2_8))))], [((a 14), .inl (g.2 1, 6, .inr (.inl (aL w2_12))))], [mdl q a (uI (uI x 2 (((min (u + 1) 8) : Nat) : Int)) 10 (cB h o s_ i.toNat f))], [((a 0), .inl (g.2 1, 88, .inr (.inl (aL (rLy 5 (w2_12 5) (cB h o s_ i.toNat f) (rLy 4 (w2_12 4) (cB h o s_ i.toNat f) (rLy 3 (w2_12 3) (cB h o s_ i.toNat f) (rLy 2 (w2_12 2) (cB h o s_ i.toNat f) (rLy 1 (w2_12 1) (cB h o s_ i.toNat f) (rLy 0 (w2_12 0) (cB h o s_ i.toNat f) (kpS u S))))))).1))))], [((a 1), .inl (g.2 1, 88, .inr (.inl (aL (rLy 5 (w2_12 5) (cB h o s_ i.toNat f) (rLy 4 (w2_12 4) (cB h o s_ i.toNat f) (rLy 3 (w2_12 3) (cB h o s_ i.toNat f) (rLy 2 (w2_12 2) (cB h o s_ i.toNat f) (rLy 1 (w2_12 1) (cB h o s_ i.toNat f) (rLy 0 (w2_12 0) (cB h o s_ i.toNat f) (kpS u S))))))).2.1))))]] H := hP
  have hD : zD A [[((a 2), .inl (g.2 0, 6, .inl (aI h)))], [((a 3), .inl (g.2 0, 18, .inl (aI o)))], [((a 13), .inl (g.2 1, 3, .inr (.inl (aL p2_8))))], [((a 14), .inl (g.2 1, 6, .inr (.inl (aL w2_12))))], [mdl q a (uI (uI x 2 (((min (u + 1) 8) : Nat) : Int)) 10 (cB h o s_ i.toNat f))], [((a 0), .inl (g.2 1, 88, .inr (.inl (aL (rLy 5 (w2_12 5) (cB h o s_ i.toNat f) (rLy 4 (w2_12 4) (cB h o s_ i.toNat f) (rLy 3 (w2_12 3) (cB h o s_ i.toNat f) (rLy 2 (w2_12 2) (cB h o s_ i.toNat f) (rLy 1 (w2_12 1) (cB h o s_ i.toNat f) (rLy 0 (w2_12 0) (cB h o s_ i.toNat f) (kpS u S))))))).1))))], [((a 1), .inl (g.2 1, 88, .inr (.inl (aL (rLy 5 (w2_12 5) (cB h o s_ i.toNat f) (rLy 4 (w2_12 4) (cB h o s_ i.toNat f) (rLy 3 (w2_12 3) (cB h o s_ i.toNat f) (rLy 2 (w2_12 2) (cB h o s_ i.toNat f) (rLy 1 (w2_12 1) (cB h o s_ i.toNat f) (rLy 0 (w2_12 0) (cB h o s_ i.toNat f) (kpS u S))))))).2.1))))]] := hD
  refine z_iinc hx hb 6 (lv' := [(4, vI 6), (0, .ref q), (1, vI s_), (2, vI i), (3, vI f)]) dX10_load_76 hl (k := 0) rfl (rfl) (by decide) rfl (fun ls hl => ?_)
  refine lv_goto (tgt := 52) hx hb dX10_load_79 (by decide) ?_
  refine lv_iload hx hb dX10_load_52 (lv_at hl 0 rfl) ?_
  refine z_bipush hx hb 6 dX10_load_54 rfl ?_
  refine z_icmp_ge (tgt := 82) hx hb (by decide) (by decide) dX10_load_56 (by decide) (fun cq25 => ?_) (fun cq25 => False.elim (by omega))
  refine z_iconst hx hb dX10_load_82 rfl ?_
  exact z_reti (p2_8, w2_12) [4, 5, 6, 0, 1, 2, 3] hx hb hr rfl hlocks hK hP hD hS (rfl) hwq rfl rfl (rfl) (Nat.le_of_ble_eq_true rfl) (Nat.le_of_ble_eq_true rfl) dX10_load_83

set_option maxHeartbeats 4000000 in
set_option maxRecDepth 100000 in
theorem c_X10_current (l : Launch) (g : zG) (q : Nat) (a : Nat → Nat) (x : Nat → Int) (S : RS) (b : Nat) (h : Nat → Int) (o : Nat → Int) (l_ : Nat → Int) (pp : Nat → Int) (wh : Nat → Int) (s_ : Int) (i : Int) (f : Int) (ph : Int) (w : Int) (j : Int) (hN : nok (x 0) b h o l_) (hx1 : x 1 = (b : Int)) (hs : -2147483648 ≤ s_ ∧ s_ < 2147483648) (hi : -2147483648 ≤ i ∧ i < 2147483648) (hf : -2147483648 ≤ f ∧ f < 2147483648) (hp : -2147483648 ≤ ph ∧ ph < 2147483648) (hw : -2147483648 ≤ w ∧ w < 2147483648) (hj : -2147483648 ≤ j ∧ j < 2147483648) : zMet l g yX10_current wsX10_current 3 0 0 [.ref q, vI s_, vI i, vI f, vI ph, vI w, vI j] zX0 [[mdl q a x], [((a 0), .inl (g.2 1, 88, .inr (.inl (aL S.1))))], [((a 1), .inl (g.2 1, 88, .inr (.inl (aL S.2.1))))], [((a 2), .inl (g.2 0, 6, .inl (aI h)))], [((a 3), .inl (g.2 0, 18, .inl (aI o)))], [((a 13), .inl (g.2 1, 3, .inr (.inl (aL pp))))], [((a 14), .inl (g.2 1, 6, .inr (.inl (aL wh))))]] (ql g (fun (u_ : (Nat → Int) × (Nat → Int) × (Nat → Int) × RS) => (aCur (x 0) b h o s_ i f ph w j)) (fun (u_ : (Nat → Int) × (Nat → Int) × (Nat → Int) × RS) => (kx10 x u_.1 ∧ kp78 S u_.2.2.2)) (fun (u_ : (Nat → Int) × (Nat → Int) × (Nat → Int) × RS) => [[mdl q a u_.1], [((a 0), .inl (g.2 1, 88, .inr (.inl (aL u_.2.2.2.1))))], [((a 1), .inl (g.2 1, 88, .inr (.inl (aL u_.2.2.2.2.1))))], [((a 2), .inl (g.2 0, 6, .inl (aI h)))], [((a 3), .inl (g.2 0, 18, .inl (aI o)))], [((a 13), .inl (g.2 1, 3, .inr (.inl (aL u_.2.1))))], [((a 14), .inl (g.2 1, 6, .inr (.inl (aL u_.2.2.1))))]])) := by
  obtain ⟨hn1, hn2, hn3, hn4, hn5, hn6, hn7⟩ := id hN
  refine z_ent (cc := cX10_current) (maxL := 7) (ret := (some .long)) (by decide) rfl (Nat.le_of_ble_eq_true rfl) ?_
  intro p e s m below meth c A ls hx hb hr hml hown hts hlocks hin0 hA hK hP hD hS hXX hl
  have hown : s.vm.findClass RX10 = some m.cls := hown
  have hin10_ : ∀ w ∈ wsX100, w ∈ wsX10_current := zw_in [61, 62, 63, 64, 65, 66, 67, 68, 69, 70, 71, 72, 73, 74, 75, 76, 77, 78, 79, 80, 81, 82, 83, 84, 85, 86] rfl
  have hl : lv_has ls 7 [(0, .ref q), (1, vI s_), (2, vI i), (3, vI f), (4, vI ph), (5, vI w), (6, vI j)] := hl
  refine lv_aload_n hx hb dX10_current_0 rfl (lv_at hl 0 rfl) ?_
  refine lv_iload_n hx hb dX10_current_1 rfl (lv_at hl 2 rfl) ?_
  refine z_cVi (As := [vI i]) (rest := []) ⟨hx, hb, hml, hown, hts⟩ hK hP hD hS hA [0] [1, 2, 3, 4, 5, 6] rfl rfl rfl (c_X10_isBus l g q a x i (by omega) (by omega)) (cwV 1 hts gX10_current_X10_isBus rfl rfl rfl (by decide +kernel) ⟨Nat.le_of_ble_eq_true rfl, Nat.le_of_ble_eq_true rfl⟩) 10 0 rfl rfl rfl (fun _ _ _ _ _ _ => trivial) (fun _ _ _ => trivial) rfl hl.1 (Nat.le_of_ble_eq_true rfl) rfl dX10_current_2 ⟨Nat.le_of_ble_eq_true rfl, Nat.le_of_ble_eq_true rfl⟩ (fun u_1 H locs hwu_1 hP hD hS => ?_)
  try dsimp only at hwu_1
  have hP : zP g [[((a 0), .inl (g.2 1, 88, .inr (.inl (aL S.1))))], [((a 1), .inl (g.2 1, 88, .inr (.inl (aL S.2.1))))], [((a 2), .inl (g.2 0, 6, .inl (aI h)))], [((a 3), .inl (g.2 0, 18, .inl (aI o)))], [((a 13), .inl (g.2 1, 3, .inr (.inl (aL pp))))], [((a 14), .inl (g.2 1, 6, .inr (.inl (aL wh))))], [mdl q a x]] H := hP
  have hD : zD A [[((a 0), .inl (g.2 1, 88, .inr (.inl (aL S.1))))], [((a 1), .inl (g.2 1, 88, .inr (.inl (aL S.2.1))))], [((a 2), .inl (g.2 0, 6, .inl (aI h)))], [((a 3), .inl (g.2 0, 18, .inl (aI o)))], [((a 13), .inl (g.2 1, 3, .inr (.inl (aL pp))))], [((a 14), .inl (g.2 1, 6, .inr (.inl (aL wh))))], [mdl q a x]] := hD
  refine z_toI (inI i 0 (x 1 - 1)) rfl ?_
  have hf_2 := inI_s i 0 (x 1 - 1)
  refine z_if_eq (tgt := 16) hx hb (by omega) dX10_current_5 (by decide) (fun cq3 => ?_) (fun cq3 => ?_)
  · refine z_ldc2 hx hb (-2000000001) hown (hts _ (List.mem_of_getElem? (i := 1) rfl)) rfl dX10_current_16 ?_
    exact z_retl (x, pp, wh, S) [6, 0, 1, 2, 3, 4, 5] hx hb hr hlocks hK hP hD hS ((aCur_1 (by omega)).symm) (by first | exact ⟨kx10_r _, kp78_r _⟩ | exact ⟨kx10_u (kx10_r _), kp78_r _⟩ | exact ⟨kx10_u (kx10_r _), kp78_l (kp78_r _)⟩) rfl rfl (rfl) (Nat.le_of_ble_eq_true rfl) (Nat.le_of_ble_eq_true rfl) dX10_current_19
  · refine lv_iload hx hb dX10_current_8 (lv_at hl 4 rfl) ?_
    refine z_cSi (As := [vI ph]) (rest := []) ⟨hx, hb, hml, hown, hts⟩ hK hP hD hS hA [] [0, 1, 2, 3, 4, 5, 6] rfl rfl rfl (c_X10_isPhase l g ph (by first | assumption | omega | decide)) (va_cwS 1 hts gX10_current_X10_isPhase rfl rfl rfl (by decide +kernel) ⟨Nat.le_of_ble_eq_true rfl, Nat.le_of_ble_eq_true rfl⟩) (fun _ _ _ _ _ _ => trivial) (fun _ _ _ => trivial) rfl hl.1 (Nat.le_of_ble_eq_true rfl) rfl dX10_current_10 ⟨Nat.le_of_ble_eq_true rfl, Nat.le_of_ble_eq_true rfl⟩ (fun u_4 H locs hwu_4 hP hD hS => ?_)
    try dsimp only at hwu_4
    have hP : zP g [[((a 0), .inl (g.2 1, 88, .inr (.inl (aL S.1))))], [((a 1), .inl (g.2 1, 88, .inr (.inl (aL S.2.1))))], [((a 2), .inl (g.2 0, 6, .inl (aI h)))], [((a 3), .inl (g.2 0, 18, .inl (aI o)))], [((a 13), .inl (g.2 1, 3, .inr (.inl (aL pp))))], [((a 14), .inl (g.2 1, 6, .inr (.inl (aL wh))))], [mdl q a x]] H := hP
    have hD : zD A [[((a 0), .inl (g.2 1, 88, .inr (.inl (aL S.1))))], [((a 1), .inl (g.2 1, 88, .inr (.inl (aL S.2.1))))], [((a 2), .inl (g.2 0, 6, .inl (aI h)))], [((a 3), .inl (g.2 0, 18, .inl (aI o)))], [((a 13), .inl (g.2 1, 3, .inr (.inl (aL pp))))], [((a 14), .inl (g.2 1, 6, .inr (.inl (aL wh))))], [mdl q a x]] := hD
    refine z_toI (inI ph 0 2) rfl ?_
    have hf_5 := inI_s ph 0 2
    refine z_if_ne (tgt := 20) hx hb (by omega) dX10_current_13 (by decide) (fun cq6 => ?_) (fun cq6 => ?_)
    · refine lv_iload_n hx hb dX10_current_20 rfl (lv_at hl 1 rfl) ?_
      refine lv_iload_n hx hb dX10_current_21 rfl (lv_at hl 3 rfl) ?_
      refine z_cSi (As := [vI s_, vI f]) (rest := []) ⟨hx, hb, hml, hown, hts⟩ hK hP hD hS hA [] [0, 1, 2, 3, 4, 5, 6] rfl rfl rfl (c_X10_isSort l g s_ f (by first | assumption | omega | decide) (by first | assumption | omega | decide)) (va_cwS 2 hts gX10_current_X10_isSort rfl rfl rfl (by decide +kernel) ⟨Nat.le_of_ble_eq_true rfl, Nat.le_of_ble_eq_true rfl⟩) (fun _ _ _ _ _ _ => trivial) (fun _ _ _ => trivial) rfl hl.1 (Nat.le_of_ble_eq_true rfl) rfl dX10_current_22 ⟨Nat.le_of_ble_eq_true rfl, Nat.le_of_ble_eq_true rfl⟩ (fun u_7 H locs hwu_7 hP hD hS => ?_)
      try dsimp only at hwu_7
      have hP : zP g [[((a 0), .inl (g.2 1, 88, .inr (.inl (aL S.1))))], [((a 1), .inl (g.2 1, 88, .inr (.inl (aL S.2.1))))], [((a 2), .inl (g.2 0, 6, .inl (aI h)))], [((a 3), .inl (g.2 0, 18, .inl (aI o)))], [((a 13), .inl (g.2 1, 3, .inr (.inl (aL pp))))], [((a 14), .inl (g.2 1, 6, .inr (.inl (aL wh))))], [mdl q a x]] H := hP
      have hD : zD A [[((a 0), .inl (g.2 1, 88, .inr (.inl (aL S.1))))], [((a 1), .inl (g.2 1, 88, .inr (.inl (aL S.2.1))))], [((a 2), .inl (g.2 0, 6, .inl (aI h)))], [((a 3), .inl (g.2 0, 18, .inl (aI o)))], [((a 13), .inl (g.2 1, 3, .inr (.inl (aL pp))))], [((a 14), .inl (g.2 1, 6, .inr (.inl (aL wh))))], [mdl q a x]] := hD
      refine z_toI (one ((0 ≤ s_ ∧ s_ ≤ 3) ∧ (0 ≤ f ∧ f ≤ 9))) rfl ?_
      have hf_8 := one_s ((0 ≤ s_ ∧ s_ ≤ 3) ∧ (0 ≤ f ∧ f ≤ 9))
      refine z_if_eq (tgt := 52) hx hb (by omega) dX10_current_25 (by decide) (fun cq9 => ?_) (fun cq9 => ?_)
      · refine z_ldc2 hx hb (-2000000002) hown (hts _ (List.mem_of_getElem? (i := 3) rfl)) rfl dX10_current_52 ?_
        exact z_retl (x, pp, wh, S) [6, 0, 1, 2, 3, 4, 5] hx hb hr hlocks hK hP hD hS ((aCur_2 (by omega) (by omega) (by omega)).symm) (by first | exact ⟨kx10_r _, kp78_r _⟩ | exact ⟨kx10_u (kx10_r _), kp78_r _⟩ | exact ⟨kx10_u (kx10_r _), kp78_l (kp78_r _)⟩) rfl rfl (rfl) (Nat.le_of_ble_eq_true rfl) (Nat.le_of_ble_eq_true rfl) dX10_current_55
      · refine lv_iload hx hb dX10_current_28 (lv_at hl 5 rfl) ?_
        refine z_i2l hx hb (by omega) dX10_current_30 ?_
        refine z_lconst hx hb 0 dX10_current_31 rfl ?_
        refine z_ldc2 hx hb 2 hown (hts _ (List.mem_of_getElem? (i := 2) rfl)) rfl dX10_current_32 ?_
        refine z_cSi (As := [vL w, vL 0, vL 2]) (rest := []) ⟨hx, hb, hml, hown, hts⟩ hK hP hD hS hA [] [0, 1, 2, 3, 4, 5, 6] rfl rfl rfl (c_X10_in l g w 0 2 (by first | decide | omega) (by first | decide | omega) (by first | decide | omega)) (va_cwS 3 hts gX10_current_X10_in rfl rfl rfl (by decide +kernel) ⟨Nat.le_of_ble_eq_true rfl, Nat.le_of_ble_eq_true rfl⟩) (fun _ _ _ _ _ _ => trivial) (fun _ _ _ => trivial) rfl hl.1 (Nat.le_of_ble_eq_true rfl) rfl dX10_current_35 ⟨Nat.le_of_ble_eq_true rfl, Nat.le_of_ble_eq_true rfl⟩ (fun u_10 H locs hwu_10 hP hD hS => ?_)
        try dsimp only at hwu_10
        have hP : zP g [[((a 0), .inl (g.2 1, 88, .inr (.inl (aL S.1))))], [((a 1), .inl (g.2 1, 88, .inr (.inl (aL S.2.1))))], [((a 2), .inl (g.2 0, 6, .inl (aI h)))], [((a 3), .inl (g.2 0, 18, .inl (aI o)))], [((a 13), .inl (g.2 1, 3, .inr (.inl (aL pp))))], [((a 14), .inl (g.2 1, 6, .inr (.inl (aL wh))))], [mdl q a x]] H := hP
        have hD : zD A [[((a 0), .inl (g.2 1, 88, .inr (.inl (aL S.1))))], [((a 1), .inl (g.2 1, 88, .inr (.inl (aL S.2.1))))], [((a 2), .inl (g.2 0, 6, .inl (aI h)))], [((a 3), .inl (g.2 0, 18, .inl (aI o)))], [((a 13), .inl (g.2 1, 3, .inr (.inl (aL pp))))], [((a 14), .inl (g.2 1, 6, .inr (.inl (aL wh))))], [mdl q a x]] := hD
        refine z_toI (inI w 0 2) rfl ?_
        have hf_11 := inI_s w 0 2
        refine z_if_eq (tgt := 52) hx hb (by omega) dX10_current_38 (by decide) (fun cq12 => ?_) (fun cq12 => ?_)
        · refine z_ldc2 hx hb (-2000000002) hown (hts _ (List.mem_of_getElem? (i := 3) rfl)) rfl dX10_current_52 ?_
          exact z_retl (x, pp, wh, S) [6, 0, 1, 2, 3, 4, 5] hx hb hr hlocks hK hP hD hS ((aCur_2 (by omega) (by omega) (by omega)).symm) (by first | exact ⟨kx10_r _, kp78_r _⟩ | exact ⟨kx10_u (kx10_r _), kp78_r _⟩ | exact ⟨kx10_u (kx10_r _), kp78_l (kp78_r _)⟩) rfl rfl (rfl) (Nat.le_of_ble_eq_true rfl) (Nat.le_of_ble_eq_true rfl) dX10_current_55
        · refine lv_iload hx hb dX10_current_41 (lv_at hl 6 rfl) ?_
          refine z_i2l hx hb (by omega) dX10_current_43 ?_
          refine z_lconst hx hb 0 dX10_current_44 rfl ?_
          refine z_lconst hx hb 1 dX10_current_45 rfl ?_
          refine z_cSi (As := [vL j, vL 0, vL 1]) (rest := []) ⟨hx, hb, hml, hown, hts⟩ hK hP hD hS hA [] [0, 1, 2, 3, 4, 5, 6] rfl rfl rfl (c_X10_in l g j 0 1 (by first | decide | omega) (by first | decide | omega) (by first | decide | omega)) (va_cwS 3 hts gX10_current_X10_in rfl rfl rfl (by decide +kernel) ⟨Nat.le_of_ble_eq_true rfl, Nat.le_of_ble_eq_true rfl⟩) (fun _ _ _ _ _ _ => trivial) (fun _ _ _ => trivial) rfl hl.1 (Nat.le_of_ble_eq_true rfl) rfl dX10_current_46 ⟨Nat.le_of_ble_eq_true rfl, Nat.le_of_ble_eq_true rfl⟩ (fun u_13 H locs hwu_13 hP hD hS => ?_)
          try dsimp only at hwu_13
          have hP : zP g [[((a 0), .inl (g.2 1, 88, .inr (.inl (aL S.1))))], [((a 1), .inl (g.2 1, 88, .inr (.inl (aL S.2.1))))], [((a 2), .inl (g.2 0, 6, .inl (aI h)))], [((a 3), .inl (g.2 0, 18, .inl (aI o)))], [((a 13), .inl (g.2 1, 3, .inr (.inl (aL pp))))], [((a 14), .inl (g.2 1, 6, .inr (.inl (aL wh))))], [mdl q a x]] H := hP
          have hD : zD A [[((a 0), .inl (g.2 1, 88, .inr (.inl (aL S.1))))], [((a 1), .inl (g.2 1, 88, .inr (.inl (aL S.2.1))))], [((a 2), .inl (g.2 0, 6, .inl (aI h)))], [((a 3), .inl (g.2 0, 18, .inl (aI o)))], [((a 13), .inl (g.2 1, 3, .inr (.inl (aL pp))))], [((a 14), .inl (g.2 1, 6, .inr (.inl (aL wh))))], [mdl q a x]] := hD
          refine z_toI (inI j 0 1) rfl ?_
          have hf_14 := inI_s j 0 1
          refine z_if_ne (tgt := 56) hx hb (by omega) dX10_current_49 (by decide) (fun cq15 => ?_) (fun cq15 => ?_)
          · refine lv_aload_n hx hb dX10_current_56 rfl (lv_at hl 0 rfl) ?_
            refine lv_iload_n hx hb dX10_current_57 rfl (lv_at hl 1 rfl) ?_
            refine lv_iload_n hx hb dX10_current_58 rfl (lv_at hl 2 rfl) ?_
            refine z_toI ((i.toNat : Nat) : Int) (by omega) ?_
            refine lv_iload_n hx hb dX10_current_59 rfl (lv_at hl 3 rfl) ?_
            refine z_cVv (As := [vI s_, vI ((i.toNat : Nat) : Int), vI f]) (rest := []) ⟨hx, hb, hml, hown, hts⟩ hK hP hD hS hA [6, 2, 3, 4] [0, 1, 5] rfl rfl rfl (c_X10_layFault l g q a x b h o l_ pp s_ i.toNat f hN (by omega) (by omega) (by omega)) (cwV 3 hts gX10_current_X10_layFault rfl rfl rfl (by decide +kernel) ⟨Nat.le_of_ble_eq_true rfl, Nat.le_of_ble_eq_true rfl⟩) 10 0 rfl rfl rfl (fun _ _ _ _ _ _ => trivial) (fun _ _ _ => trivial) rfl hl.1 (Nat.le_of_ble_eq_true rfl) rfl dX10_current_60 ⟨Nat.le_of_ble_eq_true rfl, Nat.le_of_ble_eq_true rfl⟩ (fun u_16 H locs hwu_16 hP hD hS => ?_)
            obtain ⟨p2_17, rfl⟩ : ∃ z_, z_ = u_16 := ⟨_, rfl⟩
            try dsimp only at hwu_16
            have hP : zP g [[((a 0), .inl (g.2 1, 88, .inr (.inl (aL S.1))))], [((a 1), .inl (g.2 1, 88, .inr (.inl (aL S.2.1))))], [((a 14), .inl (g.2 1, 6, .inr (.inl (aL wh))))], [mdl q a (uI x 10 (cB h o s_ i.toNat f))], [((a 2), .inl (g.2 0, 6, .inl (aI h)))], [((a 3), .inl (g.2 0, 18, .inl (aI o)))], [((a 13), .inl (g.2 1, 3, .inr (.inl (aL p2_17))))]] H := hP
            have hD : zD A [[((a 0), .inl (g.2 1, 88, .inr (.inl (aL S.1))))], [((a 1), .inl (g.2 1, 88, .inr (.inl (aL S.2.1))))], [((a 14), .inl (g.2 1, 6, .inr (.inl (aL wh))))], [mdl q a (uI x 10 (cB h o s_ i.toNat f))], [((a 2), .inl (g.2 0, 6, .inl (aI h)))], [((a 3), .inl (g.2 0, 18, .inl (aI o)))], [((a 13), .inl (g.2 1, 3, .inr (.inl (aL p2_17))))]] := hD
            have hpp := hwu_16
            have hbd := cur_bd hN s_ (i := i.toNat) (by omega) (f := f) (by omega)
            have hb3 := hbd.2.2.2
            refine lv_aload_n hx hb dX10_current_63 rfl (lv_at hl 0 rfl) ?_
            refine z_cVv (As := []) (rest := []) ⟨hx, hb, hml, hown, hts⟩ hK hP hD hS hA [3, 6, 2] [0, 1, 4, 5] rfl rfl rfl (c_X10_layPhases l g q a (uI x 10 (cB h o s_ i.toNat f)) p2_17 wh ) (cwV 0 hts gX10_current_X10_layPhases rfl rfl rfl (by decide +kernel) ⟨Nat.le_of_ble_eq_true rfl, Nat.le_of_ble_eq_true rfl⟩) 10 0 rfl rfl rfl (fun _ _ _ _ _ _ => trivial) (fun _ _ _ => trivial) rfl hl.1 (Nat.le_of_ble_eq_true rfl) rfl dX10_current_64 ⟨Nat.le_of_ble_eq_true rfl, Nat.le_of_ble_eq_true rfl⟩ (fun u_18 H locs hwu_18 hP hD hS => ?_)
            obtain ⟨w2_19, rfl⟩ : ∃ z_, z_ = u_18 := ⟨_, rfl⟩
            try dsimp only at hwu_18
            have hP : zP g [[((a 0), .inl (g.2 1, 88, .inr (.inl (aL S.1))))], [((a 1), .inl (g.2 1, 88, .inr (.inl (aL S.2.1))))], [((a 2), .inl (g.2 0, 6, .inl (aI h)))], [((a 3), .inl (g.2 0, 18, .inl (aI o)))], [mdl q a (uI x 10 (cB h o s_ i.toNat f))], [((a 13), .inl (g.2 1, 3, .inr (.inl (aL p2_17))))], [((a 14), .inl (g.2 1, 6, .inr (.inl (aL w2_19))))]] H := hP
            have hD : zD A [[((a 0), .inl (g.2 1, 88, .inr (.inl (aL S.1))))], [((a 1), .inl (g.2 1, 88, .inr (.inl (aL S.2.1))))], [((a 2), .inl (g.2 0, 6, .inl (aI h)))], [((a 3), .inl (g.2 0, 18, .inl (aI o)))], [mdl q a (uI x 10 (cB h o s_ i.toNat f))], [((a 13), .inl (g.2 1, 3, .inr (.inl (aL p2_17))))], [((a 14), .inl (g.2 1, 6, .inr (.inl (aL w2_19))))]] := hD
            have hwq := wq_of hpp hwu_18
            have hwb := wq_b hwq hbd (by decide)
            have hwn := wN_b hwb
            refine lv_aload_n hx hb dX10_current_67 rfl (lv_at hl 0 rfl) ?_
            refine z_get hx hb hts hin10_ hown hK hP 4 rfl rfl 23 (by decide) (hts _ (List.mem_of_getElem? (i := 4) rfl)) rfl dX10_current_68 ?_
            refine z_toL (cB h o s_ i.toNat f) rfl ?_
            refine z_lconst hx hb 0 dX10_current_71 rfl ?_
            refine z_lcmp_ne (tgt := 82) hx hb (by omega) (by decide) dX10_current_72 dX10_current_73 (by decide) (fun cq20 => ?_) (fun cq20 => ?_)
            · rcases (show w = 0 ∨ w = 1 ∨ w = 2 by omega) with rfl | rfl | rfl
              · refine lv_aload_n hx hb dX10_current_82 rfl (lv_at hl 0 rfl) ?_
                refine lv_iload hx hb dX10_current_83 (lv_at hl 4 rfl) ?_
                refine z_toI ((ph.toNat : Nat) : Int) (by omega) ?_
                refine lv_iload hx hb dX10_current_85 (lv_at hl 5 rfl) ?_
                refine lv_iload hx hb dX10_current_87 (lv_at hl 6 rfl) ?_
                refine z_cVl (As := [vI ((ph.toNat : Nat) : Int), vI 0, vI j]) (rest := []) ⟨hx, hb, hml, hown, hts⟩ hK hP hD hS hA [4, 0, 1, 6] [2, 3, 5] rfl rfl rfl (c_X10_tells l g q a (uI x 10 (cB h o s_ i.toNat f)) S w2_19 ph.toNat 0 j (by omega) (by omega) (by omega) (by have := hwb (2 * ph.toNat + 0) (by omega); omega) (show 1 ≤ (cB h o s_ i.toNat f) ∧ (cB h o s_ i.toNat f) < 9223372036854775808 by omega)) (cwV 3 hts gX10_current_X10_tells rfl rfl rfl (by decide +kernel) ⟨Nat.le_of_ble_eq_true rfl, Nat.le_of_ble_eq_true rfl⟩) 10 0 rfl rfl rfl (fun _ _ _ _ _ _ => trivial) (fun _ _ _ => trivial) rfl hl.1 (Nat.le_of_ble_eq_true rfl) rfl dX10_current_89 ⟨Nat.le_of_ble_eq_true rfl, Nat.le_of_ble_eq_true rfl⟩ (fun u_21 H locs hwu_21 hP hD hS => ?_)
                try dsimp only at hwu_21
                have hP : zP g [[((a 2), .inl (g.2 0, 6, .inl (aI h)))], [((a 3), .inl (g.2 0, 18, .inl (aI o)))], [((a 13), .inl (g.2 1, 3, .inr (.inl (aL p2_17))))], [mdl q a (uI x 10 (cB h o s_ i.toNat f))], [((a 0), .inl (g.2 1, 88, .inr (.inl (aL (rLy 78 (w2_19 (2 * ph.toNat + 0)) ((uI x 10 (cB h o s_ i.toNat f)) 10) S).1))))], [((a 1), .inl (g.2 1, 88, .inr (.inl (aL (rLy 78 (w2_19 (2 * ph.toNat + 0)) ((uI x 10 (cB h o s_ i.toNat f)) 10) S).2.1))))], [((a 14), .inl (g.2 1, 6, .inr (.inl (aL w2_19))))]] H := hP
                have hD : zD A [[((a 2), .inl (g.2 0, 6, .inl (aI h)))], [((a 3), .inl (g.2 0, 18, .inl (aI o)))], [((a 13), .inl (g.2 1, 3, .inr (.inl (aL p2_17))))], [mdl q a (uI x 10 (cB h o s_ i.toNat f))], [((a 0), .inl (g.2 1, 88, .inr (.inl (aL (rLy 78 (w2_19 (2 * ph.toNat + 0)) ((uI x 10 (cB h o s_ i.toNat f)) 10) S).1))))], [((a 1), .inl (g.2 1, 88, .inr (.inl (aL (rLy 78 (w2_19 (2 * ph.toNat + 0)) ((uI x 10 (cB h o s_ i.toNat f)) 10) S).2.1))))], [((a 14), .inl (g.2 1, 6, .inr (.inl (aL w2_19))))]] := hD
                refine z_toL (tlF (w2_19 (2 * ph.toNat + 0)) ((uI x 10 (cB h o s_ i.toNat f)) 10) j) rfl ?_
                exact z_retl ((uI x 10 (cB h o s_ i.toNat f)), p2_17, w2_19, (rLy 78 (w2_19 (2 * ph.toNat + 0)) ((uI x 10 (cB h o s_ i.toNat f)) 10) S)) [3, 4, 5, 0, 1, 2, 6] hx hb hr hlocks hK hP hD hS ((tl_0 hwq (by omega)).trans (aCur_4 (by omega) (by omega) (by omega) (by omega)).symm) (by first | exact ⟨kx10_r _, kp78_r _⟩ | exact ⟨kx10_u (kx10_r _), kp78_r _⟩ | exact ⟨kx10_u (kx10_r _), kp78_l (kp78_r _)⟩) rfl rfl (rfl) (Nat.le_of_ble_eq_true rfl) (Nat.le_of_ble_eq_true rfl) dX10_current_92
              · refine lv_aload_n hx hb dX10_current_82 rfl (lv_at hl 0 rfl) ?_
                refine lv_iload hx hb dX10_current_83 (lv_at hl 4 rfl) ?_
                refine z_toI ((ph.toNat : Nat) : Int) (by omega) ?_
                refine lv_iload hx hb dX10_current_85 (lv_at hl 5 rfl) ?_
                refine lv_iload hx hb dX10_current_87 (lv_at hl 6 rfl) ?_
                refine z_cVl (As := [vI ((ph.toNat : Nat) : Int), vI 1, vI j]) (rest := []) ⟨hx, hb, hml, hown, hts⟩ hK hP hD hS hA [4, 0, 1, 6] [2, 3, 5] rfl rfl rfl (c_X10_tells l g q a (uI x 10 (cB h o s_ i.toNat f)) S w2_19 ph.toNat 1 j (by omega) (by omega) (by omega) (by have := hwb (2 * ph.toNat + 1) (by omega); omega) (show 1 ≤ (cB h o s_ i.toNat f) ∧ (cB h o s_ i.toNat f) < 9223372036854775808 by omega)) (cwV 3 hts gX10_current_X10_tells rfl rfl rfl (by decide +kernel) ⟨Nat.le_of_ble_eq_true rfl, Nat.le_of_ble_eq_true rfl⟩) 10 0 rfl rfl rfl (fun _ _ _ _ _ _ => trivial) (fun _ _ _ => trivial) rfl hl.1 (Nat.le_of_ble_eq_true rfl) rfl dX10_current_89 ⟨Nat.le_of_ble_eq_true rfl, Nat.le_of_ble_eq_true rfl⟩ (fun u_22 H locs hwu_22 hP hD hS => ?_)
                try dsimp only at hwu_22
                have hP : zP g [[((a 2), .inl (g.2 0, 6, .inl (aI h)))], [((a 3), .inl (g.2 0, 18, .inl (aI o)))], [((a 13), .inl (g.2 1, 3, .inr (.inl (aL p2_17))))], [mdl q a (uI x 10 (cB h o s_ i.toNat f))], [((a 0), .inl (g.2 1, 88, .inr (.inl (aL (rLy 78 (w2_19 (2 * ph.toNat + 1)) ((uI x 10 (cB h o s_ i.toNat f)) 10) S).1))))], [((a 1), .inl (g.2 1, 88, .inr (.inl (aL (rLy 78 (w2_19 (2 * ph.toNat + 1)) ((uI x 10 (cB h o s_ i.toNat f)) 10) S).2.1))))], [((a 14), .inl (g.2 1, 6, .inr (.inl (aL w2_19))))]] H := hP
                have hD : zD A [[((a 2), .inl (g.2 0, 6, .inl (aI h)))], [((a 3), .inl (g.2 0, 18, .inl (aI o)))], [((a 13), .inl (g.2 1, 3, .inr (.inl (aL p2_17))))], [mdl q a (uI x 10 (cB h o s_ i.toNat f))], [((a 0), .inl (g.2 1, 88, .inr (.inl (aL (rLy 78 (w2_19 (2 * ph.toNat + 1)) ((uI x 10 (cB h o s_ i.toNat f)) 10) S).1))))], [((a 1), .inl (g.2 1, 88, .inr (.inl (aL (rLy 78 (w2_19 (2 * ph.toNat + 1)) ((uI x 10 (cB h o s_ i.toNat f)) 10) S).2.1))))], [((a 14), .inl (g.2 1, 6, .inr (.inl (aL w2_19))))]] := hD
                refine z_toL (tlF (w2_19 (2 * ph.toNat + 1)) ((uI x 10 (cB h o s_ i.toNat f)) 10) j) rfl ?_
                exact z_retl ((uI x 10 (cB h o s_ i.toNat f)), p2_17, w2_19, (rLy 78 (w2_19 (2 * ph.toNat + 1)) ((uI x 10 (cB h o s_ i.toNat f)) 10) S)) [3, 4, 5, 0, 1, 2, 6] hx hb hr hlocks hK hP hD hS ((tl_1 hwq (by omega)).trans (aCur_4 (by omega) (by omega) (by omega) (by omega)).symm) (by first | exact ⟨kx10_r _, kp78_r _⟩ | exact ⟨kx10_u (kx10_r _), kp78_r _⟩ | exact ⟨kx10_u (kx10_r _), kp78_l (kp78_r _)⟩) rfl rfl (rfl) (Nat.le_of_ble_eq_true rfl) (Nat.le_of_ble_eq_true rfl) dX10_current_92
              · refine lv_aload_n hx hb dX10_current_82 rfl (lv_at hl 0 rfl) ?_
                refine lv_iload hx hb dX10_current_83 (lv_at hl 4 rfl) ?_
                refine z_toI ((ph.toNat : Nat) : Int) (by omega) ?_
                refine lv_iload hx hb dX10_current_85 (lv_at hl 5 rfl) ?_
                refine lv_iload hx hb dX10_current_87 (lv_at hl 6 rfl) ?_
                refine z_cVl (As := [vI ((ph.toNat : Nat) : Int), vI 2, vI j]) (rest := []) ⟨hx, hb, hml, hown, hts⟩ hK hP hD hS hA [4, 0, 1, 6] [2, 3, 5] rfl rfl rfl (c_X10_tells2 l g q a (uI x 10 (cB h o s_ i.toNat f)) S w2_19 ph.toNat j (by omega) (by omega) (by have := hwn ph.toNat (by omega); omega) (show 1 ≤ (cB h o s_ i.toNat f) * (cB h o s_ i.toNat f) ∧ (cB h o s_ i.toNat f) * (cB h o s_ i.toNat f) < 9223372036854775808 by have := sq_rng (d := (cB h o s_ i.toNat f)) (by omega) (by omega); omega)) (cwV 3 hts gX10_current_X10_tells rfl rfl rfl (by decide +kernel) ⟨Nat.le_of_ble_eq_true rfl, Nat.le_of_ble_eq_true rfl⟩) 10 0 rfl rfl rfl (fun _ _ _ _ _ _ => trivial) (fun _ _ _ => trivial) rfl hl.1 (Nat.le_of_ble_eq_true rfl) rfl dX10_current_89 ⟨Nat.le_of_ble_eq_true rfl, Nat.le_of_ble_eq_true rfl⟩ (fun u_23 H locs hwu_23 hP hD hS => ?_)
                try dsimp only at hwu_23
                have hP : zP g [[((a 2), .inl (g.2 0, 6, .inl (aI h)))], [((a 3), .inl (g.2 0, 18, .inl (aI o)))], [((a 13), .inl (g.2 1, 3, .inr (.inl (aL p2_17))))], [mdl q a (uI x 10 (cB h o s_ i.toNat f))], [((a 0), .inl (g.2 1, 88, .inr (.inl (aL (rLy 78 (wN w2_19 ph.toNat) ((uI x 10 (cB h o s_ i.toNat f)) 10 * (uI x 10 (cB h o s_ i.toNat f)) 10) S).1))))], [((a 1), .inl (g.2 1, 88, .inr (.inl (aL (rLy 78 (wN w2_19 ph.toNat) ((uI x 10 (cB h o s_ i.toNat f)) 10 * (uI x 10 (cB h o s_ i.toNat f)) 10) S).2.1))))], [((a 14), .inl (g.2 1, 6, .inr (.inl (aL w2_19))))]] H := hP
                have hD : zD A [[((a 2), .inl (g.2 0, 6, .inl (aI h)))], [((a 3), .inl (g.2 0, 18, .inl (aI o)))], [((a 13), .inl (g.2 1, 3, .inr (.inl (aL p2_17))))], [mdl q a (uI x 10 (cB h o s_ i.toNat f))], [((a 0), .inl (g.2 1, 88, .inr (.inl (aL (rLy 78 (wN w2_19 ph.toNat) ((uI x 10 (cB h o s_ i.toNat f)) 10 * (uI x 10 (cB h o s_ i.toNat f)) 10) S).1))))], [((a 1), .inl (g.2 1, 88, .inr (.inl (aL (rLy 78 (wN w2_19 ph.toNat) ((uI x 10 (cB h o s_ i.toNat f)) 10 * (uI x 10 (cB h o s_ i.toNat f)) 10) S).2.1))))], [((a 14), .inl (g.2 1, 6, .inr (.inl (aL w2_19))))]] := hD
                refine z_toL (tlF (wN w2_19 ph.toNat) ((uI x 10 (cB h o s_ i.toNat f)) 10 * (uI x 10 (cB h o s_ i.toNat f)) 10) j) rfl ?_
                exact z_retl ((uI x 10 (cB h o s_ i.toNat f)), p2_17, w2_19, (rLy 78 (wN w2_19 ph.toNat) ((uI x 10 (cB h o s_ i.toNat f)) 10 * (uI x 10 (cB h o s_ i.toNat f)) 10) S)) [3, 4, 5, 0, 1, 2, 6] hx hb hr hlocks hK hP hD hS ((tl_2 hwq (by omega)).trans (aCur_4 (by omega) (by omega) (by omega) (by omega)).symm) (by first | exact ⟨kx10_r _, kp78_r _⟩ | exact ⟨kx10_u (kx10_r _), kp78_r _⟩ | exact ⟨kx10_u (kx10_r _), kp78_l (kp78_r _)⟩) rfl rfl (rfl) (Nat.le_of_ble_eq_true rfl) (Nat.le_of_ble_eq_true rfl) dX10_current_92
            · refine z_ldc2 hx hb (-2000000003) hown (hts _ (List.mem_of_getElem? (i := 5) rfl)) rfl dX10_current_76 ?_
              refine lv_goto (tgt := 92) hx hb dX10_current_79 (by decide) ?_
              exact z_retl ((uI x 10 (cB h o s_ i.toNat f)), p2_17, w2_19, S) [4, 0, 1, 2, 3, 5, 6] hx hb hr hlocks hK hP hD hS ((aCur_3 (by omega) (by omega) (by omega) (by omega)).symm) (by first | exact ⟨kx10_r _, kp78_r _⟩ | exact ⟨kx10_u (kx10_r _), kp78_r _⟩ | exact ⟨kx10_u (kx10_r _), kp78_l (kp78_r _)⟩) rfl rfl (rfl) (Nat.le_of_ble_eq_true rfl) (Nat.le_of_ble_eq_true rfl) dX10_current_92
          · refine z_ldc2 hx hb (-2000000002) hown (hts _ (List.mem_of_getElem? (i := 3) rfl)) rfl dX10_current_52 ?_
            exact z_retl (x, pp, wh, S) [6, 0, 1, 2, 3, 4, 5] hx hb hr hlocks hK hP hD hS ((aCur_2 (by omega) (by omega) (by omega)).symm) (by first | exact ⟨kx10_r _, kp78_r _⟩ | exact ⟨kx10_u (kx10_r _), kp78_r _⟩ | exact ⟨kx10_u (kx10_r _), kp78_l (kp78_r _)⟩) rfl rfl (rfl) (Nat.le_of_ble_eq_true rfl) (Nat.le_of_ble_eq_true rfl) dX10_current_55
    · refine z_ldc2 hx hb (-2000000001) hown (hts _ (List.mem_of_getElem? (i := 1) rfl)) rfl dX10_current_16 ?_
      exact z_retl (x, pp, wh, S) [6, 0, 1, 2, 3, 4, 5] hx hb hr hlocks hK hP hD hS ((aCur_1 (by omega)).symm) (by first | exact ⟨kx10_r _, kp78_r _⟩ | exact ⟨kx10_u (kx10_r _), kp78_r _⟩ | exact ⟨kx10_u (kx10_r _), kp78_l (kp78_r _)⟩) rfl rfl (rfl) (Nat.le_of_ble_eq_true rfl) (Nat.le_of_ble_eq_true rfl) dX10_current_19

set_option maxHeartbeats 4000000 in
set_option maxRecDepth 100000 in
theorem c_X10_voltage (l : Launch) (g : zG) (q : Nat) (a : Nat → Nat) (x : Nat → Int) (S : RS) (b : Nat) (h : Nat → Int) (o : Nat → Int) (l_ : Nat → Int) (pp : Nat → Int) (wh : Nat → Int) (s_ : Int) (i : Int) (f : Int) (at_ : Int) (ph : Int) (w : Int) (j : Int) (hN : nok (x 0) b h o l_) (hx1 : x 1 = (b : Int)) (hs : -2147483648 ≤ s_ ∧ s_ < 2147483648) (hi : -2147483648 ≤ i ∧ i < 2147483648) (hf : -2147483648 ≤ f ∧ f < 2147483648) (hat : -2147483648 ≤ at_ ∧ at_ < 2147483648) (hp : -2147483648 ≤ ph ∧ ph < 2147483648) (hw : -2147483648 ≤ w ∧ w < 2147483648) (hj : -2147483648 ≤ j ∧ j < 2147483648) : zMet l g yX10_voltage wsX10_voltage 3 0 0 [.ref q, vI s_, vI i, vI f, vI at_, vI ph, vI w, vI j] zX0 [[mdl q a x], [((a 0), .inl (g.2 1, 88, .inr (.inl (aL S.1))))], [((a 1), .inl (g.2 1, 88, .inr (.inl (aL S.2.1))))], [((a 2), .inl (g.2 0, 6, .inl (aI h)))], [((a 3), .inl (g.2 0, 18, .inl (aI o)))], [((a 13), .inl (g.2 1, 3, .inr (.inl (aL pp))))], [((a 14), .inl (g.2 1, 6, .inr (.inl (aL wh))))]] (ql g (fun (u_ : (Nat → Int) × (Nat → Int) × (Nat → Int) × RS) => (aVol (x 0) b h o s_ i f at_ ph w j)) (fun (u_ : (Nat → Int) × (Nat → Int) × (Nat → Int) × RS) => (kx10 x u_.1 ∧ kp78 S u_.2.2.2)) (fun (u_ : (Nat → Int) × (Nat → Int) × (Nat → Int) × RS) => [[mdl q a u_.1], [((a 0), .inl (g.2 1, 88, .inr (.inl (aL u_.2.2.2.1))))], [((a 1), .inl (g.2 1, 88, .inr (.inl (aL u_.2.2.2.2.1))))], [((a 2), .inl (g.2 0, 6, .inl (aI h)))], [((a 3), .inl (g.2 0, 18, .inl (aI o)))], [((a 13), .inl (g.2 1, 3, .inr (.inl (aL u_.2.1))))], [((a 14), .inl (g.2 1, 6, .inr (.inl (aL u_.2.2.1))))]])) := by
  obtain ⟨hn1, hn2, hn3, hn4, hn5, hn6, hn7⟩ := id hN
  refine z_ent (cc := cX10_voltage) (maxL := 8) (ret := (some .long)) (by decide) rfl (Nat.le_of_ble_eq_true rfl) ?_
  intro p e s m below meth c A ls hx hb hr hml hown hts hlocks hin0 hA hK hP hD hS hXX hl
  have hown : s.vm.findClass RX10 = some m.cls := hown
  have hin10_ : ∀ w ∈ wsX100, w ∈ wsX10_voltage := zw_in [69, 70, 71, 72, 73, 74, 75, 76, 77, 78, 79, 80, 81, 82, 83, 84, 85, 86, 87, 88, 89, 90, 91, 92, 93, 94] rfl
  have hl : lv_has ls 8 [(0, .ref q), (1, vI s_), (2, vI i), (3, vI f), (4, vI at_), (5, vI ph), (6, vI w), (7, vI j)] := hl
  refine lv_aload_n hx hb dX10_voltage_0 rfl (lv_at hl 0 rfl) ?_
  refine lv_iload_n hx hb dX10_voltage_1 rfl (lv_at hl 2 rfl) ?_
  refine z_cVi (As := [vI i]) (rest := []) ⟨hx, hb, hml, hown, hts⟩ hK hP hD hS hA [0] [1, 2, 3, 4, 5, 6] rfl rfl rfl (c_X10_isBus l g q a x i (by omega) (by omega)) (cwV 1 hts gX10_voltage_X10_isBus rfl rfl rfl (by decide +kernel) ⟨Nat.le_of_ble_eq_true rfl, Nat.le_of_ble_eq_true rfl⟩) 10 0 rfl rfl rfl (fun _ _ _ _ _ _ => trivial) (fun _ _ _ => trivial) rfl hl.1 (Nat.le_of_ble_eq_true rfl) rfl dX10_voltage_2 ⟨Nat.le_of_ble_eq_true rfl, Nat.le_of_ble_eq_true rfl⟩ (fun u_1 H locs hwu_1 hP hD hS => ?_)
  try dsimp only at hwu_1
  have hP : zP g [[((a 0), .inl (g.2 1, 88, .inr (.inl (aL S.1))))], [((a 1), .inl (g.2 1, 88, .inr (.inl (aL S.2.1))))], [((a 2), .inl (g.2 0, 6, .inl (aI h)))], [((a 3), .inl (g.2 0, 18, .inl (aI o)))], [((a 13), .inl (g.2 1, 3, .inr (.inl (aL pp))))], [((a 14), .inl (g.2 1, 6, .inr (.inl (aL wh))))], [mdl q a x]] H := hP
  have hD : zD A [[((a 0), .inl (g.2 1, 88, .inr (.inl (aL S.1))))], [((a 1), .inl (g.2 1, 88, .inr (.inl (aL S.2.1))))], [((a 2), .inl (g.2 0, 6, .inl (aI h)))], [((a 3), .inl (g.2 0, 18, .inl (aI o)))], [((a 13), .inl (g.2 1, 3, .inr (.inl (aL pp))))], [((a 14), .inl (g.2 1, 6, .inr (.inl (aL wh))))], [mdl q a x]] := hD
  refine z_toI (inI i 0 (x 1 - 1)) rfl ?_
  have hf_2 := inI_s i 0 (x 1 - 1)
  refine z_if_eq (tgt := 25) hx hb (by omega) dX10_voltage_5 (by decide) (fun cq3 => ?_) (fun cq3 => ?_)
  · refine z_ldc2 hx hb (-2000000001) hown (hts _ (List.mem_of_getElem? (i := 1) rfl)) rfl dX10_voltage_25 ?_
    exact z_retl (x, pp, wh, S) [6, 0, 1, 2, 3, 4, 5] hx hb hr hlocks hK hP hD hS ((aVol_1 (by omega)).symm) (by first | exact ⟨kx10_r _, kp78_r _⟩ | exact ⟨kx10_u (kx10_r _), kp78_r _⟩ | exact ⟨kx10_u (kx10_r _), kp78_l (kp78_r _)⟩) rfl rfl (rfl) (Nat.le_of_ble_eq_true rfl) (Nat.le_of_ble_eq_true rfl) dX10_voltage_28
  · refine lv_aload_n hx hb dX10_voltage_8 rfl (lv_at hl 0 rfl) ?_
    refine lv_iload hx hb dX10_voltage_9 (lv_at hl 4 rfl) ?_
    refine z_cVi (As := [vI at_]) (rest := []) ⟨hx, hb, hml, hown, hts⟩ hK hP hD hS hA [6] [0, 1, 2, 3, 4, 5] rfl rfl rfl (c_X10_isBus l g q a x at_ (by omega) (by omega)) (cwV 1 hts gX10_voltage_X10_isBus rfl rfl rfl (by decide +kernel) ⟨Nat.le_of_ble_eq_true rfl, Nat.le_of_ble_eq_true rfl⟩) 10 0 rfl rfl rfl (fun _ _ _ _ _ _ => trivial) (fun _ _ _ => trivial) rfl hl.1 (Nat.le_of_ble_eq_true rfl) rfl dX10_voltage_11 ⟨Nat.le_of_ble_eq_true rfl, Nat.le_of_ble_eq_true rfl⟩ (fun u_4 H locs hwu_4 hP hD hS => ?_)
    try dsimp only at hwu_4
    have hP : zP g [[((a 0), .inl (g.2 1, 88, .inr (.inl (aL S.1))))], [((a 1), .inl (g.2 1, 88, .inr (.inl (aL S.2.1))))], [((a 2), .inl (g.2 0, 6, .inl (aI h)))], [((a 3), .inl (g.2 0, 18, .inl (aI o)))], [((a 13), .inl (g.2 1, 3, .inr (.inl (aL pp))))], [((a 14), .inl (g.2 1, 6, .inr (.inl (aL wh))))], [mdl q a x]] H := hP
    have hD : zD A [[((a 0), .inl (g.2 1, 88, .inr (.inl (aL S.1))))], [((a 1), .inl (g.2 1, 88, .inr (.inl (aL S.2.1))))], [((a 2), .inl (g.2 0, 6, .inl (aI h)))], [((a 3), .inl (g.2 0, 18, .inl (aI o)))], [((a 13), .inl (g.2 1, 3, .inr (.inl (aL pp))))], [((a 14), .inl (g.2 1, 6, .inr (.inl (aL wh))))], [mdl q a x]] := hD
    refine z_toI (inI at_ 0 (x 1 - 1)) rfl ?_
    have hf_5 := inI_s at_ 0 (x 1 - 1)
    refine z_if_eq (tgt := 25) hx hb (by omega) dX10_voltage_14 (by decide) (fun cq6 => ?_) (fun cq6 => ?_)
    · refine z_ldc2 hx hb (-2000000001) hown (hts _ (List.mem_of_getElem? (i := 1) rfl)) rfl dX10_voltage_25 ?_
      exact z_retl (x, pp, wh, S) [6, 0, 1, 2, 3, 4, 5] hx hb hr hlocks hK hP hD hS ((aVol_1 (by omega)).symm) (by first | exact ⟨kx10_r _, kp78_r _⟩ | exact ⟨kx10_u (kx10_r _), kp78_r _⟩ | exact ⟨kx10_u (kx10_r _), kp78_l (kp78_r _)⟩) rfl rfl (rfl) (Nat.le_of_ble_eq_true rfl) (Nat.le_of_ble_eq_true rfl) dX10_voltage_28
    · refine lv_iload hx hb dX10_voltage_17 (lv_at hl 5 rfl) ?_
      refine z_cSi (As := [vI ph]) (rest := []) ⟨hx, hb, hml, hown, hts⟩ hK hP hD hS hA [] [0, 1, 2, 3, 4, 5, 6] rfl rfl rfl (c_X10_isPhase l g ph (by first | assumption | omega | decide)) (va_cwS 1 hts gX10_voltage_X10_isPhase rfl rfl rfl (by decide +kernel) ⟨Nat.le_of_ble_eq_true rfl, Nat.le_of_ble_eq_true rfl⟩) (fun _ _ _ _ _ _ => trivial) (fun _ _ _ => trivial) rfl hl.1 (Nat.le_of_ble_eq_true rfl) rfl dX10_voltage_19 ⟨Nat.le_of_ble_eq_true rfl, Nat.le_of_ble_eq_true rfl⟩ (fun u_7 H locs hwu_7 hP hD hS => ?_)
      try dsimp only at hwu_7
      have hP : zP g [[((a 0), .inl (g.2 1, 88, .inr (.inl (aL S.1))))], [((a 1), .inl (g.2 1, 88, .inr (.inl (aL S.2.1))))], [((a 2), .inl (g.2 0, 6, .inl (aI h)))], [((a 3), .inl (g.2 0, 18, .inl (aI o)))], [((a 13), .inl (g.2 1, 3, .inr (.inl (aL pp))))], [((a 14), .inl (g.2 1, 6, .inr (.inl (aL wh))))], [mdl q a x]] H := hP
      have hD : zD A [[((a 0), .inl (g.2 1, 88, .inr (.inl (aL S.1))))], [((a 1), .inl (g.2 1, 88, .inr (.inl (aL S.2.1))))], [((a 2), .inl (g.2 0, 6, .inl (aI h)))], [((a 3), .inl (g.2 0, 18, .inl (aI o)))], [((a 13), .inl (g.2 1, 3, .inr (.inl (aL pp))))], [((a 14), .inl (g.2 1, 6, .inr (.inl (aL wh))))], [mdl q a x]] := hD
      refine z_toI (inI ph 0 2) rfl ?_
      have hf_8 := inI_s ph 0 2
      refine z_if_ne (tgt := 29) hx hb (by omega) dX10_voltage_22 (by decide) (fun cq9 => ?_) (fun cq9 => ?_)
      · refine lv_iload_n hx hb dX10_voltage_29 rfl (lv_at hl 1 rfl) ?_
        refine lv_iload_n hx hb dX10_voltage_30 rfl (lv_at hl 3 rfl) ?_
        refine z_cSi (As := [vI s_, vI f]) (rest := []) ⟨hx, hb, hml, hown, hts⟩ hK hP hD hS hA [] [0, 1, 2, 3, 4, 5, 6] rfl rfl rfl (c_X10_isSort l g s_ f (by first | assumption | omega | decide) (by first | assumption | omega | decide)) (va_cwS 2 hts gX10_voltage_X10_isSort rfl rfl rfl (by decide +kernel) ⟨Nat.le_of_ble_eq_true rfl, Nat.le_of_ble_eq_true rfl⟩) (fun _ _ _ _ _ _ => trivial) (fun _ _ _ => trivial) rfl hl.1 (Nat.le_of_ble_eq_true rfl) rfl dX10_voltage_31 ⟨Nat.le_of_ble_eq_true rfl, Nat.le_of_ble_eq_true rfl⟩ (fun u_10 H locs hwu_10 hP hD hS => ?_)
        try dsimp only at hwu_10
        have hP : zP g [[((a 0), .inl (g.2 1, 88, .inr (.inl (aL S.1))))], [((a 1), .inl (g.2 1, 88, .inr (.inl (aL S.2.1))))], [((a 2), .inl (g.2 0, 6, .inl (aI h)))], [((a 3), .inl (g.2 0, 18, .inl (aI o)))], [((a 13), .inl (g.2 1, 3, .inr (.inl (aL pp))))], [((a 14), .inl (g.2 1, 6, .inr (.inl (aL wh))))], [mdl q a x]] H := hP
        have hD : zD A [[((a 0), .inl (g.2 1, 88, .inr (.inl (aL S.1))))], [((a 1), .inl (g.2 1, 88, .inr (.inl (aL S.2.1))))], [((a 2), .inl (g.2 0, 6, .inl (aI h)))], [((a 3), .inl (g.2 0, 18, .inl (aI o)))], [((a 13), .inl (g.2 1, 3, .inr (.inl (aL pp))))], [((a 14), .inl (g.2 1, 6, .inr (.inl (aL wh))))], [mdl q a x]] := hD
        refine z_toI (one ((0 ≤ s_ ∧ s_ ≤ 3) ∧ (0 ≤ f ∧ f ≤ 9))) rfl ?_
        have hf_11 := one_s ((0 ≤ s_ ∧ s_ ≤ 3) ∧ (0 ≤ f ∧ f ≤ 9))
        refine z_if_eq (tgt := 61) hx hb (by omega) dX10_voltage_34 (by decide) (fun cq12 => ?_) (fun cq12 => ?_)
        · refine z_ldc2 hx hb (-2000000002) hown (hts _ (List.mem_of_getElem? (i := 3) rfl)) rfl dX10_voltage_61 ?_
          exact z_retl (x, pp, wh, S) [6, 0, 1, 2, 3, 4, 5] hx hb hr hlocks hK hP hD hS ((aVol_2 (by omega) (by omega) (by omega)).symm) (by first | exact ⟨kx10_r _, kp78_r _⟩ | exact ⟨kx10_u (kx10_r _), kp78_r _⟩ | exact ⟨kx10_u (kx10_r _), kp78_l (kp78_r _)⟩) rfl rfl (rfl) (Nat.le_of_ble_eq_true rfl) (Nat.le_of_ble_eq_true rfl) dX10_voltage_64
        · refine lv_iload hx hb dX10_voltage_37 (lv_at hl 6 rfl) ?_
          refine z_i2l hx hb (by omega) dX10_voltage_39 ?_
          refine z_lconst hx hb 0 dX10_voltage_40 rfl ?_
          refine z_ldc2 hx hb 2 hown (hts _ (List.mem_of_getElem? (i := 2) rfl)) rfl dX10_voltage_41 ?_
          refine z_cSi (As := [vL w, vL 0, vL 2]) (rest := []) ⟨hx, hb, hml, hown, hts⟩ hK hP hD hS hA [] [0, 1, 2, 3, 4, 5, 6] rfl rfl rfl (c_X10_in l g w 0 2 (by first | decide | omega) (by first | decide | omega) (by first | decide | omega)) (va_cwS 3 hts gX10_voltage_X10_in rfl rfl rfl (by decide +kernel) ⟨Nat.le_of_ble_eq_true rfl, Nat.le_of_ble_eq_true rfl⟩) (fun _ _ _ _ _ _ => trivial) (fun _ _ _ => trivial) rfl hl.1 (Nat.le_of_ble_eq_true rfl) rfl dX10_voltage_44 ⟨Nat.le_of_ble_eq_true rfl, Nat.le_of_ble_eq_true rfl⟩ (fun u_13 H locs hwu_13 hP hD hS => ?_)
          try dsimp only at hwu_13
          have hP : zP g [[((a 0), .inl (g.2 1, 88, .inr (.inl (aL S.1))))], [((a 1), .inl (g.2 1, 88, .inr (.inl (aL S.2.1))))], [((a 2), .inl (g.2 0, 6, .inl (aI h)))], [((a 3), .inl (g.2 0, 18, .inl (aI o)))], [((a 13), .inl (g.2 1, 3, .inr (.inl (aL pp))))], [((a 14), .inl (g.2 1, 6, .inr (.inl (aL wh))))], [mdl q a x]] H := hP
          have hD : zD A [[((a 0), .inl (g.2 1, 88, .inr (.inl (aL S.1))))], [((a 1), .inl (g.2 1, 88, .inr (.inl (aL S.2.1))))], [((a 2), .inl (g.2 0, 6, .inl (aI h)))], [((a 3), .inl (g.2 0, 18, .inl (aI o)))], [((a 13), .inl (g.2 1, 3, .inr (.inl (aL pp))))], [((a 14), .inl (g.2 1, 6, .inr (.inl (aL wh))))], [mdl q a x]] := hD
          refine z_toI (inI w 0 2) rfl ?_
          have hf_14 := inI_s w 0 2
          refine z_if_eq (tgt := 61) hx hb (by omega) dX10_voltage_47 (by decide) (fun cq15 => ?_) (fun cq15 => ?_)
          · refine z_ldc2 hx hb (-2000000002) hown (hts _ (List.mem_of_getElem? (i := 3) rfl)) rfl dX10_voltage_61 ?_
            exact z_retl (x, pp, wh, S) [6, 0, 1, 2, 3, 4, 5] hx hb hr hlocks hK hP hD hS ((aVol_2 (by omega) (by omega) (by omega)).symm) (by first | exact ⟨kx10_r _, kp78_r _⟩ | exact ⟨kx10_u (kx10_r _), kp78_r _⟩ | exact ⟨kx10_u (kx10_r _), kp78_l (kp78_r _)⟩) rfl rfl (rfl) (Nat.le_of_ble_eq_true rfl) (Nat.le_of_ble_eq_true rfl) dX10_voltage_64
          · refine lv_iload hx hb dX10_voltage_50 (lv_at hl 7 rfl) ?_
            refine z_i2l hx hb (by omega) dX10_voltage_52 ?_
            refine z_lconst hx hb 0 dX10_voltage_53 rfl ?_
            refine z_lconst hx hb 1 dX10_voltage_54 rfl ?_
            refine z_cSi (As := [vL j, vL 0, vL 1]) (rest := []) ⟨hx, hb, hml, hown, hts⟩ hK hP hD hS hA [] [0, 1, 2, 3, 4, 5, 6] rfl rfl rfl (c_X10_in l g j 0 1 (by first | decide | omega) (by first | decide | omega) (by first | decide | omega)) (va_cwS 3 hts gX10_voltage_X10_in rfl rfl rfl (by decide +kernel) ⟨Nat.le_of_ble_eq_true rfl, Nat.le_of_ble_eq_true rfl⟩) (fun _ _ _ _ _ _ => trivial) (fun _ _ _ => trivial) rfl hl.1 (Nat.le_of_ble_eq_true rfl) rfl dX10_voltage_55 ⟨Nat.le_of_ble_eq_true rfl, Nat.le_of_ble_eq_true rfl⟩ (fun u_16 H locs hwu_16 hP hD hS => ?_)
            try dsimp only at hwu_16
            have hP : zP g [[((a 0), .inl (g.2 1, 88, .inr (.inl (aL S.1))))], [((a 1), .inl (g.2 1, 88, .inr (.inl (aL S.2.1))))], [((a 2), .inl (g.2 0, 6, .inl (aI h)))], [((a 3), .inl (g.2 0, 18, .inl (aI o)))], [((a 13), .inl (g.2 1, 3, .inr (.inl (aL pp))))], [((a 14), .inl (g.2 1, 6, .inr (.inl (aL wh))))], [mdl q a x]] H := hP
            have hD : zD A [[((a 0), .inl (g.2 1, 88, .inr (.inl (aL S.1))))], [((a 1), .inl (g.2 1, 88, .inr (.inl (aL S.2.1))))], [((a 2), .inl (g.2 0, 6, .inl (aI h)))], [((a 3), .inl (g.2 0, 18, .inl (aI o)))], [((a 13), .inl (g.2 1, 3, .inr (.inl (aL pp))))], [((a 14), .inl (g.2 1, 6, .inr (.inl (aL wh))))], [mdl q a x]] := hD
            refine z_toI (inI j 0 1) rfl ?_
            have hf_17 := inI_s j 0 1
            refine z_if_ne (tgt := 65) hx hb (by omega) dX10_voltage_58 (by decide) (fun cq18 => ?_) (fun cq18 => ?_)
            · refine lv_aload_n hx hb dX10_voltage_65 rfl (lv_at hl 0 rfl) ?_
              refine lv_iload_n hx hb dX10_voltage_66 rfl (lv_at hl 1 rfl) ?_
              refine lv_iload_n hx hb dX10_voltage_67 rfl (lv_at hl 2 rfl) ?_
              refine z_toI ((i.toNat : Nat) : Int) (by omega) ?_
              refine lv_iload_n hx hb dX10_voltage_68 rfl (lv_at hl 3 rfl) ?_
              refine z_cVv (As := [vI s_, vI ((i.toNat : Nat) : Int), vI f]) (rest := []) ⟨hx, hb, hml, hown, hts⟩ hK hP hD hS hA [6, 2, 3, 4] [0, 1, 5] rfl rfl rfl (c_X10_layFault l g q a x b h o l_ pp s_ i.toNat f hN (by omega) (by omega) (by omega)) (cwV 3 hts gX10_voltage_X10_layFault rfl rfl rfl (by decide +kernel) ⟨Nat.le_of_ble_eq_true rfl, Nat.le_of_ble_eq_true rfl⟩) 10 0 rfl rfl rfl (fun _ _ _ _ _ _ => trivial) (fun _ _ _ => trivial) rfl hl.1 (Nat.le_of_ble_eq_true rfl) rfl dX10_voltage_69 ⟨Nat.le_of_ble_eq_true rfl, Nat.le_of_ble_eq_true rfl⟩ (fun u_19 H locs hwu_19 hP hD hS => ?_)
              obtain ⟨p2_20, rfl⟩ : ∃ z_, z_ = u_19 := ⟨_, rfl⟩
              try dsimp only at hwu_19
              have hP : zP g [[((a 0), .inl (g.2 1, 88, .inr (.inl (aL S.1))))], [((a 1), .inl (g.2 1, 88, .inr (.inl (aL S.2.1))))], [((a 14), .inl (g.2 1, 6, .inr (.inl (aL wh))))], [mdl q a (uI x 10 (cB h o s_ i.toNat f))], [((a 2), .inl (g.2 0, 6, .inl (aI h)))], [((a 3), .inl (g.2 0, 18, .inl (aI o)))], [((a 13), .inl (g.2 1, 3, .inr (.inl (aL p2_20))))]] H := hP
              have hD : zD A [[((a 0), .inl (g.2 1, 88, .inr (.inl (aL S.1))))], [((a 1), .inl (g.2 1, 88, .inr (.inl (aL S.2.1))))], [((a 14), .inl (g.2 1, 6, .inr (.inl (aL wh))))], [mdl q a (uI x 10 (cB h o s_ i.toNat f))], [((a 2), .inl (g.2 0, 6, .inl (aI h)))], [((a 3), .inl (g.2 0, 18, .inl (aI o)))], [((a 13), .inl (g.2 1, 3, .inr (.inl (aL p2_20))))]] := hD
              have hpp := hwu_19
              have hbd := cur_bd hN s_ (i := i.toNat) (by omega) (f := f) (by omega)
              have hb3 := hbd.2.2.2
              refine lv_aload_n hx hb dX10_voltage_72 rfl (lv_at hl 0 rfl) ?_
              refine lv_iload_n hx hb dX10_voltage_73 rfl (lv_at hl 2 rfl) ?_
              refine z_toI ((i.toNat : Nat) : Int) (by omega) ?_
              refine lv_iload hx hb dX10_voltage_74 (lv_at hl 4 rfl) ?_
              refine z_toI ((at_.toNat : Nat) : Int) (by omega) ?_
              refine z_cVv (As := [vI ((i.toNat : Nat) : Int), vI ((at_.toNat : Nat) : Int)]) (rest := []) ⟨hx, hb, hml, hown, hts⟩ hK hP hD hS hA [3, 4, 5, 6] [0, 1, 2] rfl rfl rfl (c_X10_layVoltage l g q a (uI x 10 (cB h o s_ i.toNat f)) b h o l_ p2_20 i.toNat at_.toNat hN (by omega) (by omega)) (cwV 2 hts gX10_voltage_X10_layVoltage rfl rfl rfl (by decide +kernel) ⟨Nat.le_of_ble_eq_true rfl, Nat.le_of_ble_eq_true rfl⟩) 10 0 rfl rfl rfl (fun _ _ _ _ _ _ => trivial) (fun _ _ _ => trivial) rfl hl.1 (Nat.le_of_ble_eq_true rfl) rfl dX10_voltage_76 ⟨Nat.le_of_ble_eq_true rfl, Nat.le_of_ble_eq_true rfl⟩ (fun u_21 H locs hwu_21 hP hD hS => ?_)
              obtain ⟨p2_22, rfl⟩ : ∃ z_, z_ = u_21 := ⟨_, rfl⟩
              try dsimp only at hwu_21
              have hP : zP g [[((a 0), .inl (g.2 1, 88, .inr (.inl (aL S.1))))], [((a 1), .inl (g.2 1, 88, .inr (.inl (aL S.2.1))))], [((a 14), .inl (g.2 1, 6, .inr (.inl (aL wh))))], [mdl q a (uI x 10 (cB h o s_ i.toNat f))], [((a 2), .inl (g.2 0, 6, .inl (aI h)))], [((a 3), .inl (g.2 0, 18, .inl (aI o)))], [((a 13), .inl (g.2 1, 3, .inr (.inl (aL p2_22))))]] H := hP
              have hD : zD A [[((a 0), .inl (g.2 1, 88, .inr (.inl (aL S.1))))], [((a 1), .inl (g.2 1, 88, .inr (.inl (aL S.2.1))))], [((a 14), .inl (g.2 1, 6, .inr (.inl (aL wh))))], [mdl q a (uI x 10 (cB h o s_ i.toNat f))], [((a 2), .inl (g.2 0, 6, .inl (aI h)))], [((a 3), .inl (g.2 0, 18, .inl (aI o)))], [((a 13), .inl (g.2 1, 3, .inr (.inl (aL p2_22))))]] := hD
              have hm6 := zM_lt (h := h) hn5 12 i.toNat at_.toNat (by omega) (by omega)
              have hvd := vlt_bd hN s_ (i := i.toNat) (c := (zM h 12 i.toNat at_.toNat)) (by omega) hm6 (f := f) (by omega)
              have hpp := vq_of (v := x 0) (v' := x 0) hpp rfl rfl hwu_21
              refine lv_aload_n hx hb dX10_voltage_79 rfl (lv_at hl 0 rfl) ?_
              refine z_cVv (As := []) (rest := []) ⟨hx, hb, hml, hown, hts⟩ hK hP hD hS hA [3, 6, 2] [0, 1, 4, 5] rfl rfl rfl (c_X10_layPhases l g q a (uI x 10 (cB h o s_ i.toNat f)) p2_22 wh ) (cwV 0 hts gX10_voltage_X10_layPhases rfl rfl rfl (by decide +kernel) ⟨Nat.le_of_ble_eq_true rfl, Nat.le_of_ble_eq_true rfl⟩) 10 0 rfl rfl rfl (fun _ _ _ _ _ _ => trivial) (fun _ _ _ => trivial) rfl hl.1 (Nat.le_of_ble_eq_true rfl) rfl dX10_voltage_80 ⟨Nat.le_of_ble_eq_true rfl, Nat.le_of_ble_eq_true rfl⟩ (fun u_23 H locs hwu_23 hP hD hS => ?_)
              obtain ⟨w2_24, rfl⟩ : ∃ z_, z_ = u_23 := ⟨_, rfl⟩
              try dsimp only at hwu_23
              have hP : zP g [[((a 0), .inl (g.2 1, 88, .inr (.inl (aL S.1))))], [((a 1), .inl (g.2 1, 88, .inr (.inl (aL S.2.1))))], [((a 2), .inl (g.2 0, 6, .inl (aI h)))], [((a 3), .inl (g.2 0, 18, .inl (aI o)))], [mdl q a (uI x 10 (cB h o s_ i.toNat f))], [((a 13), .inl (g.2 1, 3, .inr (.inl (aL p2_22))))], [((a 14), .inl (g.2 1, 6, .inr (.inl (aL w2_24))))]] H := hP
              have hD : zD A [[((a 0), .inl (g.2 1, 88, .inr (.inl (aL S.1))))], [((a 1), .inl (g.2 1, 88, .inr (.inl (aL S.2.1))))], [((a 2), .inl (g.2 0, 6, .inl (aI h)))], [((a 3), .inl (g.2 0, 18, .inl (aI o)))], [mdl q a (uI x 10 (cB h o s_ i.toNat f))], [((a 13), .inl (g.2 1, 3, .inr (.inl (aL p2_22))))], [((a 14), .inl (g.2 1, 6, .inr (.inl (aL w2_24))))]] := hD
              have hwq := wq_of hpp hwu_23
              have hwb := wq_b hwq hvd (by decide)
              have hwn := wN_b hwb
              refine lv_aload_n hx hb dX10_voltage_83 rfl (lv_at hl 0 rfl) ?_
              refine z_get hx hb hts hin10_ hown hK hP 4 rfl rfl 23 (by decide) (hts _ (List.mem_of_getElem? (i := 4) rfl)) rfl dX10_voltage_84 ?_
              refine z_toL (cB h o s_ i.toNat f) rfl ?_
              refine z_lconst hx hb 0 dX10_voltage_87 rfl ?_
              refine z_lcmp_ne (tgt := 98) hx hb (by omega) (by decide) dX10_voltage_88 dX10_voltage_89 (by decide) (fun cq25 => ?_) (fun cq25 => ?_)
              · rcases (show w = 0 ∨ w = 1 ∨ w = 2 by omega) with rfl | rfl | rfl
                · refine lv_aload_n hx hb dX10_voltage_98 rfl (lv_at hl 0 rfl) ?_
                  refine lv_iload hx hb dX10_voltage_99 (lv_at hl 5 rfl) ?_
                  refine z_toI ((ph.toNat : Nat) : Int) (by omega) ?_
                  refine lv_iload hx hb dX10_voltage_101 (lv_at hl 6 rfl) ?_
                  refine lv_iload hx hb dX10_voltage_103 (lv_at hl 7 rfl) ?_
                  refine z_cVl (As := [vI ((ph.toNat : Nat) : Int), vI 0, vI j]) (rest := []) ⟨hx, hb, hml, hown, hts⟩ hK hP hD hS hA [4, 0, 1, 6] [2, 3, 5] rfl rfl rfl (c_X10_tells l g q a (uI x 10 (cB h o s_ i.toNat f)) S w2_24 ph.toNat 0 j (by omega) (by omega) (by omega) (by have := hwb (2 * ph.toNat + 0) (by omega); omega) (show 1 ≤ (cB h o s_ i.toNat f) ∧ (cB h o s_ i.toNat f) < 9223372036854775808 by omega)) (cwV 3 hts gX10_voltage_X10_tells rfl rfl rfl (by decide +kernel) ⟨Nat.le_of_ble_eq_true rfl, Nat.le_of_ble_eq_true rfl⟩) 10 0 rfl rfl rfl (fun _ _ _ _ _ _ => trivial) (fun _ _ _ => trivial) rfl hl.1 (Nat.le_of_ble_eq_true rfl) rfl dX10_voltage_105 ⟨Nat.le_of_ble_eq_true rfl, Nat.le_of_ble_eq_true rfl⟩ (fun u_26 H locs hwu_26 hP hD hS => ?_)
                  try dsimp only at hwu_26
                  have hP : zP g [[((a 2), .inl (g.2 0, 6, .inl (aI h)))], [((a 3), .inl (g.2 0, 18, .inl (aI o)))], [((a 13), .inl (g.2 1, 3, .inr (.inl (aL p2_22))))], [mdl q a (uI x 10 (cB h o s_ i.toNat f))], [((a 0), .inl (g.2 1, 88, .inr (.inl (aL (rLy 78 (w2_24 (2 * ph.toNat + 0)) ((uI x 10 (cB h o s_ i.toNat f)) 10) S).1))))], [((a 1), .inl (g.2 1, 88, .inr (.inl (aL (rLy 78 (w2_24 (2 * ph.toNat + 0)) ((uI x 10 (cB h o s_ i.toNat f)) 10) S).2.1))))], [((a 14), .inl (g.2 1, 6, .inr (.inl (aL w2_24))))]] H := hP
                  have hD : zD A [[((a 2), .inl (g.2 0, 6, .inl (aI h)))], [((a 3), .inl (g.2 0, 18, .inl (aI o)))], [((a 13), .inl (g.2 1, 3, .inr (.inl (aL p2_22))))], [mdl q a (uI x 10 (cB h o s_ i.toNat f))], [((a 0), .inl (g.2 1, 88, .inr (.inl (aL (rLy 78 (w2_24 (2 * ph.toNat + 0)) ((uI x 10 (cB h o s_ i.toNat f)) 10) S).1))))], [((a 1), .inl (g.2 1, 88, .inr (.inl (aL (rLy 78 (w2_24 (2 * ph.toNat + 0)) ((uI x 10 (cB h o s_ i.toNat f)) 10) S).2.1))))], [((a 14), .inl (g.2 1, 6, .inr (.inl (aL w2_24))))]] := hD
                  refine z_toL (tlF (w2_24 (2 * ph.toNat + 0)) ((uI x 10 (cB h o s_ i.toNat f)) 10) j) rfl ?_
                  exact z_retl ((uI x 10 (cB h o s_ i.toNat f)), p2_22, w2_24, (rLy 78 (w2_24 (2 * ph.toNat + 0)) ((uI x 10 (cB h o s_ i.toNat f)) 10) S)) [3, 4, 5, 0, 1, 2, 6] hx hb hr hlocks hK hP hD hS ((tl_0 hwq (by omega)).trans (aVol_4 hn5 (by omega) (by omega) (by omega) (by omega) (by omega)).symm) (by first | exact ⟨kx10_r _, kp78_r _⟩ | exact ⟨kx10_u (kx10_r _), kp78_r _⟩ | exact ⟨kx10_u (kx10_r _), kp78_l (kp78_r _)⟩) rfl rfl (rfl) (Nat.le_of_ble_eq_true rfl) (Nat.le_of_ble_eq_true rfl) dX10_voltage_108
                · refine lv_aload_n hx hb dX10_voltage_98 rfl (lv_at hl 0 rfl) ?_
                  refine lv_iload hx hb dX10_voltage_99 (lv_at hl 5 rfl) ?_
                  refine z_toI ((ph.toNat : Nat) : Int) (by omega) ?_
                  refine lv_iload hx hb dX10_voltage_101 (lv_at hl 6 rfl) ?_
                  refine lv_iload hx hb dX10_voltage_103 (lv_at hl 7 rfl) ?_
                  refine z_cVl (As := [vI ((ph.toNat : Nat) : Int), vI 1, vI j]) (rest := []) ⟨hx, hb, hml, hown, hts⟩ hK hP hD hS hA [4, 0, 1, 6] [2, 3, 5] rfl rfl rfl (c_X10_tells l g q a (uI x 10 (cB h o s_ i.toNat f)) S w2_24 ph.toNat 1 j (by omega) (by omega) (by omega) (by have := hwb (2 * ph.toNat + 1) (by omega); omega) (show 1 ≤ (cB h o s_ i.toNat f) ∧ (cB h o s_ i.toNat f) < 9223372036854775808 by omega)) (cwV 3 hts gX10_voltage_X10_tells rfl rfl rfl (by decide +kernel) ⟨Nat.le_of_ble_eq_true rfl, Nat.le_of_ble_eq_true rfl⟩) 10 0 rfl rfl rfl (fun _ _ _ _ _ _ => trivial) (fun _ _ _ => trivial) rfl hl.1 (Nat.le_of_ble_eq_true rfl) rfl dX10_voltage_105 ⟨Nat.le_of_ble_eq_true rfl, Nat.le_of_ble_eq_true rfl⟩ (fun u_27 H locs hwu_27 hP hD hS => ?_)
                  try dsimp only at hwu_27
                  have hP : zP g [[((a 2), .inl (g.2 0, 6, .inl (aI h)))], [((a 3), .inl (g.2 0, 18, .inl (aI o)))], [((a 13), .inl (g.2 1, 3, .inr (.inl (aL p2_22))))], [mdl q a (uI x 10 (cB h o s_ i.toNat f))], [((a 0), .inl (g.2 1, 88, .inr (.inl (aL (rLy 78 (w2_24 (2 * ph.toNat + 1)) ((uI x 10 (cB h o s_ i.toNat f)) 10) S).1))))], [((a 1), .inl (g.2 1, 88, .inr (.inl (aL (rLy 78 (w2_24 (2 * ph.toNat + 1)) ((uI x 10 (cB h o s_ i.toNat f)) 10) S).2.1))))], [((a 14), .inl (g.2 1, 6, .inr (.inl (aL w2_24))))]] H := hP
                  have hD : zD A [[((a 2), .inl (g.2 0, 6, .inl (aI h)))], [((a 3), .inl (g.2 0, 18, .inl (aI o)))], [((a 13), .inl (g.2 1, 3, .inr (.inl (aL p2_22))))], [mdl q a (uI x 10 (cB h o s_ i.toNat f))], [((a 0), .inl (g.2 1, 88, .inr (.inl (aL (rLy 78 (w2_24 (2 * ph.toNat + 1)) ((uI x 10 (cB h o s_ i.toNat f)) 10) S).1))))], [((a 1), .inl (g.2 1, 88, .inr (.inl (aL (rLy 78 (w2_24 (2 * ph.toNat + 1)) ((uI x 10 (cB h o s_ i.toNat f)) 10) S).2.1))))], [((a 14), .inl (g.2 1, 6, .inr (.inl (aL w2_24))))]] := hD
                  refine z_toL (tlF (w2_24 (2 * ph.toNat + 1)) ((uI x 10 (cB h o s_ i.toNat f)) 10) j) rfl ?_
                  exact z_retl ((uI x 10 (cB h o s_ i.toNat f)), p2_22, w2_24, (rLy 78 (w2_24 (2 * ph.toNat + 1)) ((uI x 10 (cB h o s_ i.toNat f)) 10) S)) [3, 4, 5, 0, 1, 2, 6] hx hb hr hlocks hK hP hD hS ((tl_1 hwq (by omega)).trans (aVol_4 hn5 (by omega) (by omega) (by omega) (by omega) (by omega)).symm) (by first | exact ⟨kx10_r _, kp78_r _⟩ | exact ⟨kx10_u (kx10_r _), kp78_r _⟩ | exact ⟨kx10_u (kx10_r _), kp78_l (kp78_r _)⟩) rfl rfl (rfl) (Nat.le_of_ble_eq_true rfl) (Nat.le_of_ble_eq_true rfl) dX10_voltage_108
                · refine lv_aload_n hx hb dX10_voltage_98 rfl (lv_at hl 0 rfl) ?_
                  refine lv_iload hx hb dX10_voltage_99 (lv_at hl 5 rfl) ?_
                  refine z_toI ((ph.toNat : Nat) : Int) (by omega) ?_
                  refine lv_iload hx hb dX10_voltage_101 (lv_at hl 6 rfl) ?_
                  refine lv_iload hx hb dX10_voltage_103 (lv_at hl 7 rfl) ?_
                  refine z_cVl (As := [vI ((ph.toNat : Nat) : Int), vI 2, vI j]) (rest := []) ⟨hx, hb, hml, hown, hts⟩ hK hP hD hS hA [4, 0, 1, 6] [2, 3, 5] rfl rfl rfl (c_X10_tells2 l g q a (uI x 10 (cB h o s_ i.toNat f)) S w2_24 ph.toNat j (by omega) (by omega) (by have := hwn ph.toNat (by omega); omega) (show 1 ≤ (cB h o s_ i.toNat f) * (cB h o s_ i.toNat f) ∧ (cB h o s_ i.toNat f) * (cB h o s_ i.toNat f) < 9223372036854775808 by have := sq_rng (d := (cB h o s_ i.toNat f)) (by omega) (by omega); omega)) (cwV 3 hts gX10_voltage_X10_tells rfl rfl rfl (by decide +kernel) ⟨Nat.le_of_ble_eq_true rfl, Nat.le_of_ble_eq_true rfl⟩) 10 0 rfl rfl rfl (fun _ _ _ _ _ _ => trivial) (fun _ _ _ => trivial) rfl hl.1 (Nat.le_of_ble_eq_true rfl) rfl dX10_voltage_105 ⟨Nat.le_of_ble_eq_true rfl, Nat.le_of_ble_eq_true rfl⟩ (fun u_28 H locs hwu_28 hP hD hS => ?_)
                  try dsimp only at hwu_28
                  have hP : zP g [[((a 2), .inl (g.2 0, 6, .inl (aI h)))], [((a 3), .inl (g.2 0, 18, .inl (aI o)))], [((a 13), .inl (g.2 1, 3, .inr (.inl (aL p2_22))))], [mdl q a (uI x 10 (cB h o s_ i.toNat f))], [((a 0), .inl (g.2 1, 88, .inr (.inl (aL (rLy 78 (wN w2_24 ph.toNat) ((uI x 10 (cB h o s_ i.toNat f)) 10 * (uI x 10 (cB h o s_ i.toNat f)) 10) S).1))))], [((a 1), .inl (g.2 1, 88, .inr (.inl (aL (rLy 78 (wN w2_24 ph.toNat) ((uI x 10 (cB h o s_ i.toNat f)) 10 * (uI x 10 (cB h o s_ i.toNat f)) 10) S).2.1))))], [((a 14), .inl (g.2 1, 6, .inr (.inl (aL w2_24))))]] H := hP
                  have hD : zD A [[((a 2), .inl (g.2 0, 6, .inl (aI h)))], [((a 3), .inl (g.2 0, 18, .inl (aI o)))], [((a 13), .inl (g.2 1, 3, .inr (.inl (aL p2_22))))], [mdl q a (uI x 10 (cB h o s_ i.toNat f))], [((a 0), .inl (g.2 1, 88, .inr (.inl (aL (rLy 78 (wN w2_24 ph.toNat) ((uI x 10 (cB h o s_ i.toNat f)) 10 * (uI x 10 (cB h o s_ i.toNat f)) 10) S).1))))], [((a 1), .inl (g.2 1, 88, .inr (.inl (aL (rLy 78 (wN w2_24 ph.toNat) ((uI x 10 (cB h o s_ i.toNat f)) 10 * (uI x 10 (cB h o s_ i.toNat f)) 10) S).2.1))))], [((a 14), .inl (g.2 1, 6, .inr (.inl (aL w2_24))))]] := hD
                  refine z_toL (tlF (wN w2_24 ph.toNat) ((uI x 10 (cB h o s_ i.toNat f)) 10 * (uI x 10 (cB h o s_ i.toNat f)) 10) j) rfl ?_
                  exact z_retl ((uI x 10 (cB h o s_ i.toNat f)), p2_22, w2_24, (rLy 78 (wN w2_24 ph.toNat) ((uI x 10 (cB h o s_ i.toNat f)) 10 * (uI x 10 (cB h o s_ i.toNat f)) 10) S)) [3, 4, 5, 0, 1, 2, 6] hx hb hr hlocks hK hP hD hS ((tl_2 hwq (by omega)).trans (aVol_4 hn5 (by omega) (by omega) (by omega) (by omega) (by omega)).symm) (by first | exact ⟨kx10_r _, kp78_r _⟩ | exact ⟨kx10_u (kx10_r _), kp78_r _⟩ | exact ⟨kx10_u (kx10_r _), kp78_l (kp78_r _)⟩) rfl rfl (rfl) (Nat.le_of_ble_eq_true rfl) (Nat.le_of_ble_eq_true rfl) dX10_voltage_108
              · refine z_ldc2 hx hb (-2000000003) hown (hts _ (List.mem_of_getElem? (i := 5) rfl)) rfl dX10_voltage_92 ?_
                refine lv_goto (tgt := 108) hx hb dX10_voltage_95 (by decide) ?_
                exact z_retl ((uI x 10 (cB h o s_ i.toNat f)), p2_22, w2_24, S) [4, 0, 1, 2, 3, 5, 6] hx hb hr hlocks hK hP hD hS ((aVol_3 (by omega) (by omega) (by omega) (by omega)).symm) (by first | exact ⟨kx10_r _, kp78_r _⟩ | exact ⟨kx10_u (kx10_r _), kp78_r _⟩ | exact ⟨kx10_u (kx10_r _), kp78_l (kp78_r _)⟩) rfl rfl (rfl) (Nat.le_of_ble_eq_true rfl) (Nat.le_of_ble_eq_true rfl) dX10_voltage_108
            · refine z_ldc2 hx hb (-2000000002) hown (hts _ (List.mem_of_getElem? (i := 3) rfl)) rfl dX10_voltage_61 ?_
              exact z_retl (x, pp, wh, S) [6, 0, 1, 2, 3, 4, 5] hx hb hr hlocks hK hP hD hS ((aVol_2 (by omega) (by omega) (by omega)).symm) (by first | exact ⟨kx10_r _, kp78_r _⟩ | exact ⟨kx10_u (kx10_r _), kp78_r _⟩ | exact ⟨kx10_u (kx10_r _), kp78_l (kp78_r _)⟩) rfl rfl (rfl) (Nat.le_of_ble_eq_true rfl) (Nat.le_of_ble_eq_true rfl) dX10_voltage_64
      · refine z_ldc2 hx hb (-2000000001) hown (hts _ (List.mem_of_getElem? (i := 1) rfl)) rfl dX10_voltage_25 ?_
        exact z_retl (x, pp, wh, S) [6, 0, 1, 2, 3, 4, 5] hx hb hr hlocks hK hP hD hS ((aVol_1 (by omega)).symm) (by first | exact ⟨kx10_r _, kp78_r _⟩ | exact ⟨kx10_u (kx10_r _), kp78_r _⟩ | exact ⟨kx10_u (kx10_r _), kp78_l (kp78_r _)⟩) rfl rfl (rfl) (Nat.le_of_ble_eq_true rfl) (Nat.le_of_ble_eq_true rfl) dX10_voltage_28
