set_option maxHeartbeats 4000000 in
set_option maxRecDepth 100000 in
theorem c_X0_become (l : Launch) (g : zG) (q : Nat) (q0 : Int) (q1 : Int) (q2 : Int) (q3 : Int) (n0 : Int) (n1 : Int) (n2 : Int) (n3 : Int)  : zMet l g yX0_become wsX0_become 0 0 0 [.ref q, vL n0, vL n1, vL n2, vL n3] zX0 [[flw q q0 q1 q2 q3]] (qv g (fun (_ : Unit) => True) (fun (_ : Unit) => [[flw q n0 n1 n2 n3]])) := by
  refine z_ent (cc := cX0_become) (maxL := 9) (ret := none) (by decide) rfl (Nat.le_of_ble_eq_true rfl) ?_
  intro p e s m below meth c A ls hx hb hr hml hown hts hlocks hin0 hA hK hP hD hS hXX hl
  have hown : s.vm.findClass RX0 = some m.cls := hown
  have hin0_ : ∀ w ∈ wsX00, w ∈ wsX0_become := zw_in [5, 6, 7, 8] rfl
  have hl : lv_has ls 9 [(0, .ref q), (1, vL n0), (3, vL n1), (5, vL n2), (7, vL n3)] := hl
  refine lv_aload_n hx hb dX0_become_0 rfl (lv_at hl 0 rfl) ?_
  refine lv_lload_n hx hb dX0_become_1 rfl (lv_at hl 1 rfl) ?_
  refine z_put hx hb hts hin0_ tyX0 tyX0_ok nmX0 hown hK hP hD hS 0 rfl rfl 0 (by decide) (hts _ (List.mem_of_getElem? (i := 1) rfl)) rfl rfl rfl (Nat.le_of_ble_eq_true rfl) dX0_become_2 [[(q, .inr (0, [vL n0, vL q1, vL q2, vL q3]))]] rfl (fun H locs hP hD hS => ?_)
  refine lv_aload_n hx hb dX0_become_5 rfl (lv_at hl 0 rfl) ?_
  refine lv_lload_n hx hb dX0_become_6 rfl (lv_at hl 2 rfl) ?_
  refine z_put hx hb hts hin0_ tyX0 tyX0_ok nmX0 hown hK hP hD hS 0 rfl rfl 1 (by decide) (hts _ (List.mem_of_getElem? (i := 2) rfl)) rfl rfl rfl (Nat.le_of_ble_eq_true rfl) dX0_become_7 [[(q, .inr (0, [vL n0, vL n1, vL q2, vL q3]))]] rfl (fun H locs hP hD hS => ?_)
  refine lv_aload_n hx hb dX0_become_10 rfl (lv_at hl 0 rfl) ?_
  refine lv_lload hx hb dX0_become_11 (lv_at hl 3 rfl) ?_
  refine z_put hx hb hts hin0_ tyX0 tyX0_ok nmX0 hown hK hP hD hS 0 rfl rfl 2 (by decide) (hts _ (List.mem_of_getElem? (i := 3) rfl)) rfl rfl rfl (Nat.le_of_ble_eq_true rfl) dX0_become_13 [[(q, .inr (0, [vL n0, vL n1, vL n2, vL q3]))]] rfl (fun H locs hP hD hS => ?_)
  refine lv_aload_n hx hb dX0_become_16 rfl (lv_at hl 0 rfl) ?_
  refine lv_lload hx hb dX0_become_17 (lv_at hl 4 rfl) ?_
  refine z_put hx hb hts hin0_ tyX0 tyX0_ok nmX0 hown hK hP hD hS 0 rfl rfl 3 (by decide) (hts _ (List.mem_of_getElem? (i := 4) rfl)) rfl rfl rfl (Nat.le_of_ble_eq_true rfl) dX0_become_19 [[(q, .inr (0, [vL n0, vL n1, vL n2, vL n3]))]] rfl (fun H locs hP hD hS => ?_)
  exact z_retv () [0] hx hb hr hlocks hK hP hD hS trivial rfl rfl (rfl) (Nat.le_of_ble_eq_true rfl) (Nat.le_of_ble_eq_true rfl) dX0_become_22

set_option maxHeartbeats 4000000 in
set_option maxRecDepth 100000 in
theorem c_X0_takeFault (l : Launch) (g : zG) (q : Nat) (q0 : Int) (q1 : Int) (q2 : Int) (q3 : Int) (n_ : Nat) (x : Nat → Nat) (v : Int) (b_ : Nat) (h : Nat → Int) (o : Nat → Int) (l_ : Nat → Int) (s_ : Int) (i : Nat) (f : Int) (hn : nok v b_ h o l_) (hs : 0 ≤ s_ ∧ s_ ≤ 3) (hi : i < 6) (hf : 0 ≤ f ∧ f ≤ 9) : zMet l g yX0_takeFault wsX0_takeFault 1 0 0 [.ref q, .ref n_, vI s_, vI ((i : Nat) : Int), vI f] zX0 [[flw q q0 q1 q2 q3], (netW g n_ x v b_ h o l_)] (qi g (fun (_ : Unit) => (if 0 < (fBl s_ (zUp h o 0 i) (zUp h o 1 i) (zUp h o 2 i) f) then 1 else 0 : Int)) (fun (_ : Unit) => True) (fun (_ : Unit) => [[flw q (fP0 s_ v (zUp h o 0 i) (zUp h o 1 i) (zUp h o 2 i) f) (fP1 s_ v (zUp h o 0 i) (zUp h o 1 i) (zUp h o 2 i) f) (fP2 s_ v (zUp h o 0 i) (zUp h o 1 i) (zUp h o 2 i) f) (fBl s_ (zUp h o 0 i) (zUp h o 1 i) (zUp h o 2 i) f)], (netW g n_ x v b_ h o l_)])) := by
  obtain ⟨hn1, hn2, hn3, hn4, hn5, hn6, hn7⟩ := id hn
  have hz0 := zUp_54 hn 0 hi
  have hz1 := zUp_54 hn 1 hi
  have hz2 := zUp_54 hn 2 hi
  refine z_ent (cc := cX0_takeFault) (maxL := 15) (ret := (some .boolean)) (by decide) rfl (Nat.le_of_ble_eq_true rfl) ?_
  intro p e s m below meth c A ls hx hb hr hml hown hts hlocks hin0 hA hK hP hD hS hXX hl
  have hown : s.vm.findClass RX0 = some m.cls := hown
  have hin0_ : ∀ w ∈ wsX00, w ∈ wsX0_takeFault := zw_in [23, 24, 25, 26] rfl
  have hin2_ : ∀ w ∈ wsX20, w ∈ wsX0_takeFault := zw_in [18, 19, 20, 21, 22] rfl
  have hl : lv_has ls 15 [(0, .ref q), (1, .ref n_), (2, vI s_), (3, vI ((i : Nat) : Int)), (4, vI f)] := hl
  have hP : zP g [[flw q q0 q1 q2 q3], [(n_, .inr (2, [vI v, vI ((b_ : Nat) : Int), .ref (x 0), .ref (x 1), .ref (x 2)]))], [((x 0), .inl (g.2 0, 6, .inl (aI h)))], [((x 1), .inl (g.2 0, 18, .inl (aI o)))], [((x 2), .inl (g.2 0, 6, .inl (aI l_)))]] s.heap := hP
  have hD : zD A [[flw q q0 q1 q2 q3], [(n_, .inr (2, [vI v, vI ((b_ : Nat) : Int), .ref (x 0), .ref (x 1), .ref (x 2)]))], [((x 0), .inl (g.2 0, 6, .inl (aI h)))], [((x 1), .inl (g.2 0, 18, .inl (aI o)))], [((x 2), .inl (g.2 0, 6, .inl (aI l_)))]] := hD
  refine lv_aload_n hx hb dX0_takeFault_0 rfl (lv_at hl 1 rfl) ?_
  refine z_get hx hb hts hin2_ hown hK hP 1 rfl rfl 0 (by decide) (hts _ (List.mem_of_getElem? (i := 1) rfl)) rfl dX0_takeFault_1 ?_
  refine z_i2l hx hb (by omega) dX0_takeFault_4 ?_
  refine lv_lstore (lv' := [(5, vL v), (0, .ref q), (1, .ref n_), (2, vI s_), (3, vI ((i : Nat) : Int)), (4, vI f)]) hx hb dX0_takeFault_5 hl (by decide) rfl (fun ls hl => ?_)
  have hP : zP g [[flw q q0 q1 q2 q3], (netW g n_ x v b_ h o l_)] s.heap := hP
  have hD : zD A [[flw q q0 q1 q2 q3], (netW g n_ x v b_ h o l_)] := hD
  refine lv_aload_n hx hb dX0_takeFault_7 rfl (lv_at hl 2 rfl) ?_
  refine lv_iload_n hx hb dX0_takeFault_8 rfl (lv_at hl 4 rfl) ?_
  refine z_iconst hx hb dX0_takeFault_9 rfl ?_
  refine z_cVi (As := [vI ((i : Nat) : Int), vI 0]) (rest := []) ⟨hx, hb, hml, hown, hts⟩ hK hP hD hS hA [1] [0] rfl rfl rfl (c_X2_ohmsUpTo l g n_ x v b_ h o l_ i 0 (by first | assumption | omega | decide) (by first | assumption | omega | decide) (by first | assumption | omega | decide)) (cwV 2 hts gX0_takeFault_X2_ohmsUpTo rfl rfl rfl (by decide +kernel) ⟨Nat.le_of_ble_eq_true rfl, Nat.le_of_ble_eq_true rfl⟩) 2 0 rfl rfl rfl (fun _ _ _ _ _ _ => trivial) (fun _ _ _ => trivial) rfl hl.1 (Nat.le_of_ble_eq_true rfl) rfl dX0_takeFault_10 ⟨Nat.le_of_ble_eq_true rfl, Nat.le_of_ble_eq_true rfl⟩ (fun u_1 H locs hwu_1 hP hD hS => ?_)
  try dsimp only at hwu_1
  have hP : zP g [[flw q q0 q1 q2 q3], (netW g n_ x v b_ h o l_)] H := hP
  have hD : zD A [[flw q q0 q1 q2 q3], (netW g n_ x v b_ h o l_)] := hD
  refine z_toI (zUp h o 0 i) rfl ?_
  refine z_i2l hx hb (by omega) dX0_takeFault_13 ?_
  refine lv_lstore (lv' := [(7, vL (zUp h o 0 i)), (5, vL v), (0, .ref q), (1, .ref n_), (2, vI s_), (3, vI ((i : Nat) : Int)), (4, vI f)]) hx hb dX0_takeFault_14 hl (by decide) rfl (fun ls hl => ?_)
  refine lv_aload_n hx hb dX0_takeFault_16 rfl (lv_at hl 3 rfl) ?_
  refine lv_iload_n hx hb dX0_takeFault_17 rfl (lv_at hl 5 rfl) ?_
  refine z_iconst hx hb dX0_takeFault_18 rfl ?_
  refine z_cVi (As := [vI ((i : Nat) : Int), vI 1]) (rest := []) ⟨hx, hb, hml, hown, hts⟩ hK hP hD hS hA [1] [0] rfl rfl rfl (c_X2_ohmsUpTo l g n_ x v b_ h o l_ i 1 (by first | assumption | omega | decide) (by first | assumption | omega | decide) (by first | assumption | omega | decide)) (cwV 2 hts gX0_takeFault_X2_ohmsUpTo rfl rfl rfl (by decide +kernel) ⟨Nat.le_of_ble_eq_true rfl, Nat.le_of_ble_eq_true rfl⟩) 2 0 rfl rfl rfl (fun _ _ _ _ _ _ => trivial) (fun _ _ _ => trivial) rfl hl.1 (Nat.le_of_ble_eq_true rfl) rfl dX0_takeFault_19 ⟨Nat.le_of_ble_eq_true rfl, Nat.le_of_ble_eq_true rfl⟩ (fun u_2 H locs hwu_2 hP hD hS => ?_)
  try dsimp only at hwu_2
  have hP : zP g [[flw q q0 q1 q2 q3], (netW g n_ x v b_ h o l_)] H := hP
  have hD : zD A [[flw q q0 q1 q2 q3], (netW g n_ x v b_ h o l_)] := hD
  refine z_toI (zUp h o 1 i) rfl ?_
  refine z_i2l hx hb (by omega) dX0_takeFault_22 ?_
  refine lv_lstore (lv' := [(9, vL (zUp h o 1 i)), (7, vL (zUp h o 0 i)), (5, vL v), (0, .ref q), (1, .ref n_), (2, vI s_), (3, vI ((i : Nat) : Int)), (4, vI f)]) hx hb dX0_takeFault_23 hl (by decide) rfl (fun ls hl => ?_)
  refine lv_aload_n hx hb dX0_takeFault_25 rfl (lv_at hl 4 rfl) ?_
  refine lv_iload_n hx hb dX0_takeFault_26 rfl (lv_at hl 6 rfl) ?_
  refine z_iconst hx hb dX0_takeFault_27 rfl ?_
  refine z_cVi (As := [vI ((i : Nat) : Int), vI 2]) (rest := []) ⟨hx, hb, hml, hown, hts⟩ hK hP hD hS hA [1] [0] rfl rfl rfl (c_X2_ohmsUpTo l g n_ x v b_ h o l_ i 2 (by first | assumption | omega | decide) (by first | assumption | omega | decide) (by first | assumption | omega | decide)) (cwV 2 hts gX0_takeFault_X2_ohmsUpTo rfl rfl rfl (by decide +kernel) ⟨Nat.le_of_ble_eq_true rfl, Nat.le_of_ble_eq_true rfl⟩) 2 0 rfl rfl rfl (fun _ _ _ _ _ _ => trivial) (fun _ _ _ => trivial) rfl hl.1 (Nat.le_of_ble_eq_true rfl) rfl dX0_takeFault_28 ⟨Nat.le_of_ble_eq_true rfl, Nat.le_of_ble_eq_true rfl⟩ (fun u_3 H locs hwu_3 hP hD hS => ?_)
  try dsimp only at hwu_3
  have hP : zP g [[flw q q0 q1 q2 q3], (netW g n_ x v b_ h o l_)] H := hP
  have hD : zD A [[flw q q0 q1 q2 q3], (netW g n_ x v b_ h o l_)] := hD
  refine z_toI (zUp h o 2 i) rfl ?_
  refine z_i2l hx hb (by omega) dX0_takeFault_31 ?_
  refine lv_lstore (lv' := [(11, vL (zUp h o 2 i)), (9, vL (zUp h o 1 i)), (7, vL (zUp h o 0 i)), (5, vL v), (0, .ref q), (1, .ref n_), (2, vI s_), (3, vI ((i : Nat) : Int)), (4, vI f)]) hx hb dX0_takeFault_32 hl (by decide) rfl (fun ls hl => ?_)
  refine lv_iload_n hx hb dX0_takeFault_34 rfl (lv_at hl 6 rfl) ?_
  rcases (show s_ = 0 ∨ s_ = 1 ∨ s_ = 2 ∨ (s_ < 0 ∨ 2 < s_) by omega) with hc_4 | hc_4 | hc_4 | hc_4
  · refine z_swIn hx hb 0 60 hc_4 (by decide) dX0_takeFault_35 (by decide) (by decide) rfl (by decide) ?_
    subst hc_4
    refine lv_aload_n hx hb dX0_takeFault_60 rfl (lv_at hl 4 rfl) ?_
    refine lv_lload hx hb dX0_takeFault_61 (lv_at hl 3 rfl) ?_
    refine lv_lload hx hb dX0_takeFault_63 (lv_at hl 3 rfl) ?_
    refine lv_lload hx hb dX0_takeFault_65 (lv_at hl 3 rfl) ?_
    refine lv_lload hx hb dX0_takeFault_67 (lv_at hl 2 rfl) ?_
    refine lv_lload hx hb dX0_takeFault_69 (lv_at hl 1 rfl) ?_
    refine z_ladd hx hb ((zUp h o 0 i) + (zUp h o 1 i)) rfl dX0_takeFault_71 ?_
    refine lv_lload hx hb dX0_takeFault_72 (lv_at hl 0 rfl) ?_
    refine z_ladd hx hb (((zUp h o 0 i) + (zUp h o 1 i)) + (zUp h o 2 i)) rfl dX0_takeFault_74 ?_
    refine z_iconst hx hb dX0_takeFault_75 rfl ?_
    refine lv_iload hx hb dX0_takeFault_76 (lv_at hl 8 rfl) ?_
    refine z_imul hx hb (3 * f) rfl dX0_takeFault_78 ?_
    refine z_i2l hx hb (by omega) dX0_takeFault_79 ?_
    refine z_ladd hx hb ((((zUp h o 0 i) + (zUp h o 1 i)) + (zUp h o 2 i)) + (3 * f)) rfl dX0_takeFault_80 ?_
    refine z_cVv (As := [vL v, vL v, vL v, vL ((((zUp h o 0 i) + (zUp h o 1 i)) + (zUp h o 2 i)) + (3 * f))]) (rest := []) ⟨hx, hb, hml, hown, hts⟩ hK hP hD hS hA [0] [1] rfl rfl rfl (c_X0_become l g q q0 q1 q2 q3 v v v ((((zUp h o 0 i) + (zUp h o 1 i)) + (zUp h o 2 i)) + (3 * f)) ) (cwV 4 hts gX0_takeFault_X0_become rfl rfl rfl (by decide +kernel) ⟨Nat.le_of_ble_eq_true rfl, Nat.le_of_ble_eq_true rfl⟩) 0 0 rfl rfl rfl (fun _ _ _ _ _ _ => trivial) (fun _ _ _ => trivial) rfl hl.1 (Nat.le_of_ble_eq_true rfl) rfl dX0_takeFault_81 ⟨Nat.le_of_ble_eq_true rfl, Nat.le_of_ble_eq_true rfl⟩ (fun u_5 H locs hwu_5 hP hD hS => ?_)
    try dsimp only at hwu_5
    have hP : zP g [(netW g n_ x v b_ h o l_), [flw q v v v ((((zUp h o 0 i) + (zUp h o 1 i)) + (zUp h o 2 i)) + (3 * f))]] H := hP
    have hD : zD A [(netW g n_ x v b_ h o l_), [flw q v v v ((((zUp h o 0 i) + (zUp h o 1 i)) + (zUp h o 2 i)) + (3 * f))]] := hD
    have hP : zP g [[flw q v v v ((((zUp h o 0 i) + (zUp h o 1 i)) + (zUp h o 2 i)) + (3 * f))], (netW g n_ x v b_ h o l_)] H := zP_sub hP [1, 0] rfl
    have hD : zD A [[flw q v v v ((((zUp h o 0 i) + (zUp h o 1 i)) + (zUp h o 2 i)) + (3 * f))], (netW g n_ x v b_ h o l_)] := zD_sub hD [1, 0] rfl rfl
    refine lv_goto (tgt := 177) hx hb dX0_takeFault_84 (by decide) ?_
    have hP : zP g [[flw q (fP0 0 v (zUp h o 0 i) (zUp h o 1 i) (zUp h o 2 i) f) (fP1 0 v (zUp h o 0 i) (zUp h o 1 i) (zUp h o 2 i) f) (fP2 0 v (zUp h o 0 i) (zUp h o 1 i) (zUp h o 2 i) f) (fBl 0 (zUp h o 0 i) (zUp h o 1 i) (zUp h o 2 i) f)], (netW g n_ x v b_ h o l_)] H := hP
    have hD : zD A [[flw q (fP0 0 v (zUp h o 0 i) (zUp h o 1 i) (zUp h o 2 i) f) (fP1 0 v (zUp h o 0 i) (zUp h o 1 i) (zUp h o 2 i) f) (fP2 0 v (zUp h o 0 i) (zUp h o 1 i) (zUp h o 2 i) f) (fBl 0 (zUp h o 0 i) (zUp h o 1 i) (zUp h o 2 i) f)], (netW g n_ x v b_ h o l_)] := hD
    have hB := (flt_bd (s := 0) (v := v) (f := f) ⟨hn1, hn2⟩ hz0 hz1 hz2 hf).2.2.2
    refine lv_aload_n hx hb dX0_takeFault_177 rfl (lv_at hl 4 rfl) ?_
    refine z_get hx hb hts hin0_ hown hK hP 0 rfl rfl 3 (by decide) (hts _ (List.mem_of_getElem? (i := 2) rfl)) rfl dX0_takeFault_178 ?_
    refine z_lconst hx hb 0 dX0_takeFault_181 rfl ?_
    refine z_lcmp_le (tgt := 190) hx hb (by omega) (by decide) dX0_takeFault_182 dX0_takeFault_183 (by decide) (fun c6 => ?_) (fun c6 => ?_)
    · refine z_iconst hx hb dX0_takeFault_190 rfl ?_
      exact z_reti () [0, 1] hx hb hr (nar_z (by first | decide | omega)) hlocks hK hP hD hS (by first | rw [if_pos (by omega)] | rw [if_neg (by omega)]) trivial rfl rfl (rfl) (Nat.le_of_ble_eq_true rfl) (Nat.le_of_ble_eq_true rfl) dX0_takeFault_191
    · refine z_iconst hx hb dX0_takeFault_186 rfl ?_
      refine lv_goto (tgt := 191) hx hb dX0_takeFault_187 (by decide) ?_
      exact z_reti () [0, 1] hx hb hr (nar_z (by first | decide | omega)) hlocks hK hP hD hS (by first | rw [if_pos (by omega)] | rw [if_neg (by omega)]) trivial rfl rfl (rfl) (Nat.le_of_ble_eq_true rfl) (Nat.le_of_ble_eq_true rfl) dX0_takeFault_191
  · refine z_swIn hx hb 1 87 hc_4 (by decide) dX0_takeFault_35 (by decide) (by decide) rfl (by decide) ?_
    subst hc_4
    refine lv_aload_n hx hb dX0_takeFault_87 rfl (lv_at hl 4 rfl) ?_
    refine z_lconst hx hb 0 dX0_takeFault_88 rfl ?_
    refine lv_lload hx hb dX0_takeFault_89 (lv_at hl 3 rfl) ?_
    refine lv_lload hx hb dX0_takeFault_91 (lv_at hl 3 rfl) ?_
    refine z_lneg hx hb (-v) rfl dX0_takeFault_93 ?_
    refine lv_lload hx hb dX0_takeFault_94 (lv_at hl 1 rfl) ?_
    refine lv_lload hx hb dX0_takeFault_96 (lv_at hl 0 rfl) ?_
    refine z_ladd hx hb ((zUp h o 1 i) + (zUp h o 2 i)) rfl dX0_takeFault_98 ?_
    refine lv_iload hx hb dX0_takeFault_99 (lv_at hl 8 rfl) ?_
    refine z_i2l hx hb (by omega) dX0_takeFault_101 ?_
    refine z_ladd hx hb (((zUp h o 1 i) + (zUp h o 2 i)) + f) rfl dX0_takeFault_102 ?_
    refine z_cVv (As := [vL 0, vL v, vL (-v), vL (((zUp h o 1 i) + (zUp h o 2 i)) + f)]) (rest := []) ⟨hx, hb, hml, hown, hts⟩ hK hP hD hS hA [0] [1] rfl rfl rfl (c_X0_become l g q q0 q1 q2 q3 0 v (-v) (((zUp h o 1 i) + (zUp h o 2 i)) + f) ) (cwV 4 hts gX0_takeFault_X0_become rfl rfl rfl (by decide +kernel) ⟨Nat.le_of_ble_eq_true rfl, Nat.le_of_ble_eq_true rfl⟩) 0 0 rfl rfl rfl (fun _ _ _ _ _ _ => trivial) (fun _ _ _ => trivial) rfl hl.1 (Nat.le_of_ble_eq_true rfl) rfl dX0_takeFault_103 ⟨Nat.le_of_ble_eq_true rfl, Nat.le_of_ble_eq_true rfl⟩ (fun u_7 H locs hwu_7 hP hD hS => ?_)
    try dsimp only at hwu_7
    have hP : zP g [(netW g n_ x v b_ h o l_), [flw q 0 v (-v) (((zUp h o 1 i) + (zUp h o 2 i)) + f)]] H := hP
    have hD : zD A [(netW g n_ x v b_ h o l_), [flw q 0 v (-v) (((zUp h o 1 i) + (zUp h o 2 i)) + f)]] := hD
    have hP : zP g [[flw q 0 v (-v) (((zUp h o 1 i) + (zUp h o 2 i)) + f)], (netW g n_ x v b_ h o l_)] H := zP_sub hP [1, 0] rfl
    have hD : zD A [[flw q 0 v (-v) (((zUp h o 1 i) + (zUp h o 2 i)) + f)], (netW g n_ x v b_ h o l_)] := zD_sub hD [1, 0] rfl rfl
    refine lv_goto (tgt := 177) hx hb dX0_takeFault_106 (by decide) ?_
    have hP : zP g [[flw q (fP0 1 v (zUp h o 0 i) (zUp h o 1 i) (zUp h o 2 i) f) (fP1 1 v (zUp h o 0 i) (zUp h o 1 i) (zUp h o 2 i) f) (fP2 1 v (zUp h o 0 i) (zUp h o 1 i) (zUp h o 2 i) f) (fBl 1 (zUp h o 0 i) (zUp h o 1 i) (zUp h o 2 i) f)], (netW g n_ x v b_ h o l_)] H := hP
    have hD : zD A [[flw q (fP0 1 v (zUp h o 0 i) (zUp h o 1 i) (zUp h o 2 i) f) (fP1 1 v (zUp h o 0 i) (zUp h o 1 i) (zUp h o 2 i) f) (fP2 1 v (zUp h o 0 i) (zUp h o 1 i) (zUp h o 2 i) f) (fBl 1 (zUp h o 0 i) (zUp h o 1 i) (zUp h o 2 i) f)], (netW g n_ x v b_ h o l_)] := hD
    have hB := (flt_bd (s := 1) (v := v) (f := f) ⟨hn1, hn2⟩ hz0 hz1 hz2 hf).2.2.2
    refine lv_aload_n hx hb dX0_takeFault_177 rfl (lv_at hl 4 rfl) ?_
    refine z_get hx hb hts hin0_ hown hK hP 0 rfl rfl 3 (by decide) (hts _ (List.mem_of_getElem? (i := 2) rfl)) rfl dX0_takeFault_178 ?_
    refine z_lconst hx hb 0 dX0_takeFault_181 rfl ?_
    refine z_lcmp_le (tgt := 190) hx hb (by omega) (by decide) dX0_takeFault_182 dX0_takeFault_183 (by decide) (fun c8 => ?_) (fun c8 => ?_)
    · refine z_iconst hx hb dX0_takeFault_190 rfl ?_
      exact z_reti () [0, 1] hx hb hr (nar_z (by first | decide | omega)) hlocks hK hP hD hS (by first | rw [if_pos (by omega)] | rw [if_neg (by omega)]) trivial rfl rfl (rfl) (Nat.le_of_ble_eq_true rfl) (Nat.le_of_ble_eq_true rfl) dX0_takeFault_191
    · refine z_iconst hx hb dX0_takeFault_186 rfl ?_
      refine lv_goto (tgt := 191) hx hb dX0_takeFault_187 (by decide) ?_
      exact z_reti () [0, 1] hx hb hr (nar_z (by first | decide | omega)) hlocks hK hP hD hS (by first | rw [if_pos (by omega)] | rw [if_neg (by omega)]) trivial rfl rfl (rfl) (Nat.le_of_ble_eq_true rfl) (Nat.le_of_ble_eq_true rfl) dX0_takeFault_191
  · refine z_swIn hx hb 2 109 hc_4 (by decide) dX0_takeFault_35 (by decide) (by decide) rfl (by decide) ?_
    subst hc_4
    refine lv_lload hx hb dX0_takeFault_109 (lv_at hl 2 rfl) ?_
    refine z_iconst hx hb dX0_takeFault_111 rfl ?_
    refine lv_iload hx hb dX0_takeFault_112 (lv_at hl 8 rfl) ?_
    refine z_imul hx hb (3 * f) rfl dX0_takeFault_114 ?_
    refine z_i2l hx hb (by omega) dX0_takeFault_115 ?_
    refine z_ladd hx hb ((zUp h o 0 i) + (3 * f)) rfl dX0_takeFault_116 ?_
    refine z_toL ((zUp h o 0 i) + 3 * f) rfl ?_
    refine lv_lstore (lv' := [(13, vL ((zUp h o 0 i) + 3 * f)), (11, vL (zUp h o 2 i)), (9, vL (zUp h o 1 i)), (7, vL (zUp h o 0 i)), (5, vL v), (0, .ref q), (1, .ref n_), (2, vI 2), (3, vI ((i : Nat) : Int)), (4, vI f)]) hx hb dX0_takeFault_117 hl (by decide) rfl (fun ls hl => ?_)
    refine lv_aload_n hx hb dX0_takeFault_119 rfl (lv_at hl 5 rfl) ?_
    refine lv_lload hx hb dX0_takeFault_120 (lv_at hl 4 rfl) ?_
    refine z_lneg hx hb (-v) rfl dX0_takeFault_122 ?_
    refine lv_lload hx hb dX0_takeFault_123 (lv_at hl 1 rfl) ?_
    refine z_lmul hx hb ((-v) * (zUp h o 2 i)) rfl dX0_takeFault_125 ?_
    refine lv_lload hx hb dX0_takeFault_126 (lv_at hl 4 rfl) ?_
    refine lv_lload hx hb dX0_takeFault_128 (lv_at hl 1 rfl) ?_
    refine lv_lload hx hb dX0_takeFault_130 (lv_at hl 0 rfl) ?_
    refine z_ladd hx hb ((zUp h o 2 i) + ((zUp h o 0 i) + 3 * f)) rfl dX0_takeFault_132 ?_
    refine z_lmul hx hb (v * ((zUp h o 2 i) + ((zUp h o 0 i) + 3 * f))) rfl dX0_takeFault_133 ?_
    refine lv_lload hx hb dX0_takeFault_134 (lv_at hl 4 rfl) ?_
    refine z_lneg hx hb (-v) rfl dX0_takeFault_136 ?_
    refine lv_lload hx hb dX0_takeFault_137 (lv_at hl 0 rfl) ?_
    refine z_lmul hx hb ((-v) * ((zUp h o 0 i) + 3 * f)) rfl dX0_takeFault_139 ?_
    refine lv_lload hx hb dX0_takeFault_140 (lv_at hl 2 rfl) ?_
    refine lv_lload hx hb dX0_takeFault_142 (lv_at hl 1 rfl) ?_
    refine z_lmul hx hb ((zUp h o 1 i) * (zUp h o 2 i)) rfl dX0_takeFault_144 ?_
    refine lv_lload hx hb dX0_takeFault_145 (lv_at hl 2 rfl) ?_
    refine lv_lload hx hb dX0_takeFault_147 (lv_at hl 0 rfl) ?_
    refine z_lmul hx hb ((zUp h o 1 i) * ((zUp h o 0 i) + 3 * f)) rfl dX0_takeFault_149 ?_
    refine z_ladd hx hb (((zUp h o 1 i) * (zUp h o 2 i)) + ((zUp h o 1 i) * ((zUp h o 0 i) + 3 * f))) rfl dX0_takeFault_150 ?_
    refine lv_lload hx hb dX0_takeFault_151 (lv_at hl 1 rfl) ?_
    refine lv_lload hx hb dX0_takeFault_153 (lv_at hl 0 rfl) ?_
    refine z_lmul hx hb ((zUp h o 2 i) * ((zUp h o 0 i) + 3 * f)) rfl dX0_takeFault_155 ?_
    refine z_ladd hx hb ((((zUp h o 1 i) * (zUp h o 2 i)) + ((zUp h o 1 i) * ((zUp h o 0 i) + 3 * f))) + ((zUp h o 2 i) * ((zUp h o 0 i) + 3 * f))) rfl dX0_takeFault_156 ?_
    refine z_cVv (As := [vL ((-v) * (zUp h o 2 i)), vL (v * ((zUp h o 2 i) + ((zUp h o 0 i) + 3 * f))), vL ((-v) * ((zUp h o 0 i) + 3 * f)), vL ((((zUp h o 1 i) * (zUp h o 2 i)) + ((zUp h o 1 i) * ((zUp h o 0 i) + 3 * f))) + ((zUp h o 2 i) * ((zUp h o 0 i) + 3 * f)))]) (rest := []) ⟨hx, hb, hml, hown, hts⟩ hK hP hD hS hA [0] [1] rfl rfl rfl (c_X0_become l g q q0 q1 q2 q3 ((-v) * (zUp h o 2 i)) (v * ((zUp h o 2 i) + ((zUp h o 0 i) + 3 * f))) ((-v) * ((zUp h o 0 i) + 3 * f)) ((((zUp h o 1 i) * (zUp h o 2 i)) + ((zUp h o 1 i) * ((zUp h o 0 i) + 3 * f))) + ((zUp h o 2 i) * ((zUp h o 0 i) + 3 * f))) ) (cwV 4 hts gX0_takeFault_X0_become rfl rfl rfl (by decide +kernel) ⟨Nat.le_of_ble_eq_true rfl, Nat.le_of_ble_eq_true rfl⟩) 0 0 rfl rfl rfl (fun _ _ _ _ _ _ => trivial) (fun _ _ _ => trivial) rfl hl.1 (Nat.le_of_ble_eq_true rfl) rfl dX0_takeFault_157 ⟨Nat.le_of_ble_eq_true rfl, Nat.le_of_ble_eq_true rfl⟩ (fun u_9 H locs hwu_9 hP hD hS => ?_)
    try dsimp only at hwu_9
    have hP : zP g [(netW g n_ x v b_ h o l_), [flw q ((-v) * (zUp h o 2 i)) (v * ((zUp h o 2 i) + ((zUp h o 0 i) + 3 * f))) ((-v) * ((zUp h o 0 i) + 3 * f)) ((((zUp h o 1 i) * (zUp h o 2 i)) + ((zUp h o 1 i) * ((zUp h o 0 i) + 3 * f))) + ((zUp h o 2 i) * ((zUp h o 0 i) + 3 * f)))]] H := hP
    have hD : zD A [(netW g n_ x v b_ h o l_), [flw q ((-v) * (zUp h o 2 i)) (v * ((zUp h o 2 i) + ((zUp h o 0 i) + 3 * f))) ((-v) * ((zUp h o 0 i) + 3 * f)) ((((zUp h o 1 i) * (zUp h o 2 i)) + ((zUp h o 1 i) * ((zUp h o 0 i) + 3 * f))) + ((zUp h o 2 i) * ((zUp h o 0 i) + 3 * f)))]] := hD
    have hP : zP g [[flw q ((-v) * (zUp h o 2 i)) (v * ((zUp h o 2 i) + ((zUp h o 0 i) + 3 * f))) ((-v) * ((zUp h o 0 i) + 3 * f)) ((((zUp h o 1 i) * (zUp h o 2 i)) + ((zUp h o 1 i) * ((zUp h o 0 i) + 3 * f))) + ((zUp h o 2 i) * ((zUp h o 0 i) + 3 * f)))], (netW g n_ x v b_ h o l_)] H := zP_sub hP [1, 0] rfl
    have hD : zD A [[flw q ((-v) * (zUp h o 2 i)) (v * ((zUp h o 2 i) + ((zUp h o 0 i) + 3 * f))) ((-v) * ((zUp h o 0 i) + 3 * f)) ((((zUp h o 1 i) * (zUp h o 2 i)) + ((zUp h o 1 i) * ((zUp h o 0 i) + 3 * f))) + ((zUp h o 2 i) * ((zUp h o 0 i) + 3 * f)))], (netW g n_ x v b_ h o l_)] := zD_sub hD [1, 0] rfl rfl
    refine lv_goto (tgt := 177) hx hb dX0_takeFault_160 (by decide) ?_
    have hP : zP g [[flw q (fP0 2 v (zUp h o 0 i) (zUp h o 1 i) (zUp h o 2 i) f) (fP1 2 v (zUp h o 0 i) (zUp h o 1 i) (zUp h o 2 i) f) (fP2 2 v (zUp h o 0 i) (zUp h o 1 i) (zUp h o 2 i) f) (fBl 2 (zUp h o 0 i) (zUp h o 1 i) (zUp h o 2 i) f)], (netW g n_ x v b_ h o l_)] H := hP
    have hD : zD A [[flw q (fP0 2 v (zUp h o 0 i) (zUp h o 1 i) (zUp h o 2 i) f) (fP1 2 v (zUp h o 0 i) (zUp h o 1 i) (zUp h o 2 i) f) (fP2 2 v (zUp h o 0 i) (zUp h o 1 i) (zUp h o 2 i) f) (fBl 2 (zUp h o 0 i) (zUp h o 1 i) (zUp h o 2 i) f)], (netW g n_ x v b_ h o l_)] := hD
    have hB := (flt_bd (s := 2) (v := v) (f := f) ⟨hn1, hn2⟩ hz0 hz1 hz2 hf).2.2.2
    refine lv_aload_n hx hb dX0_takeFault_177 rfl (lv_at hl 5 rfl) ?_
    refine z_get hx hb hts hin0_ hown hK hP 0 rfl rfl 3 (by decide) (hts _ (List.mem_of_getElem? (i := 2) rfl)) rfl dX0_takeFault_178 ?_
    refine z_lconst hx hb 0 dX0_takeFault_181 rfl ?_
    refine z_lcmp_le (tgt := 190) hx hb (by omega) (by decide) dX0_takeFault_182 dX0_takeFault_183 (by decide) (fun c10 => ?_) (fun c10 => ?_)
    · refine z_iconst hx hb dX0_takeFault_190 rfl ?_
      exact z_reti () [0, 1] hx hb hr (nar_z (by first | decide | omega)) hlocks hK hP hD hS (by first | rw [if_pos (by omega)] | rw [if_neg (by omega)]) trivial rfl rfl (rfl) (Nat.le_of_ble_eq_true rfl) (Nat.le_of_ble_eq_true rfl) dX0_takeFault_191
    · refine z_iconst hx hb dX0_takeFault_186 rfl ?_
      refine lv_goto (tgt := 191) hx hb dX0_takeFault_187 (by decide) ?_
      exact z_reti () [0, 1] hx hb hr (nar_z (by first | decide | omega)) hlocks hK hP hD hS (by first | rw [if_pos (by omega)] | rw [if_neg (by omega)]) trivial rfl rfl (rfl) (Nat.le_of_ble_eq_true rfl) (Nat.le_of_ble_eq_true rfl) dX0_takeFault_191
  · refine z_swOut hx hb 163 (by omega) dX0_takeFault_35 hc_4 (by decide) ?_
    obtain rfl : s_ = 3 := by omega
    refine lv_aload_n hx hb dX0_takeFault_163 rfl (lv_at hl 4 rfl) ?_
    refine z_lconst hx hb 0 dX0_takeFault_164 rfl ?_
    refine lv_lload hx hb dX0_takeFault_165 (lv_at hl 3 rfl) ?_
    refine z_lconst hx hb 0 dX0_takeFault_167 rfl ?_
    refine lv_lload hx hb dX0_takeFault_168 (lv_at hl 1 rfl) ?_
    refine lv_iload hx hb dX0_takeFault_170 (lv_at hl 8 rfl) ?_
    refine z_i2l hx hb (by omega) dX0_takeFault_172 ?_
    refine z_ladd hx hb ((zUp h o 1 i) + f) rfl dX0_takeFault_173 ?_
    refine z_cVv (As := [vL 0, vL v, vL 0, vL ((zUp h o 1 i) + f)]) (rest := []) ⟨hx, hb, hml, hown, hts⟩ hK hP hD hS hA [0] [1] rfl rfl rfl (c_X0_become l g q q0 q1 q2 q3 0 v 0 ((zUp h o 1 i) + f) ) (cwV 4 hts gX0_takeFault_X0_become rfl rfl rfl (by decide +kernel) ⟨Nat.le_of_ble_eq_true rfl, Nat.le_of_ble_eq_true rfl⟩) 0 0 rfl rfl rfl (fun _ _ _ _ _ _ => trivial) (fun _ _ _ => trivial) rfl hl.1 (Nat.le_of_ble_eq_true rfl) rfl dX0_takeFault_174 ⟨Nat.le_of_ble_eq_true rfl, Nat.le_of_ble_eq_true rfl⟩ (fun u_11 H locs hwu_11 hP hD hS => ?_)
    try dsimp only at hwu_11
    have hP : zP g [(netW g n_ x v b_ h o l_), [flw q 0 v 0 ((zUp h o 1 i) + f)]] H := hP
    have hD : zD A [(netW g n_ x v b_ h o l_), [flw q 0 v 0 ((zUp h o 1 i) + f)]] := hD
    have hP : zP g [[flw q 0 v 0 ((zUp h o 1 i) + f)], (netW g n_ x v b_ h o l_)] H := zP_sub hP [1, 0] rfl
    have hD : zD A [[flw q 0 v 0 ((zUp h o 1 i) + f)], (netW g n_ x v b_ h o l_)] := zD_sub hD [1, 0] rfl rfl
    have hP : zP g [[flw q (fP0 3 v (zUp h o 0 i) (zUp h o 1 i) (zUp h o 2 i) f) (fP1 3 v (zUp h o 0 i) (zUp h o 1 i) (zUp h o 2 i) f) (fP2 3 v (zUp h o 0 i) (zUp h o 1 i) (zUp h o 2 i) f) (fBl 3 (zUp h o 0 i) (zUp h o 1 i) (zUp h o 2 i) f)], (netW g n_ x v b_ h o l_)] H := hP
    have hD : zD A [[flw q (fP0 3 v (zUp h o 0 i) (zUp h o 1 i) (zUp h o 2 i) f) (fP1 3 v (zUp h o 0 i) (zUp h o 1 i) (zUp h o 2 i) f) (fP2 3 v (zUp h o 0 i) (zUp h o 1 i) (zUp h o 2 i) f) (fBl 3 (zUp h o 0 i) (zUp h o 1 i) (zUp h o 2 i) f)], (netW g n_ x v b_ h o l_)] := hD
    have hB := (flt_bd (s := 3) (v := v) (f := f) ⟨hn1, hn2⟩ hz0 hz1 hz2 hf).2.2.2
    refine lv_aload_n hx hb dX0_takeFault_177 rfl (lv_at hl 4 rfl) ?_
    refine z_get hx hb hts hin0_ hown hK hP 0 rfl rfl 3 (by decide) (hts _ (List.mem_of_getElem? (i := 2) rfl)) rfl dX0_takeFault_178 ?_
    refine z_lconst hx hb 0 dX0_takeFault_181 rfl ?_
    refine z_lcmp_le (tgt := 190) hx hb (by omega) (by decide) dX0_takeFault_182 dX0_takeFault_183 (by decide) (fun c12 => ?_) (fun c12 => ?_)
    · refine z_iconst hx hb dX0_takeFault_190 rfl ?_
      exact z_reti () [0, 1] hx hb hr (nar_z (by first | decide | omega)) hlocks hK hP hD hS (by first | rw [if_pos (by omega)] | rw [if_neg (by omega)]) trivial rfl rfl (rfl) (Nat.le_of_ble_eq_true rfl) (Nat.le_of_ble_eq_true rfl) dX0_takeFault_191
    · refine z_iconst hx hb dX0_takeFault_186 rfl ?_
      refine lv_goto (tgt := 191) hx hb dX0_takeFault_187 (by decide) ?_
      exact z_reti () [0, 1] hx hb hr (nar_z (by first | decide | omega)) hlocks hK hP hD hS (by first | rw [if_pos (by omega)] | rw [if_neg (by omega)]) trivial rfl rfl (rfl) (Nat.le_of_ble_eq_true rfl) (Nat.le_of_ble_eq_true rfl) dX0_takeFault_191

set_option maxHeartbeats 4000000 in
set_option maxRecDepth 100000 in
theorem c_X0_becomeVoltage (l : Launch) (g : zG) (q : Nat) (q0 : Int) (q1 : Int) (q2 : Int) (q3 : Int) (n_ : Nat) (x : Nat → Nat) (v : Int) (b_ : Nat) (h : Nat → Int) (o : Nat → Int) (l_ : Nat → Int) (r : Nat) (r0 : Int) (r1 : Int) (r2 : Int) (r3 : Int) (i : Nat) (hn : nok v b_ h o l_) (hi : i < 6) : zMet l g yX0_becomeVoltage wsX0_becomeVoltage 1 0 0 [.ref q, .ref n_, .ref r, vI ((i : Nat) : Int)] zX0 [[flw q q0 q1 q2 q3], (netW g n_ x v b_ h o l_), [flw r r0 r1 r2 r3]] (qv g (fun (_ : Unit) => True) (fun (_ : Unit) => [[flw q ((-(zUp h o 0 i)) * r0) (v * r3 - (zUp h o 1 i) * r1) ((-(zUp h o 2 i)) * r2) r3], (netW g n_ x v b_ h o l_), [flw r r0 r1 r2 r3]])) := by
  obtain ⟨hn1, hn2, hn3, hn4, hn5, hn6, hn7⟩ := id hn
  have hz0 := zUp_54 hn 0 hi
  have hz1 := zUp_54 hn 1 hi
  have hz2 := zUp_54 hn 2 hi
  refine z_ent (cc := cX0_becomeVoltage) (maxL := 10) (ret := none) (by decide) rfl (Nat.le_of_ble_eq_true rfl) ?_
  intro p e s m below meth c A ls hx hb hr hml hown hts hlocks hin0 hA hK hP hD hS hXX hl
  have hown : s.vm.findClass RX0 = some m.cls := hown
  have hin0_ : ∀ w ∈ wsX00, w ∈ wsX0_becomeVoltage := zw_in [18, 19, 20, 21] rfl
  have hin2_ : ∀ w ∈ wsX20, w ∈ wsX0_becomeVoltage := zw_in [22, 23, 24, 25, 26] rfl
  have hl : lv_has ls 10 [(0, .ref q), (1, .ref n_), (2, .ref r), (3, vI ((i : Nat) : Int))] := hl
  refine lv_aload_n hx hb dX0_becomeVoltage_0 rfl (lv_at hl 1 rfl) ?_
  refine lv_iload_n hx hb dX0_becomeVoltage_1 rfl (lv_at hl 3 rfl) ?_
  refine z_iconst hx hb dX0_becomeVoltage_2 rfl ?_
  refine z_cVi (As := [vI ((i : Nat) : Int), vI 0]) (rest := []) ⟨hx, hb, hml, hown, hts⟩ hK hP hD hS hA [1] [0, 2] rfl rfl rfl (c_X2_ohmsUpTo l g n_ x v b_ h o l_ i 0 (by first | assumption | omega | decide) (by first | assumption | omega | decide) (by first | assumption | omega | decide)) (cwV 2 hts gX0_becomeVoltage_X2_ohmsUpTo rfl rfl rfl (by decide +kernel) ⟨Nat.le_of_ble_eq_true rfl, Nat.le_of_ble_eq_true rfl⟩) 2 0 rfl rfl rfl (fun _ _ _ _ _ _ => trivial) (fun _ _ _ => trivial) rfl hl.1 (Nat.le_of_ble_eq_true rfl) rfl dX0_becomeVoltage_3 ⟨Nat.le_of_ble_eq_true rfl, Nat.le_of_ble_eq_true rfl⟩ (fun u_1 H locs hwu_1 hP hD hS => ?_)
  try dsimp only at hwu_1
  have hP : zP g [[flw q q0 q1 q2 q3], [flw r r0 r1 r2 r3], (netW g n_ x v b_ h o l_)] H := hP
  have hD : zD A [[flw q q0 q1 q2 q3], [flw r r0 r1 r2 r3], (netW g n_ x v b_ h o l_)] := hD
  refine z_toI (zUp h o 0 i) rfl ?_
  refine z_i2l hx hb (by omega) dX0_becomeVoltage_6 ?_
  refine lv_lstore (lv' := [(4, vL (zUp h o 0 i)), (0, .ref q), (1, .ref n_), (2, .ref r), (3, vI ((i : Nat) : Int))]) hx hb dX0_becomeVoltage_7 hl (by decide) rfl (fun ls hl => ?_)
  refine lv_aload_n hx hb dX0_becomeVoltage_9 rfl (lv_at hl 2 rfl) ?_
  refine lv_iload_n hx hb dX0_becomeVoltage_10 rfl (lv_at hl 4 rfl) ?_
  refine z_iconst hx hb dX0_becomeVoltage_11 rfl ?_
  refine z_cVi (As := [vI ((i : Nat) : Int), vI 1]) (rest := []) ⟨hx, hb, hml, hown, hts⟩ hK hP hD hS hA [2] [0, 1] rfl rfl rfl (c_X2_ohmsUpTo l g n_ x v b_ h o l_ i 1 (by first | assumption | omega | decide) (by first | assumption | omega | decide) (by first | assumption | omega | decide)) (cwV 2 hts gX0_becomeVoltage_X2_ohmsUpTo rfl rfl rfl (by decide +kernel) ⟨Nat.le_of_ble_eq_true rfl, Nat.le_of_ble_eq_true rfl⟩) 2 0 rfl rfl rfl (fun _ _ _ _ _ _ => trivial) (fun _ _ _ => trivial) rfl hl.1 (Nat.le_of_ble_eq_true rfl) rfl dX0_becomeVoltage_12 ⟨Nat.le_of_ble_eq_true rfl, Nat.le_of_ble_eq_true rfl⟩ (fun u_2 H locs hwu_2 hP hD hS => ?_)
  try dsimp only at hwu_2
  have hP : zP g [[flw q q0 q1 q2 q3], [flw r r0 r1 r2 r3], (netW g n_ x v b_ h o l_)] H := hP
  have hD : zD A [[flw q q0 q1 q2 q3], [flw r r0 r1 r2 r3], (netW g n_ x v b_ h o l_)] := hD
  refine z_toI (zUp h o 1 i) rfl ?_
  refine z_i2l hx hb (by omega) dX0_becomeVoltage_15 ?_
  refine lv_lstore (lv' := [(6, vL (zUp h o 1 i)), (4, vL (zUp h o 0 i)), (0, .ref q), (1, .ref n_), (2, .ref r), (3, vI ((i : Nat) : Int))]) hx hb dX0_becomeVoltage_16 hl (by decide) rfl (fun ls hl => ?_)
  refine lv_aload_n hx hb dX0_becomeVoltage_18 rfl (lv_at hl 3 rfl) ?_
  refine lv_iload_n hx hb dX0_becomeVoltage_19 rfl (lv_at hl 5 rfl) ?_
  refine z_iconst hx hb dX0_becomeVoltage_20 rfl ?_
  refine z_cVi (As := [vI ((i : Nat) : Int), vI 2]) (rest := []) ⟨hx, hb, hml, hown, hts⟩ hK hP hD hS hA [2] [0, 1] rfl rfl rfl (c_X2_ohmsUpTo l g n_ x v b_ h o l_ i 2 (by first | assumption | omega | decide) (by first | assumption | omega | decide) (by first | assumption | omega | decide)) (cwV 2 hts gX0_becomeVoltage_X2_ohmsUpTo rfl rfl rfl (by decide +kernel) ⟨Nat.le_of_ble_eq_true rfl, Nat.le_of_ble_eq_true rfl⟩) 2 0 rfl rfl rfl (fun _ _ _ _ _ _ => trivial) (fun _ _ _ => trivial) rfl hl.1 (Nat.le_of_ble_eq_true rfl) rfl dX0_becomeVoltage_21 ⟨Nat.le_of_ble_eq_true rfl, Nat.le_of_ble_eq_true rfl⟩ (fun u_3 H locs hwu_3 hP hD hS => ?_)
  try dsimp only at hwu_3
  have hP : zP g [[flw q q0 q1 q2 q3], [flw r r0 r1 r2 r3], (netW g n_ x v b_ h o l_)] H := hP
  have hD : zD A [[flw q q0 q1 q2 q3], [flw r r0 r1 r2 r3], (netW g n_ x v b_ h o l_)] := hD
  refine z_toI (zUp h o 2 i) rfl ?_
  refine z_i2l hx hb (by omega) dX0_becomeVoltage_24 ?_
  refine lv_lstore (lv' := [(8, vL (zUp h o 2 i)), (6, vL (zUp h o 1 i)), (4, vL (zUp h o 0 i)), (0, .ref q), (1, .ref n_), (2, .ref r), (3, vI ((i : Nat) : Int))]) hx hb dX0_becomeVoltage_25 hl (by decide) rfl (fun ls hl => ?_)
  refine lv_aload_n hx hb dX0_becomeVoltage_27 rfl (lv_at hl 3 rfl) ?_
  refine lv_lload hx hb dX0_becomeVoltage_28 (lv_at hl 2 rfl) ?_
  refine z_lneg hx hb (-(zUp h o 0 i)) rfl dX0_becomeVoltage_30 ?_
  refine lv_aload_n hx hb dX0_becomeVoltage_31 rfl (lv_at hl 5 rfl) ?_
  refine z_get hx hb hts hin0_ hown hK hP 1 rfl rfl 0 (by decide) (hts _ (List.mem_of_getElem? (i := 1) rfl)) rfl dX0_becomeVoltage_32 ?_
  refine z_lmul hx hb ((-(zUp h o 0 i)) * r0) rfl dX0_becomeVoltage_35 ?_
  have hP : zP g [[flw q q0 q1 q2 q3], [flw r r0 r1 r2 r3], [(n_, .inr (2, [vI v, vI ((b_ : Nat) : Int), .ref (x 0), .ref (x 1), .ref (x 2)]))], [((x 0), .inl (g.2 0, 6, .inl (aI h)))], [((x 1), .inl (g.2 0, 18, .inl (aI o)))], [((x 2), .inl (g.2 0, 6, .inl (aI l_)))]] H := hP
  have hD : zD A [[flw q q0 q1 q2 q3], [flw r r0 r1 r2 r3], [(n_, .inr (2, [vI v, vI ((b_ : Nat) : Int), .ref (x 0), .ref (x 1), .ref (x 2)]))], [((x 0), .inl (g.2 0, 6, .inl (aI h)))], [((x 1), .inl (g.2 0, 18, .inl (aI o)))], [((x 2), .inl (g.2 0, 6, .inl (aI l_)))]] := hD
  refine lv_aload_n hx hb dX0_becomeVoltage_36 rfl (lv_at hl 4 rfl) ?_
  refine z_get hx hb hts hin2_ hown hK hP 2 rfl rfl 0 (by decide) (hts _ (List.mem_of_getElem? (i := 2) rfl)) rfl dX0_becomeVoltage_37 ?_
  refine z_i2l hx hb (by omega) dX0_becomeVoltage_40 ?_
  have hP : zP g [[flw q q0 q1 q2 q3], [flw r r0 r1 r2 r3], (netW g n_ x v b_ h o l_)] H := hP
  have hD : zD A [[flw q q0 q1 q2 q3], [flw r r0 r1 r2 r3], (netW g n_ x v b_ h o l_)] := hD
  refine lv_aload_n hx hb dX0_becomeVoltage_41 rfl (lv_at hl 5 rfl) ?_
  refine z_get hx hb hts hin0_ hown hK hP 1 rfl rfl 3 (by decide) (hts _ (List.mem_of_getElem? (i := 3) rfl)) rfl dX0_becomeVoltage_42 ?_
  refine z_lmul hx hb (v * r3) rfl dX0_becomeVoltage_45 ?_
  refine lv_lload hx hb dX0_becomeVoltage_46 (lv_at hl 1 rfl) ?_
  refine lv_aload_n hx hb dX0_becomeVoltage_48 rfl (lv_at hl 5 rfl) ?_
  refine z_get hx hb hts hin0_ hown hK hP 1 rfl rfl 1 (by decide) (hts _ (List.mem_of_getElem? (i := 4) rfl)) rfl dX0_becomeVoltage_49 ?_
  refine z_lmul hx hb ((zUp h o 1 i) * r1) rfl dX0_becomeVoltage_52 ?_
  refine z_lsub hx hb ((v * r3) - ((zUp h o 1 i) * r1)) rfl dX0_becomeVoltage_53 ?_
  refine lv_lload hx hb dX0_becomeVoltage_54 (lv_at hl 0 rfl) ?_
  refine z_lneg hx hb (-(zUp h o 2 i)) rfl dX0_becomeVoltage_56 ?_
  refine lv_aload_n hx hb dX0_becomeVoltage_57 rfl (lv_at hl 5 rfl) ?_
  refine z_get hx hb hts hin0_ hown hK hP 1 rfl rfl 2 (by decide) (hts _ (List.mem_of_getElem? (i := 5) rfl)) rfl dX0_becomeVoltage_58 ?_
  refine z_lmul hx hb ((-(zUp h o 2 i)) * r2) rfl dX0_becomeVoltage_61 ?_
  refine lv_aload_n hx hb dX0_becomeVoltage_62 rfl (lv_at hl 5 rfl) ?_
  refine z_get hx hb hts hin0_ hown hK hP 1 rfl rfl 3 (by decide) (hts _ (List.mem_of_getElem? (i := 3) rfl)) rfl dX0_becomeVoltage_63 ?_
  refine z_cVv (As := [vL ((-(zUp h o 0 i)) * r0), vL ((v * r3) - ((zUp h o 1 i) * r1)), vL ((-(zUp h o 2 i)) * r2), vL r3]) (rest := []) ⟨hx, hb, hml, hown, hts⟩ hK hP hD hS hA [0] [1, 2] rfl rfl rfl (c_X0_become l g q q0 q1 q2 q3 ((-(zUp h o 0 i)) * r0) ((v * r3) - ((zUp h o 1 i) * r1)) ((-(zUp h o 2 i)) * r2) r3 ) (cwV 4 hts gX0_becomeVoltage_X0_become rfl rfl rfl (by decide +kernel) ⟨Nat.le_of_ble_eq_true rfl, Nat.le_of_ble_eq_true rfl⟩) 0 0 rfl rfl rfl (fun _ _ _ _ _ _ => trivial) (fun _ _ _ => trivial) rfl hl.1 (Nat.le_of_ble_eq_true rfl) rfl dX0_becomeVoltage_66 ⟨Nat.le_of_ble_eq_true rfl, Nat.le_of_ble_eq_true rfl⟩ (fun u_4 H locs hwu_4 hP hD hS => ?_)
  try dsimp only at hwu_4
  have hP : zP g [[flw r r0 r1 r2 r3], (netW g n_ x v b_ h o l_), [flw q ((-(zUp h o 0 i)) * r0) ((v * r3) - ((zUp h o 1 i) * r1)) ((-(zUp h o 2 i)) * r2) r3]] H := hP
  have hD : zD A [[flw r r0 r1 r2 r3], (netW g n_ x v b_ h o l_), [flw q ((-(zUp h o 0 i)) * r0) ((v * r3) - ((zUp h o 1 i) * r1)) ((-(zUp h o 2 i)) * r2) r3]] := hD
  have hP : zP g [[flw r r0 r1 r2 r3], [flw q ((-(zUp h o 0 i)) * r0) ((v * r3) - ((zUp h o 1 i) * r1)) ((-(zUp h o 2 i)) * r2) r3], (netW g n_ x v b_ h o l_)] H := zP_sub hP [0, 2, 1] rfl
  have hD : zD A [[flw r r0 r1 r2 r3], [flw q ((-(zUp h o 0 i)) * r0) ((v * r3) - ((zUp h o 1 i) * r1)) ((-(zUp h o 2 i)) * r2) r3], (netW g n_ x v b_ h o l_)] := zD_sub hD [0, 2, 1] rfl rfl
  exact z_retv () [1, 2, 0] hx hb hr hlocks hK hP hD hS trivial rfl rfl (rfl) (Nat.le_of_ble_eq_true rfl) (Nat.le_of_ble_eq_true rfl) dX0_becomeVoltage_69

set_option maxHeartbeats 4000000 in
set_option maxRecDepth 100000 in
theorem c_X0_a (l : Launch) (g : zG) (q : Nat) (q0 : Int) (q1 : Int) (q2 : Int) (q3 : Int) (i : Int) (hi : -2147483648 ≤ i ∧ i < 2147483648) : zMet l g yX0_a wsX0_a 0 0 0 [.ref q, vI i] zX0 [[flw q q0 q1 q2 q3]] (ql g (fun (_ : Unit) => (flA q0 q1 q2 i)) (fun (_ : Unit) => True) (fun (_ : Unit) => [[flw q q0 q1 q2 q3]])) := by
  refine z_ent (cc := cX0_a) (maxL := 2) (ret := (some .long)) (by decide) rfl (Nat.le_of_ble_eq_true rfl) ?_
  intro p e s m below meth c A ls hx hb hr hml hown hts hlocks hin0 hA hK hP hD hS hXX hl
  have hown : s.vm.findClass RX0 = some m.cls := hown
  have hin0_ : ∀ w ∈ wsX00, w ∈ wsX0_a := zw_in [4, 5, 6, 7] rfl
  have hl : lv_has ls 2 [(0, .ref q), (1, vI i)] := hl
  refine lv_iload_n hx hb dX0_a_0 rfl (lv_at hl 1 rfl) ?_
  refine z_if_ne (tgt := 19) hx hb (by omega) dX0_a_1 (by decide) (fun c1 => ?_) (fun c1 => ?_)
  · refine lv_iload_n hx hb dX0_a_19 rfl (lv_at hl 1 rfl) ?_
    refine z_iconst hx hb dX0_a_20 rfl ?_
    refine z_icmp_ne (tgt := 36) hx hb (by omega) (by decide) dX0_a_21 (by decide) (fun c2 => ?_) (fun c2 => ?_)
    · refine lv_aload_n hx hb dX0_a_36 rfl (lv_at hl 0 rfl) ?_
      refine z_get hx hb hts hin0_ hown hK hP 0 rfl rfl 0 (by decide) (hts _ (List.mem_of_getElem? (i := 1) rfl)) rfl dX0_a_37 ?_
      refine lv_aload_n hx hb dX0_a_40 rfl (lv_at hl 0 rfl) ?_
      refine z_get hx hb hts hin0_ hown hK hP 0 rfl rfl 2 (by decide) (hts _ (List.mem_of_getElem? (i := 3) rfl)) rfl dX0_a_41 ?_
      refine z_lsub hx hb (q0 - q2) rfl dX0_a_44 ?_
      exact z_retl () [0] hx hb hr hlocks hK hP hD hS (by unfold flA; first | rw [if_pos (by omega)] | rw [if_neg (by omega), if_pos (by omega)] | rw [if_neg (by omega), if_neg (by omega)]) trivial rfl rfl (rfl) (Nat.le_of_ble_eq_true rfl) (Nat.le_of_ble_eq_true rfl) dX0_a_45
    · refine lv_aload_n hx hb dX0_a_24 rfl (lv_at hl 0 rfl) ?_
      refine z_get hx hb hts hin0_ hown hK hP 0 rfl rfl 0 (by decide) (hts _ (List.mem_of_getElem? (i := 1) rfl)) rfl dX0_a_25 ?_
      refine lv_aload_n hx hb dX0_a_28 rfl (lv_at hl 0 rfl) ?_
      refine z_get hx hb hts hin0_ hown hK hP 0 rfl rfl 1 (by decide) (hts _ (List.mem_of_getElem? (i := 2) rfl)) rfl dX0_a_29 ?_
      refine z_lsub hx hb (q0 - q1) rfl dX0_a_32 ?_
      refine lv_goto (tgt := 45) hx hb dX0_a_33 (by decide) ?_
      exact z_retl () [0] hx hb hr hlocks hK hP hD hS (by unfold flA; first | rw [if_pos (by omega)] | rw [if_neg (by omega), if_pos (by omega)] | rw [if_neg (by omega), if_neg (by omega)]) trivial rfl rfl (rfl) (Nat.le_of_ble_eq_true rfl) (Nat.le_of_ble_eq_true rfl) dX0_a_45
  · refine lv_aload_n hx hb dX0_a_4 rfl (lv_at hl 0 rfl) ?_
    refine z_get hx hb hts hin0_ hown hK hP 0 rfl rfl 0 (by decide) (hts _ (List.mem_of_getElem? (i := 1) rfl)) rfl dX0_a_5 ?_
    refine lv_aload_n hx hb dX0_a_8 rfl (lv_at hl 0 rfl) ?_
    refine z_get hx hb hts hin0_ hown hK hP 0 rfl rfl 1 (by decide) (hts _ (List.mem_of_getElem? (i := 2) rfl)) rfl dX0_a_9 ?_
    refine z_ladd hx hb (q0 + q1) rfl dX0_a_12 ?_
    refine lv_aload_n hx hb dX0_a_13 rfl (lv_at hl 0 rfl) ?_
    refine z_get hx hb hts hin0_ hown hK hP 0 rfl rfl 2 (by decide) (hts _ (List.mem_of_getElem? (i := 3) rfl)) rfl dX0_a_14 ?_
    refine z_ladd hx hb ((q0 + q1) + q2) rfl dX0_a_17 ?_
    exact z_retl () [0] hx hb hr hlocks hK hP hD hS (by unfold flA; first | rw [if_pos (by omega)] | rw [if_neg (by omega), if_pos (by omega)] | rw [if_neg (by omega), if_neg (by omega)]) trivial rfl rfl (rfl) (Nat.le_of_ble_eq_true rfl) (Nat.le_of_ble_eq_true rfl) dX0_a_18

set_option maxHeartbeats 4000000 in
set_option maxRecDepth 100000 in
theorem c_X0_b (l : Launch) (g : zG) (q : Nat) (q0 : Int) (q1 : Int) (q2 : Int) (q3 : Int) (i : Int) (hi : -2147483648 ≤ i ∧ i < 2147483648) : zMet l g yX0_b wsX0_b 0 0 0 [.ref q, vI i] zX0 [[flw q q0 q1 q2 q3]] (ql g (fun (_ : Unit) => (flB q0 q1 q2 i)) (fun (_ : Unit) => True) (fun (_ : Unit) => [[flw q q0 q1 q2 q3]])) := by
  refine z_ent (cc := cX0_b) (maxL := 2) (ret := (some .long)) (by decide) rfl (Nat.le_of_ble_eq_true rfl) ?_
  intro p e s m below meth c A ls hx hb hr hml hown hts hlocks hin0 hA hK hP hD hS hXX hl
  have hown : s.vm.findClass RX0 = some m.cls := hown
  have hin0_ : ∀ w ∈ wsX00, w ∈ wsX0_b := zw_in [3, 4, 5, 6] rfl
  have hl : lv_has ls 2 [(0, .ref q), (1, vI i)] := hl
  refine lv_iload_n hx hb dX0_b_0 rfl (lv_at hl 1 rfl) ?_
  refine z_if_ne (tgt := 6) hx hb (by omega) dX0_b_1 (by decide) (fun c1 => ?_) (fun c1 => ?_)
  · refine lv_iload_n hx hb dX0_b_6 rfl (lv_at hl 1 rfl) ?_
    refine z_iconst hx hb dX0_b_7 rfl ?_
    refine z_icmp_ne (tgt := 23) hx hb (by omega) (by decide) dX0_b_8 (by decide) (fun c2 => ?_) (fun c2 => ?_)
    · refine lv_aload_n hx hb dX0_b_23 rfl (lv_at hl 0 rfl) ?_
      refine z_get hx hb hts hin0_ hown hK hP 0 rfl rfl 1 (by decide) (hts _ (List.mem_of_getElem? (i := 2) rfl)) rfl dX0_b_24 ?_
      refine lv_aload_n hx hb dX0_b_27 rfl (lv_at hl 0 rfl) ?_
      refine z_get hx hb hts hin0_ hown hK hP 0 rfl rfl 2 (by decide) (hts _ (List.mem_of_getElem? (i := 1) rfl)) rfl dX0_b_28 ?_
      refine z_lsub hx hb (q1 - q2) rfl dX0_b_31 ?_
      exact z_retl () [0] hx hb hr hlocks hK hP hD hS (by unfold flB; first | rw [if_pos (by omega)] | rw [if_neg (by omega), if_pos (by omega)] | rw [if_neg (by omega), if_neg (by omega)]) trivial rfl rfl (rfl) (Nat.le_of_ble_eq_true rfl) (Nat.le_of_ble_eq_true rfl) dX0_b_32
    · refine lv_aload_n hx hb dX0_b_11 rfl (lv_at hl 0 rfl) ?_
      refine z_get hx hb hts hin0_ hown hK hP 0 rfl rfl 2 (by decide) (hts _ (List.mem_of_getElem? (i := 1) rfl)) rfl dX0_b_12 ?_
      refine lv_aload_n hx hb dX0_b_15 rfl (lv_at hl 0 rfl) ?_
      refine z_get hx hb hts hin0_ hown hK hP 0 rfl rfl 1 (by decide) (hts _ (List.mem_of_getElem? (i := 2) rfl)) rfl dX0_b_16 ?_
      refine z_lsub hx hb (q2 - q1) rfl dX0_b_19 ?_
      refine lv_goto (tgt := 32) hx hb dX0_b_20 (by decide) ?_
      exact z_retl () [0] hx hb hr hlocks hK hP hD hS (by unfold flB; first | rw [if_pos (by omega)] | rw [if_neg (by omega), if_pos (by omega)] | rw [if_neg (by omega), if_neg (by omega)]) trivial rfl rfl (rfl) (Nat.le_of_ble_eq_true rfl) (Nat.le_of_ble_eq_true rfl) dX0_b_32
  · refine z_lconst hx hb 0 dX0_b_4 rfl ?_
    exact z_retl () [0] hx hb hr hlocks hK hP hD hS (by unfold flB; first | rw [if_pos (by omega)] | rw [if_neg (by omega), if_pos (by omega)] | rw [if_neg (by omega), if_neg (by omega)]) trivial rfl rfl (rfl) (Nat.le_of_ble_eq_true rfl) (Nat.le_of_ble_eq_true rfl) dX0_b_5

set_option maxHeartbeats 4000000 in
set_option maxRecDepth 100000 in
theorem c_X0_norm (l : Launch) (g : zG) (q : Nat) (q0 : Int) (q1 : Int) (q2 : Int) (q3 : Int) (i : Int) (hi : -2147483648 ≤ i ∧ i < 2147483648) : zMet l g yX0_norm wsX0_norm 1 0 0 [.ref q, vI i] zX0 [[flw q q0 q1 q2 q3]] (ql g (fun (_ : Unit) => (flN q0 q1 q2 i)) (fun (_ : Unit) => True) (fun (_ : Unit) => [[flw q q0 q1 q2 q3]])) := by
  refine z_ent (cc := cX0_norm) (maxL := 6) (ret := (some .long)) (by decide) rfl (Nat.le_of_ble_eq_true rfl) ?_
  intro p e s m below meth c A ls hx hb hr hml hown hts hlocks hin0 hA hK hP hD hS hXX hl
  have hown : s.vm.findClass RX0 = some m.cls := hown
  have hl : lv_has ls 6 [(0, .ref q), (1, vI i)] := hl
  refine lv_aload_n hx hb dX0_norm_0 rfl (lv_at hl 0 rfl) ?_
  refine lv_iload_n hx hb dX0_norm_1 rfl (lv_at hl 1 rfl) ?_
  refine z_cVl (As := [vI i]) (rest := []) ⟨hx, hb, hml, hown, hts⟩ hK hP hD hS hA [0] [] rfl rfl rfl (c_X0_a l g q q0 q1 q2 q3 i (by first | assumption | omega | decide)) (cwV 1 hts gX0_norm_X0_a rfl rfl rfl (by decide +kernel) ⟨Nat.le_of_ble_eq_true rfl, Nat.le_of_ble_eq_true rfl⟩) 0 0 rfl rfl rfl (fun _ _ _ _ _ _ => trivial) (fun _ _ _ => trivial) rfl hl.1 (Nat.le_of_ble_eq_true rfl) rfl dX0_norm_2 ⟨Nat.le_of_ble_eq_true rfl, Nat.le_of_ble_eq_true rfl⟩ (fun u_1 H locs hwu_1 hP hD hS => ?_)
  try dsimp only at hwu_1
  have hP : zP g [[flw q q0 q1 q2 q3]] H := hP
  have hD : zD A [[flw q q0 q1 q2 q3]] := hD
  refine z_toL (flA q0 q1 q2 i) rfl ?_
  refine lv_lstore_n (lv' := [(2, vL (flA q0 q1 q2 i)), (0, .ref q), (1, vI i)]) hx hb dX0_norm_5 rfl hl (by decide) rfl (fun ls hl => ?_)
  refine lv_aload_n hx hb dX0_norm_6 rfl (lv_at hl 1 rfl) ?_
  refine lv_iload_n hx hb dX0_norm_7 rfl (lv_at hl 2 rfl) ?_
  refine z_cVl (As := [vI i]) (rest := []) ⟨hx, hb, hml, hown, hts⟩ hK hP hD hS hA [0] [] rfl rfl rfl (c_X0_b l g q q0 q1 q2 q3 i (by first | assumption | omega | decide)) (cwV 1 hts gX0_norm_X0_b rfl rfl rfl (by decide +kernel) ⟨Nat.le_of_ble_eq_true rfl, Nat.le_of_ble_eq_true rfl⟩) 0 0 rfl rfl rfl (fun _ _ _ _ _ _ => trivial) (fun _ _ _ => trivial) rfl hl.1 (Nat.le_of_ble_eq_true rfl) rfl dX0_norm_8 ⟨Nat.le_of_ble_eq_true rfl, Nat.le_of_ble_eq_true rfl⟩ (fun u_2 H locs hwu_2 hP hD hS => ?_)
  try dsimp only at hwu_2
  have hP : zP g [[flw q q0 q1 q2 q3]] H := hP
  have hD : zD A [[flw q q0 q1 q2 q3]] := hD
  refine z_toL (flB q0 q1 q2 i) rfl ?_
  refine lv_lstore (lv' := [(4, vL (flB q0 q1 q2 i)), (2, vL (flA q0 q1 q2 i)), (0, .ref q), (1, vI i)]) hx hb dX0_norm_11 hl (by decide) rfl (fun ls hl => ?_)
  refine lv_lload_n hx hb dX0_norm_13 rfl (lv_at hl 1 rfl) ?_
  refine lv_lload_n hx hb dX0_norm_14 rfl (lv_at hl 1 rfl) ?_
  refine z_lmul hx hb ((flA q0 q1 q2 i) * (flA q0 q1 q2 i)) rfl dX0_norm_15 ?_
  refine lv_lload_n hx hb dX0_norm_16 rfl (lv_at hl 1 rfl) ?_
  refine lv_lload hx hb dX0_norm_17 (lv_at hl 0 rfl) ?_
  refine z_lmul hx hb ((flA q0 q1 q2 i) * (flB q0 q1 q2 i)) rfl dX0_norm_19 ?_
  refine z_lsub hx hb (((flA q0 q1 q2 i) * (flA q0 q1 q2 i)) - ((flA q0 q1 q2 i) * (flB q0 q1 q2 i))) rfl dX0_norm_20 ?_
  refine lv_lload hx hb dX0_norm_21 (lv_at hl 0 rfl) ?_
  refine lv_lload hx hb dX0_norm_23 (lv_at hl 0 rfl) ?_
  refine z_lmul hx hb ((flB q0 q1 q2 i) * (flB q0 q1 q2 i)) rfl dX0_norm_25 ?_
  refine z_ladd hx hb ((((flA q0 q1 q2 i) * (flA q0 q1 q2 i)) - ((flA q0 q1 q2 i) * (flB q0 q1 q2 i))) + ((flB q0 q1 q2 i) * (flB q0 q1 q2 i))) rfl dX0_norm_26 ?_
  exact z_retl () [0] hx hb hr hlocks hK hP hD hS (rfl) trivial rfl rfl (rfl) (Nat.le_of_ble_eq_true rfl) (Nat.le_of_ble_eq_true rfl) dX0_norm_27

set_option maxHeartbeats 4000000 in
set_option maxRecDepth 100000 in
theorem c_X0_greatestNorm (l : Launch) (g : zG) (q : Nat) (q0 : Int) (q1 : Int) (q2 : Int) (q3 : Int) (hb_ : flbd 2000000 q0 q1 q2 q3) : zMet l g yX0_greatestNorm wsX0_greatestNorm 2 0 0 [.ref q] zX0 [[flw q q0 q1 q2 q3]] (ql g (fun (_ : Unit) => (max (flN q0 q1 q2 0) (max (flN q0 q1 q2 1) (flN q0 q1 q2 2)))) (fun (_ : Unit) => True) (fun (_ : Unit) => [[flw q q0 q1 q2 q3]])) := by
  have hN0 := flN_bd hb_ 0
  have hN1 := flN_bd hb_ 1
  have hN2 := flN_bd hb_ 2
  refine z_ent (cc := cX0_greatestNorm) (maxL := 1) (ret := (some .long)) (by decide) rfl (Nat.le_of_ble_eq_true rfl) ?_
  intro p e s m below meth c A ls hx hb hr hml hown hts hlocks hin0 hA hK hP hD hS hXX hl
  have hown : s.vm.findClass RX0 = some m.cls := hown
  have hl : lv_has ls 1 [(0, .ref q)] := hl
  refine lv_aload_n hx hb dX0_greatestNorm_0 rfl (lv_at hl 0 rfl) ?_
  refine z_iconst hx hb dX0_greatestNorm_1 rfl ?_
  refine z_cVl (As := [vI 0]) (rest := []) ⟨hx, hb, hml, hown, hts⟩ hK hP hD hS hA [0] [] rfl rfl rfl (c_X0_norm l g q q0 q1 q2 q3 0 (by first | assumption | omega | decide)) (cwV 1 hts gX0_greatestNorm_X0_norm rfl rfl rfl (by decide +kernel) ⟨Nat.le_of_ble_eq_true rfl, Nat.le_of_ble_eq_true rfl⟩) 0 0 rfl rfl rfl (fun _ _ _ _ _ _ => trivial) (fun _ _ _ => trivial) rfl hl.1 (Nat.le_of_ble_eq_true rfl) rfl dX0_greatestNorm_2 ⟨Nat.le_of_ble_eq_true rfl, Nat.le_of_ble_eq_true rfl⟩ (fun u_1 H locs hwu_1 hP hD hS => ?_)
  try dsimp only at hwu_1
  have hP : zP g [[flw q q0 q1 q2 q3]] H := hP
  have hD : zD A [[flw q q0 q1 q2 q3]] := hD
  refine z_toL (flN q0 q1 q2 0) rfl ?_
  refine lv_aload_n hx hb dX0_greatestNorm_5 rfl (lv_at hl 0 rfl) ?_
  refine z_iconst hx hb dX0_greatestNorm_6 rfl ?_
  refine z_cVl (As := [vI 1]) (rest := [vL (flN q0 q1 q2 0)]) ⟨hx, hb, hml, hown, hts⟩ hK hP hD hS hA [0] [] rfl rfl rfl (c_X0_norm l g q q0 q1 q2 q3 1 (by first | assumption | omega | decide)) (cwV 1 hts gX0_greatestNorm_X0_norm rfl rfl rfl (by decide +kernel) ⟨Nat.le_of_ble_eq_true rfl, Nat.le_of_ble_eq_true rfl⟩) 0 0 rfl rfl rfl (fun _ _ _ _ _ _ => trivial) (fun _ _ _ => trivial) rfl hl.1 (Nat.le_of_ble_eq_true rfl) rfl dX0_greatestNorm_7 ⟨Nat.le_of_ble_eq_true rfl, Nat.le_of_ble_eq_true rfl⟩ (fun u_2 H locs hwu_2 hP hD hS => ?_)
  try dsimp only at hwu_2
  have hP : zP g [[flw q q0 q1 q2 q3]] H := hP
  have hD : zD A [[flw q q0 q1 q2 q3]] := hD
  refine z_toL (flN q0 q1 q2 1) rfl ?_
  refine lv_aload_n hx hb dX0_greatestNorm_10 rfl (lv_at hl 0 rfl) ?_
  refine z_iconst hx hb dX0_greatestNorm_11 rfl ?_
  refine z_cVl (As := [vI 2]) (rest := [vL (flN q0 q1 q2 1), vL (flN q0 q1 q2 0)]) ⟨hx, hb, hml, hown, hts⟩ hK hP hD hS hA [0] [] rfl rfl rfl (c_X0_norm l g q q0 q1 q2 q3 2 (by first | assumption | omega | decide)) (cwV 1 hts gX0_greatestNorm_X0_norm rfl rfl rfl (by decide +kernel) ⟨Nat.le_of_ble_eq_true rfl, Nat.le_of_ble_eq_true rfl⟩) 0 0 rfl rfl rfl (fun _ _ _ _ _ _ => trivial) (fun _ _ _ => trivial) rfl hl.1 (Nat.le_of_ble_eq_true rfl) rfl dX0_greatestNorm_12 ⟨Nat.le_of_ble_eq_true rfl, Nat.le_of_ble_eq_true rfl⟩ (fun u_3 H locs hwu_3 hP hD hS => ?_)
  try dsimp only at hwu_3
  have hP : zP g [[flw q q0 q1 q2 q3]] H := hP
  have hD : zD A [[flw q q0 q1 q2 q3]] := hD
  refine z_toL (flN q0 q1 q2 2) rfl ?_
  refine va_mmax_long hx hb (hml.trans hl.1.symm) hown (hts _ (List.mem_of_getElem? (i := 1) rfl)) (hts _ (List.mem_of_getElem? (i := 2) rfl)) (hts _ (List.mem_of_getElem? (i := 3) rfl)) (hts _ (List.mem_of_getElem? (i := 4) rfl)) (Nat.le_of_ble_eq_true rfl) (Nat.le_of_ble_eq_true rfl) (Nat.le_of_ble_eq_true rfl) (Nat.le_of_ble_eq_true rfl) dX0_greatestNorm_15 ?_
  refine z_asL (max (flN q0 q1 q2 1) (flN q0 q1 q2 2)) (l_max (by omega) (by omega)) ?_
  refine va_mmax_long hx hb (hml.trans hl.1.symm) hown (hts _ (List.mem_of_getElem? (i := 1) rfl)) (hts _ (List.mem_of_getElem? (i := 2) rfl)) (hts _ (List.mem_of_getElem? (i := 3) rfl)) (hts _ (List.mem_of_getElem? (i := 4) rfl)) (Nat.le_of_ble_eq_true rfl) (Nat.le_of_ble_eq_true rfl) (Nat.le_of_ble_eq_true rfl) (Nat.le_of_ble_eq_true rfl) dX0_greatestNorm_18 ?_
  refine z_asL (max (flN q0 q1 q2 0) (max (flN q0 q1 q2 1) (flN q0 q1 q2 2))) (l_max (by omega) (by omega)) ?_
  exact z_retl () [0] hx hb hr hlocks hK hP hD hS (rfl) trivial rfl rfl (rfl) (Nat.le_of_ble_eq_true rfl) (Nat.le_of_ble_eq_true rfl) dX0_greatestNorm_21

set_option maxHeartbeats 4000000 in
set_option maxRecDepth 100000 in
theorem c_X0_leastNorm (l : Launch) (g : zG) (q : Nat) (q0 : Int) (q1 : Int) (q2 : Int) (q3 : Int) (hb_ : flbd 2000000 q0 q1 q2 q3) : zMet l g yX0_leastNorm wsX0_leastNorm 2 0 0 [.ref q] zX0 [[flw q q0 q1 q2 q3]] (ql g (fun (_ : Unit) => (min (flN q0 q1 q2 0) (min (flN q0 q1 q2 1) (flN q0 q1 q2 2)))) (fun (_ : Unit) => True) (fun (_ : Unit) => [[flw q q0 q1 q2 q3]])) := by
  have hN0 := flN_bd hb_ 0
  have hN1 := flN_bd hb_ 1
  have hN2 := flN_bd hb_ 2
  refine z_ent (cc := cX0_leastNorm) (maxL := 1) (ret := (some .long)) (by decide) rfl (Nat.le_of_ble_eq_true rfl) ?_
  intro p e s m below meth c A ls hx hb hr hml hown hts hlocks hin0 hA hK hP hD hS hXX hl
  have hown : s.vm.findClass RX0 = some m.cls := hown
  have hl : lv_has ls 1 [(0, .ref q)] := hl
  refine lv_aload_n hx hb dX0_leastNorm_0 rfl (lv_at hl 0 rfl) ?_
  refine z_iconst hx hb dX0_leastNorm_1 rfl ?_
  refine z_cVl (As := [vI 0]) (rest := []) ⟨hx, hb, hml, hown, hts⟩ hK hP hD hS hA [0] [] rfl rfl rfl (c_X0_norm l g q q0 q1 q2 q3 0 (by first | assumption | omega | decide)) (cwV 1 hts gX0_leastNorm_X0_norm rfl rfl rfl (by decide +kernel) ⟨Nat.le_of_ble_eq_true rfl, Nat.le_of_ble_eq_true rfl⟩) 0 0 rfl rfl rfl (fun _ _ _ _ _ _ => trivial) (fun _ _ _ => trivial) rfl hl.1 (Nat.le_of_ble_eq_true rfl) rfl dX0_leastNorm_2 ⟨Nat.le_of_ble_eq_true rfl, Nat.le_of_ble_eq_true rfl⟩ (fun u_1 H locs hwu_1 hP hD hS => ?_)
  try dsimp only at hwu_1
  have hP : zP g [[flw q q0 q1 q2 q3]] H := hP
  have hD : zD A [[flw q q0 q1 q2 q3]] := hD
  refine z_toL (flN q0 q1 q2 0) rfl ?_
  refine lv_aload_n hx hb dX0_leastNorm_5 rfl (lv_at hl 0 rfl) ?_
  refine z_iconst hx hb dX0_leastNorm_6 rfl ?_
  refine z_cVl (As := [vI 1]) (rest := [vL (flN q0 q1 q2 0)]) ⟨hx, hb, hml, hown, hts⟩ hK hP hD hS hA [0] [] rfl rfl rfl (c_X0_norm l g q q0 q1 q2 q3 1 (by first | assumption | omega | decide)) (cwV 1 hts gX0_leastNorm_X0_norm rfl rfl rfl (by decide +kernel) ⟨Nat.le_of_ble_eq_true rfl, Nat.le_of_ble_eq_true rfl⟩) 0 0 rfl rfl rfl (fun _ _ _ _ _ _ => trivial) (fun _ _ _ => trivial) rfl hl.1 (Nat.le_of_ble_eq_true rfl) rfl dX0_leastNorm_7 ⟨Nat.le_of_ble_eq_true rfl, Nat.le_of_ble_eq_true rfl⟩ (fun u_2 H locs hwu_2 hP hD hS => ?_)
  try dsimp only at hwu_2
  have hP : zP g [[flw q q0 q1 q2 q3]] H := hP
  have hD : zD A [[flw q q0 q1 q2 q3]] := hD
  refine z_toL (flN q0 q1 q2 1) rfl ?_
  refine lv_aload_n hx hb dX0_leastNorm_10 rfl (lv_at hl 0 rfl) ?_
  refine z_iconst hx hb dX0_leastNorm_11 rfl ?_
  refine z_cVl (As := [vI 2]) (rest := [vL (flN q0 q1 q2 1), vL (flN q0 q1 q2 0)]) ⟨hx, hb, hml, hown, hts⟩ hK hP hD hS hA [0] [] rfl rfl rfl (c_X0_norm l g q q0 q1 q2 q3 2 (by first | assumption | omega | decide)) (cwV 1 hts gX0_leastNorm_X0_norm rfl rfl rfl (by decide +kernel) ⟨Nat.le_of_ble_eq_true rfl, Nat.le_of_ble_eq_true rfl⟩) 0 0 rfl rfl rfl (fun _ _ _ _ _ _ => trivial) (fun _ _ _ => trivial) rfl hl.1 (Nat.le_of_ble_eq_true rfl) rfl dX0_leastNorm_12 ⟨Nat.le_of_ble_eq_true rfl, Nat.le_of_ble_eq_true rfl⟩ (fun u_3 H locs hwu_3 hP hD hS => ?_)
  try dsimp only at hwu_3
  have hP : zP g [[flw q q0 q1 q2 q3]] H := hP
  have hD : zD A [[flw q q0 q1 q2 q3]] := hD
  refine z_toL (flN q0 q1 q2 2) rfl ?_
  refine va_mmin_long hx hb (hml.trans hl.1.symm) hown (hts _ (List.mem_of_getElem? (i := 1) rfl)) (hts _ (List.mem_of_getElem? (i := 2) rfl)) (hts _ (List.mem_of_getElem? (i := 3) rfl)) (hts _ (List.mem_of_getElem? (i := 4) rfl)) (Nat.le_of_ble_eq_true rfl) (Nat.le_of_ble_eq_true rfl) (Nat.le_of_ble_eq_true rfl) (Nat.le_of_ble_eq_true rfl) dX0_leastNorm_15 ?_
  refine z_asL (min (flN q0 q1 q2 1) (flN q0 q1 q2 2)) (l_min (by omega) (by omega)) ?_
  refine va_mmin_long hx hb (hml.trans hl.1.symm) hown (hts _ (List.mem_of_getElem? (i := 1) rfl)) (hts _ (List.mem_of_getElem? (i := 2) rfl)) (hts _ (List.mem_of_getElem? (i := 3) rfl)) (hts _ (List.mem_of_getElem? (i := 4) rfl)) (Nat.le_of_ble_eq_true rfl) (Nat.le_of_ble_eq_true rfl) (Nat.le_of_ble_eq_true rfl) (Nat.le_of_ble_eq_true rfl) dX0_leastNorm_18 ?_
  refine z_asL (min (flN q0 q1 q2 0) (min (flN q0 q1 q2 1) (flN q0 q1 q2 2))) (l_min (by omega) (by omega)) ?_
  exact z_retl () [0] hx hb hr hlocks hK hP hD hS (rfl) trivial rfl rfl (rfl) (Nat.le_of_ble_eq_true rfl) (Nat.le_of_ble_eq_true rfl) dX0_leastNorm_21

set_option maxHeartbeats 4000000 in
set_option maxRecDepth 100000 in
theorem c_X0_exceeds (l : Launch) (g : zG) (q : Nat) (q0 : Int) (q1 : Int) (q2 : Int) (q3 : Int) (k : Int) (hb_ : flbd 2000000 q0 q1 q2 q3) (hk : 0 ≤ k ∧ k ≤ 999) : zMet l g yX0_exceeds wsX0_exceeds 3 0 0 [.ref q, vL k] zX0 [[flw q q0 q1 q2 q3]] (qi g (fun (_ : Unit) => (if k * k * q3 * q3 < (max (flN q0 q1 q2 0) (max (flN q0 q1 q2 1) (flN q0 q1 q2 2))) then 1 else 0 : Int)) (fun (_ : Unit) => True) (fun (_ : Unit) => [[flw q q0 q1 q2 q3]])) := by
  have hN0 := flN_bd hb_ 0
  have hN1 := flN_bd hb_ 1
  have hN2 := flN_bd hb_ 2
  have hx1 := exc_rng hk hb_.2.2.2
  refine z_ent (cc := cX0_exceeds) (maxL := 3) (ret := (some .boolean)) (by decide) rfl (Nat.le_of_ble_eq_true rfl) ?_
  intro p e s m below meth c A ls hx hb hr hml hown hts hlocks hin0 hA hK hP hD hS hXX hl
  have hown : s.vm.findClass RX0 = some m.cls := hown
  have hin0_ : ∀ w ∈ wsX00, w ∈ wsX0_exceeds := zw_in [26, 27, 28, 29] rfl
  have hl : lv_has ls 3 [(0, .ref q), (1, vL k)] := hl
  refine lv_aload_n hx hb dX0_exceeds_0 rfl (lv_at hl 0 rfl) ?_
  refine z_cVl (As := []) (rest := []) ⟨hx, hb, hml, hown, hts⟩ hK hP hD hS hA [0] [] rfl rfl rfl (c_X0_greatestNorm l g q q0 q1 q2 q3 (by first | assumption | omega | decide)) (cwV 0 hts gX0_exceeds_X0_greatestNorm rfl rfl rfl (by decide +kernel) ⟨Nat.le_of_ble_eq_true rfl, Nat.le_of_ble_eq_true rfl⟩) 0 0 rfl rfl rfl (fun _ _ _ _ _ _ => trivial) (fun _ _ _ => trivial) rfl hl.1 (Nat.le_of_ble_eq_true rfl) rfl dX0_exceeds_1 ⟨Nat.le_of_ble_eq_true rfl, Nat.le_of_ble_eq_true rfl⟩ (fun u_1 H locs hwu_1 hP hD hS => ?_)
  try dsimp only at hwu_1
  have hP : zP g [[flw q q0 q1 q2 q3]] H := hP
  have hD : zD A [[flw q q0 q1 q2 q3]] := hD
  refine z_toL (max (flN q0 q1 q2 0) (max (flN q0 q1 q2 1) (flN q0 q1 q2 2))) rfl ?_
  refine lv_lload_n hx hb dX0_exceeds_4 rfl (lv_at hl 1 rfl) ?_
  refine lv_lload_n hx hb dX0_exceeds_5 rfl (lv_at hl 1 rfl) ?_
  refine z_lmul hx hb (k * k) rfl dX0_exceeds_6 ?_
  refine lv_aload_n hx hb dX0_exceeds_7 rfl (lv_at hl 0 rfl) ?_
  refine z_get hx hb hts hin0_ hown hK hP 0 rfl rfl 3 (by decide) (hts _ (List.mem_of_getElem? (i := 1) rfl)) rfl dX0_exceeds_8 ?_
  refine z_lmul hx hb ((k * k) * q3) rfl dX0_exceeds_11 ?_
  refine lv_aload_n hx hb dX0_exceeds_12 rfl (lv_at hl 0 rfl) ?_
  refine z_get hx hb hts hin0_ hown hK hP 0 rfl rfl 3 (by decide) (hts _ (List.mem_of_getElem? (i := 1) rfl)) rfl dX0_exceeds_13 ?_
  refine z_lmul hx hb (((k * k) * q3) * q3) rfl dX0_exceeds_16 ?_
  refine z_lcmp_le (tgt := 25) hx hb (by omega) (by omega) dX0_exceeds_17 dX0_exceeds_18 (by decide) (fun c2 => ?_) (fun c2 => ?_)
  · refine z_iconst hx hb dX0_exceeds_25 rfl ?_
    exact z_reti () [0] hx hb hr (nar_z (by first | decide | omega)) hlocks hK hP hD hS (by first | rw [if_pos (by omega)] | rw [if_neg (by omega)]) trivial rfl rfl (rfl) (Nat.le_of_ble_eq_true rfl) (Nat.le_of_ble_eq_true rfl) dX0_exceeds_26
  · refine z_iconst hx hb dX0_exceeds_21 rfl ?_
    refine lv_goto (tgt := 26) hx hb dX0_exceeds_22 (by decide) ?_
    exact z_reti () [0] hx hb hr (nar_z (by first | decide | omega)) hlocks hK hP hD hS (by first | rw [if_pos (by omega)] | rw [if_neg (by omega)]) trivial rfl rfl (rfl) (Nat.le_of_ble_eq_true rfl) (Nat.le_of_ble_eq_true rfl) dX0_exceeds_26

set_option maxHeartbeats 4000000 in
set_option maxRecDepth 100000 in
theorem c_X0_sagsBelow (l : Launch) (g : zG) (q : Nat) (q0 : Int) (q1 : Int) (q2 : Int) (q3 : Int) (v : Int) (k : Int) (hb_ : flbd 2000000 q0 q1 q2 q3) (hv : 1 ≤ v ∧ v ≤ 99) (hk : 0 ≤ k ∧ k ≤ 100) : zMet l g yX0_sagsBelow wsX0_sagsBelow 3 0 0 [.ref q, vL v, vL k] zX0 [[flw q q0 q1 q2 q3]] (qi g (fun (_ : Unit) => (if (min (flN q0 q1 q2 0) (min (flN q0 q1 q2 1) (flN q0 q1 q2 2))) * 10000 < v * v * k * k * q3 * q3 then 1 else 0 : Int)) (fun (_ : Unit) => True) (fun (_ : Unit) => [[flw q q0 q1 q2 q3]])) := by
  have hN0 := flN_bd hb_ 0
  have hN1 := flN_bd hb_ 1
  have hN2 := flN_bd hb_ 2
  have hx1 := sag_rng hv hk hb_.2.2.2
  refine z_ent (cc := cX0_sagsBelow) (maxL := 5) (ret := (some .boolean)) (by decide) rfl (Nat.le_of_ble_eq_true rfl) ?_
  intro p e s m below meth c A ls hx hb hr hml hown hts hlocks hin0 hA hK hP hD hS hXX hl
  have hown : s.vm.findClass RX0 = some m.cls := hown
  have hin0_ : ∀ w ∈ wsX00, w ∈ wsX0_sagsBelow := zw_in [27, 28, 29, 30] rfl
  have hl : lv_has ls 5 [(0, .ref q), (1, vL v), (3, vL k)] := hl
  refine lv_aload_n hx hb dX0_sagsBelow_0 rfl (lv_at hl 0 rfl) ?_
  refine z_cVl (As := []) (rest := []) ⟨hx, hb, hml, hown, hts⟩ hK hP hD hS hA [0] [] rfl rfl rfl (c_X0_leastNorm l g q q0 q1 q2 q3 (by first | assumption | omega | decide)) (cwV 0 hts gX0_sagsBelow_X0_leastNorm rfl rfl rfl (by decide +kernel) ⟨Nat.le_of_ble_eq_true rfl, Nat.le_of_ble_eq_true rfl⟩) 0 0 rfl rfl rfl (fun _ _ _ _ _ _ => trivial) (fun _ _ _ => trivial) rfl hl.1 (Nat.le_of_ble_eq_true rfl) rfl dX0_sagsBelow_1 ⟨Nat.le_of_ble_eq_true rfl, Nat.le_of_ble_eq_true rfl⟩ (fun u_1 H locs hwu_1 hP hD hS => ?_)
  try dsimp only at hwu_1
  have hP : zP g [[flw q q0 q1 q2 q3]] H := hP
  have hD : zD A [[flw q q0 q1 q2 q3]] := hD
  refine z_toL (min (flN q0 q1 q2 0) (min (flN q0 q1 q2 1) (flN q0 q1 q2 2))) rfl ?_
  refine z_ldc2 hx hb 10000 hown (hts _ (List.mem_of_getElem? (i := 1) rfl)) rfl dX0_sagsBelow_4 ?_
  refine z_lmul hx hb ((min (flN q0 q1 q2 0) (min (flN q0 q1 q2 1) (flN q0 q1 q2 2))) * 10000) rfl dX0_sagsBelow_7 ?_
  refine lv_lload_n hx hb dX0_sagsBelow_8 rfl (lv_at hl 1 rfl) ?_
  refine lv_lload_n hx hb dX0_sagsBelow_9 rfl (lv_at hl 1 rfl) ?_
  refine z_lmul hx hb (v * v) rfl dX0_sagsBelow_10 ?_
  refine lv_lload_n hx hb dX0_sagsBelow_11 rfl (lv_at hl 2 rfl) ?_
  refine z_lmul hx hb ((v * v) * k) rfl dX0_sagsBelow_12 ?_
  refine lv_lload_n hx hb dX0_sagsBelow_13 rfl (lv_at hl 2 rfl) ?_
  refine z_lmul hx hb (((v * v) * k) * k) rfl dX0_sagsBelow_14 ?_
  refine lv_aload_n hx hb dX0_sagsBelow_15 rfl (lv_at hl 0 rfl) ?_
  refine z_get hx hb hts hin0_ hown hK hP 0 rfl rfl 3 (by decide) (hts _ (List.mem_of_getElem? (i := 2) rfl)) rfl dX0_sagsBelow_16 ?_
  refine z_lmul hx hb ((((v * v) * k) * k) * q3) rfl dX0_sagsBelow_19 ?_
  refine lv_aload_n hx hb dX0_sagsBelow_20 rfl (lv_at hl 0 rfl) ?_
  refine z_get hx hb hts hin0_ hown hK hP 0 rfl rfl 3 (by decide) (hts _ (List.mem_of_getElem? (i := 2) rfl)) rfl dX0_sagsBelow_21 ?_
  refine z_lmul hx hb (((((v * v) * k) * k) * q3) * q3) rfl dX0_sagsBelow_24 ?_
  refine z_lcmp_ge (tgt := 33) hx hb (by omega) (by omega) dX0_sagsBelow_25 dX0_sagsBelow_26 (by decide) (fun c2 => ?_) (fun c2 => ?_)
  · refine z_iconst hx hb dX0_sagsBelow_33 rfl ?_
    exact z_reti () [0] hx hb hr (nar_z (by first | decide | omega)) hlocks hK hP hD hS (by first | rw [if_pos (by omega)] | rw [if_neg (by omega)]) trivial rfl rfl (rfl) (Nat.le_of_ble_eq_true rfl) (Nat.le_of_ble_eq_true rfl) dX0_sagsBelow_34
  · refine z_iconst hx hb dX0_sagsBelow_29 rfl ?_
    refine lv_goto (tgt := 34) hx hb dX0_sagsBelow_30 (by decide) ?_
    exact z_reti () [0] hx hb hr (nar_z (by first | decide | omega)) hlocks hK hP hD hS (by first | rw [if_pos (by omega)] | rw [if_neg (by omega)]) trivial rfl rfl (rfl) (Nat.le_of_ble_eq_true rfl) (Nat.le_of_ble_eq_true rfl) dX0_sagsBelow_34

set_option maxHeartbeats 4000000 in
set_option maxRecDepth 100000 in
theorem c_X0_isFraction (l : Launch) (g : zG) (q : Nat) (q0 : Int) (q1 : Int) (q2 : Int) (q3 : Int) (a : Int) (r : Nat) (w : FO) (ha : -9000000 ≤ a ∧ a ≤ 9000000) (hw : fok w) (hq : 0 ≤ q3 ∧ q3 ≤ 12000) : zMet l g yX0_isFraction wsX0_isFraction 0 0 0 [.ref q, vL a, .ref r] zX0 [[flw q q0 q1 q2 q3], [fr r w]] (qi g (fun (_ : Unit) => (isF a w q3)) (fun (_ : Unit) => True) (fun (_ : Unit) => [[flw q q0 q1 q2 q3], [fr r w]])) := by
  have hx1 := isF_rng ha hw hq
  refine z_ent (cc := cX0_isFraction) (maxL := 4) (ret := (some .boolean)) (by decide) rfl (Nat.le_of_ble_eq_true rfl) ?_
  intro p e s m below meth c A ls hx hb hr hml hown hts hlocks hin0 hA hK hP hD hS hXX hl
  have hown : s.vm.findClass RX0 = some m.cls := hown
  have hin0_ : ∀ w ∈ wsX00, w ∈ wsX0_isFraction := zw_in [7, 8, 9, 10] rfl
  have hin1_ : ∀ w ∈ wsX10, w ∈ wsX0_isFraction := zw_in [4, 5, 6] rfl
  have hl : lv_has ls 4 [(0, .ref q), (1, vL a), (3, .ref r)] := hl
  refine lv_lload_n hx hb dX0_isFraction_0 rfl (lv_at hl 1 rfl) ?_
  refine lv_aload_n hx hb dX0_isFraction_1 rfl (lv_at hl 2 rfl) ?_
  refine z_get hx hb hts hin1_ hown hK hP 1 rfl rfl 1 (by decide) (hts _ (List.mem_of_getElem? (i := 1) rfl)) rfl dX0_isFraction_2 ?_
  refine z_lmul hx hb (a * (fB w)) rfl dX0_isFraction_5 ?_
  refine lv_aload_n hx hb dX0_isFraction_6 rfl (lv_at hl 2 rfl) ?_
  refine z_get hx hb hts hin1_ hown hK hP 1 rfl rfl 0 (by decide) (hts _ (List.mem_of_getElem? (i := 2) rfl)) rfl dX0_isFraction_7 ?_
  refine lv_aload_n hx hb dX0_isFraction_10 rfl (lv_at hl 0 rfl) ?_
  refine z_get hx hb hts hin0_ hown hK hP 0 rfl rfl 3 (by decide) (hts _ (List.mem_of_getElem? (i := 3) rfl)) rfl dX0_isFraction_11 ?_
  refine z_lmul hx hb ((fA w) * q3) rfl dX0_isFraction_14 ?_
  refine z_lcmp_ne (tgt := 23) hx hb hx1.1 hx1.2 dX0_isFraction_15 dX0_isFraction_16 (by decide) (fun c1 => ?_) (fun c1 => ?_)
  · refine z_iconst hx hb dX0_isFraction_23 rfl ?_
    exact z_reti () [0, 1] hx hb hr (nar_z (by first | decide | omega)) hlocks hK hP hD hS (by unfold isF; split <;> omega) trivial rfl rfl (rfl) (Nat.le_of_ble_eq_true rfl) (Nat.le_of_ble_eq_true rfl) dX0_isFraction_24
  · refine z_iconst hx hb dX0_isFraction_19 rfl ?_
    refine lv_goto (tgt := 24) hx hb dX0_isFraction_20 (by decide) ?_
    exact z_reti () [0, 1] hx hb hr (nar_z (by first | decide | omega)) hlocks hK hP hD hS (by unfold isF; split <;> omega) trivial rfl rfl (rfl) (Nat.le_of_ble_eq_true rfl) (Nat.le_of_ble_eq_true rfl) dX0_isFraction_24

set_option maxHeartbeats 4000000 in
set_option maxRecDepth 100000 in
theorem c_X0_isAs (l : Launch) (g : zG) (q : Nat) (q0 : Int) (q1 : Int) (q2 : Int) (q3 : Int) (r : Nat) (x : Nat → Nat) (t : Nat → FO) (hb_ : flbd 2000000 q0 q1 q2 q3) (ht : ∀ k, fok (t k)) : zMet l g yX0_isAs wsX0_isAs 1 0 0 [.ref q, .ref r] zX0 [[flw q q0 q1 q2 q3], (threeW g r x t)] (qi g (fun (_ : Unit) => (flEq q0 q1 q2 q3 t)) (fun (_ : Unit) => True) (fun (_ : Unit) => [[flw q q0 q1 q2 q3], (threeW g r x t)])) := by
  refine z_ent (cc := cX0_isAs) (maxL := 5) (ret := (some .boolean)) (by decide) rfl (Nat.le_of_ble_eq_true rfl) ?_
  intro p e s m below meth c A ls hx hb hr hml hown hts hlocks hin0 hA hK hP hD hS hXX hl
  have hown : s.vm.findClass RX0 = some m.cls := hown
  have hin4_ : ∀ w ∈ wsX40, w ∈ wsX0_isAs := zw_in [24, 25] rfl
  have hin8_ : ∀ w ∈ wsX80, w ∈ wsX0_isAs := zw_in [23] rfl
  have hl : lv_has ls 5 [(0, .ref q), (1, .ref r)] := hl
  have hP : zP g [[flw q q0 q1 q2 q3], [(r, .inr (8, [.ref (x 0)]))], [((x 0), .inl (g.2 3, 3, .inr (.inr (.inr (.inr (rA [(x 1), (x 4), (x 7)]))))))], [((x 1), .inr (4, [.ref (x 2), .ref (x 3)]))], [fr (x 2) (t 0)], [fr (x 3) (t 1)], [((x 4), .inr (4, [.ref (x 5), .ref (x 6)]))], [fr (x 5) (t 2)], [fr (x 6) (t 3)], [((x 7), .inr (4, [.ref (x 8), .ref (x 9)]))], [fr (x 8) (t 4)], [fr (x 9) (t 5)]] s.heap := hP
  have hD : zD A [[flw q q0 q1 q2 q3], [(r, .inr (8, [.ref (x 0)]))], [((x 0), .inl (g.2 3, 3, .inr (.inr (.inr (.inr (rA [(x 1), (x 4), (x 7)]))))))], [((x 1), .inr (4, [.ref (x 2), .ref (x 3)]))], [fr (x 2) (t 0)], [fr (x 3) (t 1)], [((x 4), .inr (4, [.ref (x 5), .ref (x 6)]))], [fr (x 5) (t 2)], [fr (x 6) (t 3)], [((x 7), .inr (4, [.ref (x 8), .ref (x 9)]))], [fr (x 8) (t 4)], [fr (x 9) (t 5)]] := hD
  refine z_iconst hx hb dX0_isAs_0 rfl ?_
  refine lv_istore_n (lv' := [(2, vI 1), (0, .ref q), (1, .ref r)]) hx hb dX0_isAs_1 rfl hl (by decide) rfl (fun ls hl => ?_)
  refine z_iconst hx hb dX0_isAs_2 rfl ?_
  refine lv_istore_n (lv' := [(3, vI 0), (2, vI 1), (0, .ref q), (1, .ref r)]) hx hb dX0_isAs_3 rfl hl (by decide) rfl (fun ls hl => ?_)
  refine lv_iload_n hx hb dX0_isAs_4 rfl (lv_at hl 0 rfl) ?_
  refine z_iconst hx hb dX0_isAs_5 rfl ?_
  refine z_icmp_ge (tgt := 65) hx hb (by decide) (by decide) dX0_isAs_6 (by decide) (fun c1 => absurd c1 (by decide)) (fun c1 => ?_)
  refine lv_aload_n hx hb dX0_isAs_9 rfl (lv_at hl 3 rfl) ?_
  refine z_get hx hb hts hin8_ hown hK hP 1 rfl rfl 0 (by decide) (hts _ (List.mem_of_getElem? (i := 1) rfl)) rfl dX0_isAs_10 ?_
  refine lv_iload_n hx hb dX0_isAs_13 rfl (lv_at hl 0 rfl) ?_
  refine z_aald hx hb hK hP 2 3 rfl rfl 0 rfl (by decide) (by decide) (x 1) rfl dX0_isAs_14 ?_
  refine lv_astore (lv' := [(4, .ref (x 1)), (3, vI 0), (2, vI 1), (0, .ref q), (1, .ref r)]) hx hb dX0_isAs_15 hl (by decide) rfl (fun ls hl => ?_)
  refine lv_iload_n hx hb dX0_isAs_17 rfl (lv_at hl 2 rfl) ?_
  have hf0a := isF_01 (flA q0 q1 q2 0) (t 0) q3
  have hf0b := isF_01 (flB q0 q1 q2 0) (t 1) q3
  have hf0c := an1_s (isF (flA q0 q1 q2 0) (t 0) q3) (isF (flB q0 q1 q2 0) (t 1) q3)
  have j57 : ∀ (H : Heap) (locs : List Loc) (ls : Array Slot), zP g [[flw q q0 q1 q2 q3], [(r, .inr (8, [.ref (x 0)]))], [((x 0), .inl (g.2 3, 3, .inr (.inr (.inr (.inr (rA [(x 1), (x 4), (x 7)]))))))], [((x 1), .inr (4, [.ref (x 2), .ref (x 3)]))], [fr (x 2) (t 0)], [fr (x 3) (t 1)], [((x 4), .inr (4, [.ref (x 5), .ref (x 6)]))], [fr (x 5) (t 2)], [fr (x 6) (t 3)], [((x 7), .inr (4, [.ref (x 8), .ref (x 9)]))], [fr (x 8) (t 4)], [fr (x 9) (t 5)]] H → zD A [[flw q q0 q1 q2 q3], [(r, .inr (8, [.ref (x 0)]))], [((x 0), .inl (g.2 3, 3, .inr (.inr (.inr (.inr (rA [(x 1), (x 4), (x 7)]))))))], [((x 1), .inr (4, [.ref (x 2), .ref (x 3)]))], [fr (x 2) (t 0)], [fr (x 3) (t 1)], [((x 4), .inr (4, [.ref (x 5), .ref (x 6)]))], [fr (x 5) (t 2)], [fr (x 6) (t 3)], [((x 7), .inr (4, [.ref (x 8), .ref (x 9)]))], [fr (x 8) (t 4)], [fr (x 9) (t 5)]] → va_S A s.heap H locs → lv_has ls 5 [(4, .ref (x 1)), (3, vI 0), (2, vI 1), (0, .ref q), (1, .ref r)] → W p l e (zRm 1 0 0) s m ([.ref q, .ref r] : List Value).toArray below meth c H locs (0) (0) (MQ below ((qi g (fun (_ : Unit) => (flEq q0 q1 q2 q3 t)) (fun (_ : Unit) => True) (fun (_ : Unit) => [[flw q q0 q1 q2 q3], (threeW g r x t)])) A) ([.ref q, .ref r] : List Value).toArray s 0 0 A) (F0 m 57 ls [vI (an1 (isF (flA q0 q1 q2 0) (t 0) q3) (isF (flB q0 q1 q2 0) (t 1) q3)), vI 1]) := by
    intro H locs ls hP hD hS hl
    refine z_iand01 hx hb (by decide) (by omega) dX0_isAs_57 ?_
    have ho_2 := an1_s 1 (an1 (isF (flA q0 q1 q2 0) (t 0) q3) (isF (flB q0 q1 q2 0) (t 1) q3))
    refine lv_istore_n (lv' := [(2, vI (an1 1 (an1 (isF (flA q0 q1 q2 0) (t 0) q3) (isF (flB q0 q1 q2 0) (t 1) q3)))), (4, .ref (x 1)), (3, vI 0), (0, .ref q), (1, .ref r)]) hx hb dX0_isAs_58 rfl hl (by decide) rfl (fun ls hl => ?_)
    refine z_iinc hx hb 1 (lv' := [(3, vI 1), (2, vI (an1 1 (an1 (isF (flA q0 q1 q2 0) (t 0) q3) (isF (flB q0 q1 q2 0) (t 1) q3)))), (4, .ref (x 1)), (0, .ref q), (1, .ref r)]) dX0_isAs_59 hl (k := 2) rfl (rfl) (by decide) rfl (fun ls hl => ?_)
    refine lv_goto (tgt := 4) hx hb dX0_isAs_62 (by decide) ?_
    refine lv_iload_n hx hb dX0_isAs_4 rfl (lv_at hl 0 rfl) ?_
    refine z_iconst hx hb dX0_isAs_5 rfl ?_
    refine z_icmp_ge (tgt := 65) hx hb (by decide) (by decide) dX0_isAs_6 (by decide) (fun c3 => absurd c3 (by decide)) (fun c3 => ?_)
    refine lv_aload_n hx hb dX0_isAs_9 rfl (lv_at hl 4 rfl) ?_
    refine z_get hx hb hts hin8_ hown hK hP 1 rfl rfl 0 (by decide) (hts _ (List.mem_of_getElem? (i := 1) rfl)) rfl dX0_isAs_10 ?_
    refine lv_iload_n hx hb dX0_isAs_13 rfl (lv_at hl 0 rfl) ?_
    refine z_aald hx hb hK hP 2 3 rfl rfl 1 rfl (by decide) (by decide) (x 4) rfl dX0_isAs_14 ?_
    refine lv_astore (lv' := [(4, .ref (x 4)), (3, vI 1), (2, vI (an1 1 (an1 (isF (flA q0 q1 q2 0) (t 0) q3) (isF (flB q0 q1 q2 0) (t 1) q3)))), (0, .ref q), (1, .ref r)]) hx hb dX0_isAs_15 hl (by decide) rfl (fun ls hl => ?_)
    refine lv_iload_n hx hb dX0_isAs_17 rfl (lv_at hl 2 rfl) ?_
    have hf1a := isF_01 (flA q0 q1 q2 1) (t 2) q3
    have hf1b := isF_01 (flB q0 q1 q2 1) (t 3) q3
    have hf1c := an1_s (isF (flA q0 q1 q2 1) (t 2) q3) (isF (flB q0 q1 q2 1) (t 3) q3)
    have j57 : ∀ (H : Heap) (locs : List Loc) (ls : Array Slot), zP g [[flw q q0 q1 q2 q3], [(r, .inr (8, [.ref (x 0)]))], [((x 0), .inl (g.2 3, 3, .inr (.inr (.inr (.inr (rA [(x 1), (x 4), (x 7)]))))))], [((x 1), .inr (4, [.ref (x 2), .ref (x 3)]))], [fr (x 2) (t 0)], [fr (x 3) (t 1)], [((x 4), .inr (4, [.ref (x 5), .ref (x 6)]))], [fr (x 5) (t 2)], [fr (x 6) (t 3)], [((x 7), .inr (4, [.ref (x 8), .ref (x 9)]))], [fr (x 8) (t 4)], [fr (x 9) (t 5)]] H → zD A [[flw q q0 q1 q2 q3], [(r, .inr (8, [.ref (x 0)]))], [((x 0), .inl (g.2 3, 3, .inr (.inr (.inr (.inr (rA [(x 1), (x 4), (x 7)]))))))], [((x 1), .inr (4, [.ref (x 2), .ref (x 3)]))], [fr (x 2) (t 0)], [fr (x 3) (t 1)], [((x 4), .inr (4, [.ref (x 5), .ref (x 6)]))], [fr (x 5) (t 2)], [fr (x 6) (t 3)], [((x 7), .inr (4, [.ref (x 8), .ref (x 9)]))], [fr (x 8) (t 4)], [fr (x 9) (t 5)]] → va_S A s.heap H locs → lv_has ls 5 [(4, .ref (x 4)), (3, vI 1), (2, vI (an1 1 (an1 (isF (flA q0 q1 q2 0) (t 0) q3) (isF (flB q0 q1 q2 0) (t 1) q3)))), (0, .ref q), (1, .ref r)] → W p l e (zRm 1 0 0) s m ([.ref q, .ref r] : List Value).toArray below meth c H locs (0) (0) (MQ below ((qi g (fun (_ : Unit) => (flEq q0 q1 q2 q3 t)) (fun (_ : Unit) => True) (fun (_ : Unit) => [[flw q q0 q1 q2 q3], (threeW g r x t)])) A) ([.ref q, .ref r] : List Value).toArray s 0 0 A) (F0 m 57 ls [vI (an1 (isF (flA q0 q1 q2 1) (t 2) q3) (isF (flB q0 q1 q2 1) (t 3) q3)), vI (an1 1 (an1 (isF (flA q0 q1 q2 0) (t 0) q3) (isF (flB q0 q1 q2 0) (t 1) q3)))]) := by
      intro H locs ls hP hD hS hl
      refine z_iand01 hx hb (by omega) (by omega) dX0_isAs_57 ?_
      have ho_4 := an1_s (an1 1 (an1 (isF (flA q0 q1 q2 0) (t 0) q3) (isF (flB q0 q1 q2 0) (t 1) q3))) (an1 (isF (flA q0 q1 q2 1) (t 2) q3) (isF (flB q0 q1 q2 1) (t 3) q3))
      refine lv_istore_n (lv' := [(2, vI (an1 (an1 1 (an1 (isF (flA q0 q1 q2 0) (t 0) q3) (isF (flB q0 q1 q2 0) (t 1) q3))) (an1 (isF (flA q0 q1 q2 1) (t 2) q3) (isF (flB q0 q1 q2 1) (t 3) q3)))), (4, .ref (x 4)), (3, vI 1), (0, .ref q), (1, .ref r)]) hx hb dX0_isAs_58 rfl hl (by decide) rfl (fun ls hl => ?_)
      refine z_iinc hx hb 2 (lv' := [(3, vI 2), (2, vI (an1 (an1 1 (an1 (isF (flA q0 q1 q2 0) (t 0) q3) (isF (flB q0 q1 q2 0) (t 1) q3))) (an1 (isF (flA q0 q1 q2 1) (t 2) q3) (isF (flB q0 q1 q2 1) (t 3) q3)))), (4, .ref (x 4)), (0, .ref q), (1, .ref r)]) dX0_isAs_59 hl (k := 2) rfl (rfl) (by decide) rfl (fun ls hl => ?_)
      refine lv_goto (tgt := 4) hx hb dX0_isAs_62 (by decide) ?_
      refine lv_iload_n hx hb dX0_isAs_4 rfl (lv_at hl 0 rfl) ?_
      refine z_iconst hx hb dX0_isAs_5 rfl ?_
      refine z_icmp_ge (tgt := 65) hx hb (by decide) (by decide) dX0_isAs_6 (by decide) (fun c5 => absurd c5 (by decide)) (fun c5 => ?_)
      refine lv_aload_n hx hb dX0_isAs_9 rfl (lv_at hl 4 rfl) ?_
      refine z_get hx hb hts hin8_ hown hK hP 1 rfl rfl 0 (by decide) (hts _ (List.mem_of_getElem? (i := 1) rfl)) rfl dX0_isAs_10 ?_
      refine lv_iload_n hx hb dX0_isAs_13 rfl (lv_at hl 0 rfl) ?_
      refine z_aald hx hb hK hP 2 3 rfl rfl 2 rfl (by decide) (by decide) (x 7) rfl dX0_isAs_14 ?_
      refine lv_astore (lv' := [(4, .ref (x 7)), (3, vI 2), (2, vI (an1 (an1 1 (an1 (isF (flA q0 q1 q2 0) (t 0) q3) (isF (flB q0 q1 q2 0) (t 1) q3))) (an1 (isF (flA q0 q1 q2 1) (t 2) q3) (isF (flB q0 q1 q2 1) (t 3) q3)))), (0, .ref q), (1, .ref r)]) hx hb dX0_isAs_15 hl (by decide) rfl (fun ls hl => ?_)
      refine lv_iload_n hx hb dX0_isAs_17 rfl (lv_at hl 2 rfl) ?_
      have hf2a := isF_01 (flA q0 q1 q2 2) (t 4) q3
      have hf2b := isF_01 (flB q0 q1 q2 2) (t 5) q3
      have hf2c := an1_s (isF (flA q0 q1 q2 2) (t 4) q3) (isF (flB q0 q1 q2 2) (t 5) q3)
      have j57 : ∀ (H : Heap) (locs : List Loc) (ls : Array Slot), zP g [[flw q q0 q1 q2 q3], [(r, .inr (8, [.ref (x 0)]))], [((x 0), .inl (g.2 3, 3, .inr (.inr (.inr (.inr (rA [(x 1), (x 4), (x 7)]))))))], [((x 1), .inr (4, [.ref (x 2), .ref (x 3)]))], [fr (x 2) (t 0)], [fr (x 3) (t 1)], [((x 4), .inr (4, [.ref (x 5), .ref (x 6)]))], [fr (x 5) (t 2)], [fr (x 6) (t 3)], [((x 7), .inr (4, [.ref (x 8), .ref (x 9)]))], [fr (x 8) (t 4)], [fr (x 9) (t 5)]] H → zD A [[flw q q0 q1 q2 q3], [(r, .inr (8, [.ref (x 0)]))], [((x 0), .inl (g.2 3, 3, .inr (.inr (.inr (.inr (rA [(x 1), (x 4), (x 7)]))))))], [((x 1), .inr (4, [.ref (x 2), .ref (x 3)]))], [fr (x 2) (t 0)], [fr (x 3) (t 1)], [((x 4), .inr (4, [.ref (x 5), .ref (x 6)]))], [fr (x 5) (t 2)], [fr (x 6) (t 3)], [((x 7), .inr (4, [.ref (x 8), .ref (x 9)]))], [fr (x 8) (t 4)], [fr (x 9) (t 5)]] → va_S A s.heap H locs → lv_has ls 5 [(4, .ref (x 7)), (3, vI 2), (2, vI (an1 (an1 1 (an1 (isF (flA q0 q1 q2 0) (t 0) q3) (isF (flB q0 q1 q2 0) (t 1) q3))) (an1 (isF (flA q0 q1 q2 1) (t 2) q3) (isF (flB q0 q1 q2 1) (t 3) q3)))), (0, .ref q), (1, .ref r)] → W p l e (zRm 1 0 0) s m ([.ref q, .ref r] : List Value).toArray below meth c H locs (0) (0) (MQ below ((qi g (fun (_ : Unit) => (flEq q0 q1 q2 q3 t)) (fun (_ : Unit) => True) (fun (_ : Unit) => [[flw q q0 q1 q2 q3], (threeW g r x t)])) A) ([.ref q, .ref r] : List Value).toArray s 0 0 A) (F0 m 57 ls [vI (an1 (isF (flA q0 q1 q2 2) (t 4) q3) (isF (flB q0 q1 q2 2) (t 5) q3)), vI (an1 (an1 1 (an1 (isF (flA q0 q1 q2 0) (t 0) q3) (isF (flB q0 q1 q2 0) (t 1) q3))) (an1 (isF (flA q0 q1 q2 1) (t 2) q3) (isF (flB q0 q1 q2 1) (t 3) q3)))]) := by
        intro H locs ls hP hD hS hl
        refine z_iand01 hx hb (by omega) (by omega) dX0_isAs_57 ?_
        have ho_6 := an1_s (an1 (an1 1 (an1 (isF (flA q0 q1 q2 0) (t 0) q3) (isF (flB q0 q1 q2 0) (t 1) q3))) (an1 (isF (flA q0 q1 q2 1) (t 2) q3) (isF (flB q0 q1 q2 1) (t 3) q3))) (an1 (isF (flA q0 q1 q2 2) (t 4) q3) (isF (flB q0 q1 q2 2) (t 5) q3))
        refine lv_istore_n (lv' := [(2, vI (an1 (an1 (an1 1 (an1 (isF (flA q0 q1 q2 0) (t 0) q3) (isF (flB q0 q1 q2 0) (t 1) q3))) (an1 (isF (flA q0 q1 q2 1) (t 2) q3) (isF (flB q0 q1 q2 1) (t 3) q3))) (an1 (isF (flA q0 q1 q2 2) (t 4) q3) (isF (flB q0 q1 q2 2) (t 5) q3)))), (4, .ref (x 7)), (3, vI 2), (0, .ref q), (1, .ref r)]) hx hb dX0_isAs_58 rfl hl (by decide) rfl (fun ls hl => ?_)
        refine z_iinc hx hb 3 (lv' := [(3, vI 3), (2, vI (an1 (an1 (an1 1 (an1 (isF (flA q0 q1 q2 0) (t 0) q3) (isF (flB q0 q1 q2 0) (t 1) q3))) (an1 (isF (flA q0 q1 q2 1) (t 2) q3) (isF (flB q0 q1 q2 1) (t 3) q3))) (an1 (isF (flA q0 q1 q2 2) (t 4) q3) (isF (flB q0 q1 q2 2) (t 5) q3)))), (4, .ref (x 7)), (0, .ref q), (1, .ref r)]) dX0_isAs_59 hl (k := 2) rfl (rfl) (by decide) rfl (fun ls hl => ?_)
        refine lv_goto (tgt := 4) hx hb dX0_isAs_62 (by decide) ?_
        refine lv_iload_n hx hb dX0_isAs_4 rfl (lv_at hl 0 rfl) ?_
        refine z_iconst hx hb dX0_isAs_5 rfl ?_
        refine z_icmp_ge (tgt := 65) hx hb (by decide) (by decide) dX0_isAs_6 (by decide) (fun c7 => ?_) (fun c7 => absurd (by decide) c7)
        refine lv_iload_n hx hb dX0_isAs_65 rfl (lv_at hl 1 rfl) ?_
        have hP : zP g [[flw q q0 q1 q2 q3], (threeW g r x t)] H := hP
        have hD : zD A [[flw q q0 q1 q2 q3], (threeW g r x t)] := hD
        exact z_reti () [0, 1] hx hb hr (nar_z (by first | decide | omega)) hlocks hK hP hD hS (by unfold flEq; split <;> omega) trivial rfl rfl (rfl) (Nat.le_of_ble_eq_true rfl) (Nat.le_of_ble_eq_true rfl) dX0_isAs_66
      refine lv_aload_n hx hb dX0_isAs_18 rfl (lv_at hl 3 rfl) ?_
      refine lv_aload_n hx hb dX0_isAs_19 rfl (lv_at hl 3 rfl) ?_
      refine lv_iload_n hx hb dX0_isAs_20 rfl (lv_at hl 1 rfl) ?_
      refine z_cVl (As := [vI 2]) (rest := [.ref q, vI (an1 (an1 1 (an1 (isF (flA q0 q1 q2 0) (t 0) q3) (isF (flB q0 q1 q2 0) (t 1) q3))) (an1 (isF (flA q0 q1 q2 1) (t 2) q3) (isF (flB q0 q1 q2 1) (t 3) q3)))]) ⟨hx, hb, hml, hown, hts⟩ hK hP hD hS hA [0] [1, 2, 3, 4, 5, 6, 7, 8, 9, 10, 11] rfl rfl rfl (c_X0_a l g q q0 q1 q2 q3 2 (by first | assumption | omega | decide)) (cwV 1 hts gX0_isAs_X0_a rfl rfl rfl (by decide +kernel) ⟨Nat.le_of_ble_eq_true rfl, Nat.le_of_ble_eq_true rfl⟩) 0 0 rfl rfl rfl (fun _ _ _ _ _ _ => trivial) (fun _ _ _ => trivial) rfl hl.1 (Nat.le_of_ble_eq_true rfl) rfl dX0_isAs_21 ⟨Nat.le_of_ble_eq_true rfl, Nat.le_of_ble_eq_true rfl⟩ (fun u_8 H locs hwu_8 hP hD hS => ?_)
      try dsimp only at hwu_8
      have hP : zP g [[(r, .inr (8, [.ref (x 0)]))], [((x 0), .inl (g.2 3, 3, .inr (.inr (.inr (.inr (rA [(x 1), (x 4), (x 7)]))))))], [((x 1), .inr (4, [.ref (x 2), .ref (x 3)]))], [fr (x 2) (t 0)], [fr (x 3) (t 1)], [((x 4), .inr (4, [.ref (x 5), .ref (x 6)]))], [fr (x 5) (t 2)], [fr (x 6) (t 3)], [((x 7), .inr (4, [.ref (x 8), .ref (x 9)]))], [fr (x 8) (t 4)], [fr (x 9) (t 5)], [flw q q0 q1 q2 q3]] H := hP
      have hD : zD A [[(r, .inr (8, [.ref (x 0)]))], [((x 0), .inl (g.2 3, 3, .inr (.inr (.inr (.inr (rA [(x 1), (x 4), (x 7)]))))))], [((x 1), .inr (4, [.ref (x 2), .ref (x 3)]))], [fr (x 2) (t 0)], [fr (x 3) (t 1)], [((x 4), .inr (4, [.ref (x 5), .ref (x 6)]))], [fr (x 5) (t 2)], [fr (x 6) (t 3)], [((x 7), .inr (4, [.ref (x 8), .ref (x 9)]))], [fr (x 8) (t 4)], [fr (x 9) (t 5)], [flw q q0 q1 q2 q3]] := hD
      refine z_toL (flA q0 q1 q2 2) rfl ?_
      refine lv_aload hx hb dX0_isAs_24 (lv_at hl 0 rfl) ?_
      refine z_get hx hb hts hin4_ hown hK hP 8 rfl rfl 0 (by decide) (hts _ (List.mem_of_getElem? (i := 2) rfl)) rfl dX0_isAs_26 ?_
      refine z_cVi (As := [vL (flA q0 q1 q2 2), .ref (x 8)]) (rest := [vI (an1 (an1 1 (an1 (isF (flA q0 q1 q2 0) (t 0) q3) (isF (flB q0 q1 q2 0) (t 1) q3))) (an1 (isF (flA q0 q1 q2 1) (t 2) q3) (isF (flB q0 q1 q2 1) (t 3) q3)))]) ⟨hx, hb, hml, hown, hts⟩ hK hP hD hS hA [11, 9] [0, 1, 2, 3, 4, 5, 6, 7, 8, 10] rfl rfl rfl (c_X0_isFraction l g q q0 q1 q2 q3 (flA q0 q1 q2 2) (x 8) (t 4) (by have := flA_bd hb_ 2; have := flB_bd hb_ 2; omega) (ht _) hb_.2.2.2) (cwV 2 hts gX0_isAs_X0_isFraction rfl rfl rfl (by decide +kernel) ⟨Nat.le_of_ble_eq_true rfl, Nat.le_of_ble_eq_true rfl⟩) 0 0 rfl rfl rfl (fun _ _ _ _ _ _ => trivial) (fun _ _ _ => trivial) rfl hl.1 (Nat.le_of_ble_eq_true rfl) rfl dX0_isAs_29 ⟨Nat.le_of_ble_eq_true rfl, Nat.le_of_ble_eq_true rfl⟩ (fun u_9 H locs hwu_9 hP hD hS => ?_)
      try dsimp only at hwu_9
      have hP : zP g [[(r, .inr (8, [.ref (x 0)]))], [((x 0), .inl (g.2 3, 3, .inr (.inr (.inr (.inr (rA [(x 1), (x 4), (x 7)]))))))], [((x 1), .inr (4, [.ref (x 2), .ref (x 3)]))], [fr (x 2) (t 0)], [fr (x 3) (t 1)], [((x 4), .inr (4, [.ref (x 5), .ref (x 6)]))], [fr (x 5) (t 2)], [fr (x 6) (t 3)], [((x 7), .inr (4, [.ref (x 8), .ref (x 9)]))], [fr (x 9) (t 5)], [flw q q0 q1 q2 q3], [fr (x 8) (t 4)]] H := hP
      have hD : zD A [[(r, .inr (8, [.ref (x 0)]))], [((x 0), .inl (g.2 3, 3, .inr (.inr (.inr (.inr (rA [(x 1), (x 4), (x 7)]))))))], [((x 1), .inr (4, [.ref (x 2), .ref (x 3)]))], [fr (x 2) (t 0)], [fr (x 3) (t 1)], [((x 4), .inr (4, [.ref (x 5), .ref (x 6)]))], [fr (x 5) (t 2)], [fr (x 6) (t 3)], [((x 7), .inr (4, [.ref (x 8), .ref (x 9)]))], [fr (x 9) (t 5)], [flw q q0 q1 q2 q3], [fr (x 8) (t 4)]] := hD
      refine z_toI (isF (flA q0 q1 q2 2) (t 4) q3) rfl ?_
      refine z_if_eq (tgt := 56) hx hb (by omega) dX0_isAs_32 (by decide) (fun c10 => ?_) (fun c10 => ?_)
      · refine z_iconst hx hb dX0_isAs_56 rfl ?_
        refine z_toI (an1 (isF (flA q0 q1 q2 2) (t 4) q3) (isF (flB q0 q1 q2 2) (t 5) q3)) (by omega) ?_
        exact j57 _ _ _ (zP_sub hP [10, 0, 1, 2, 3, 4, 5, 6, 7, 8, 11, 9] rfl) (zD_sub hD [10, 0, 1, 2, 3, 4, 5, 6, 7, 8, 11, 9] rfl rfl) hS (lv_sub hl [0, 1, 2, 3, 4] rfl)
      · refine lv_aload_n hx hb dX0_isAs_35 rfl (lv_at hl 3 rfl) ?_
        refine lv_aload_n hx hb dX0_isAs_36 rfl (lv_at hl 3 rfl) ?_
        refine lv_iload_n hx hb dX0_isAs_37 rfl (lv_at hl 1 rfl) ?_
        refine z_cVl (As := [vI 2]) (rest := [.ref q, vI (an1 (an1 1 (an1 (isF (flA q0 q1 q2 0) (t 0) q3) (isF (flB q0 q1 q2 0) (t 1) q3))) (an1 (isF (flA q0 q1 q2 1) (t 2) q3) (isF (flB q0 q1 q2 1) (t 3) q3)))]) ⟨hx, hb, hml, hown, hts⟩ hK hP hD hS hA [10] [0, 1, 2, 3, 4, 5, 6, 7, 8, 9, 11] rfl rfl rfl (c_X0_b l g q q0 q1 q2 q3 2 (by first | assumption | omega | decide)) (cwV 1 hts gX0_isAs_X0_b rfl rfl rfl (by decide +kernel) ⟨Nat.le_of_ble_eq_true rfl, Nat.le_of_ble_eq_true rfl⟩) 0 0 rfl rfl rfl (fun _ _ _ _ _ _ => trivial) (fun _ _ _ => trivial) rfl hl.1 (Nat.le_of_ble_eq_true rfl) rfl dX0_isAs_38 ⟨Nat.le_of_ble_eq_true rfl, Nat.le_of_ble_eq_true rfl⟩ (fun u_11 H locs hwu_11 hP hD hS => ?_)
        try dsimp only at hwu_11
        have hP : zP g [[(r, .inr (8, [.ref (x 0)]))], [((x 0), .inl (g.2 3, 3, .inr (.inr (.inr (.inr (rA [(x 1), (x 4), (x 7)]))))))], [((x 1), .inr (4, [.ref (x 2), .ref (x 3)]))], [fr (x 2) (t 0)], [fr (x 3) (t 1)], [((x 4), .inr (4, [.ref (x 5), .ref (x 6)]))], [fr (x 5) (t 2)], [fr (x 6) (t 3)], [((x 7), .inr (4, [.ref (x 8), .ref (x 9)]))], [fr (x 9) (t 5)], [fr (x 8) (t 4)], [flw q q0 q1 q2 q3]] H := hP
        have hD : zD A [[(r, .inr (8, [.ref (x 0)]))], [((x 0), .inl (g.2 3, 3, .inr (.inr (.inr (.inr (rA [(x 1), (x 4), (x 7)]))))))], [((x 1), .inr (4, [.ref (x 2), .ref (x 3)]))], [fr (x 2) (t 0)], [fr (x 3) (t 1)], [((x 4), .inr (4, [.ref (x 5), .ref (x 6)]))], [fr (x 5) (t 2)], [fr (x 6) (t 3)], [((x 7), .inr (4, [.ref (x 8), .ref (x 9)]))], [fr (x 9) (t 5)], [fr (x 8) (t 4)], [flw q q0 q1 q2 q3]] := hD
        refine z_toL (flB q0 q1 q2 2) rfl ?_
        refine lv_aload hx hb dX0_isAs_41 (lv_at hl 0 rfl) ?_
        refine z_get hx hb hts hin4_ hown hK hP 8 rfl rfl 1 (by decide) (hts _ (List.mem_of_getElem? (i := 3) rfl)) rfl dX0_isAs_43 ?_
        refine z_cVi (As := [vL (flB q0 q1 q2 2), .ref (x 9)]) (rest := [vI (an1 (an1 1 (an1 (isF (flA q0 q1 q2 0) (t 0) q3) (isF (flB q0 q1 q2 0) (t 1) q3))) (an1 (isF (flA q0 q1 q2 1) (t 2) q3) (isF (flB q0 q1 q2 1) (t 3) q3)))]) ⟨hx, hb, hml, hown, hts⟩ hK hP hD hS hA [11, 9] [0, 1, 2, 3, 4, 5, 6, 7, 8, 10] rfl rfl rfl (c_X0_isFraction l g q q0 q1 q2 q3 (flB q0 q1 q2 2) (x 9) (t 5) (by have := flA_bd hb_ 2; have := flB_bd hb_ 2; omega) (ht _) hb_.2.2.2) (cwV 2 hts gX0_isAs_X0_isFraction rfl rfl rfl (by decide +kernel) ⟨Nat.le_of_ble_eq_true rfl, Nat.le_of_ble_eq_true rfl⟩) 0 0 rfl rfl rfl (fun _ _ _ _ _ _ => trivial) (fun _ _ _ => trivial) rfl hl.1 (Nat.le_of_ble_eq_true rfl) rfl dX0_isAs_46 ⟨Nat.le_of_ble_eq_true rfl, Nat.le_of_ble_eq_true rfl⟩ (fun u_12 H locs hwu_12 hP hD hS => ?_)
        try dsimp only at hwu_12
        have hP : zP g [[(r, .inr (8, [.ref (x 0)]))], [((x 0), .inl (g.2 3, 3, .inr (.inr (.inr (.inr (rA [(x 1), (x 4), (x 7)]))))))], [((x 1), .inr (4, [.ref (x 2), .ref (x 3)]))], [fr (x 2) (t 0)], [fr (x 3) (t 1)], [((x 4), .inr (4, [.ref (x 5), .ref (x 6)]))], [fr (x 5) (t 2)], [fr (x 6) (t 3)], [((x 7), .inr (4, [.ref (x 8), .ref (x 9)]))], [fr (x 8) (t 4)], [flw q q0 q1 q2 q3], [fr (x 9) (t 5)]] H := hP
        have hD : zD A [[(r, .inr (8, [.ref (x 0)]))], [((x 0), .inl (g.2 3, 3, .inr (.inr (.inr (.inr (rA [(x 1), (x 4), (x 7)]))))))], [((x 1), .inr (4, [.ref (x 2), .ref (x 3)]))], [fr (x 2) (t 0)], [fr (x 3) (t 1)], [((x 4), .inr (4, [.ref (x 5), .ref (x 6)]))], [fr (x 5) (t 2)], [fr (x 6) (t 3)], [((x 7), .inr (4, [.ref (x 8), .ref (x 9)]))], [fr (x 8) (t 4)], [flw q q0 q1 q2 q3], [fr (x 9) (t 5)]] := hD
        refine z_toI (isF (flB q0 q1 q2 2) (t 5) q3) rfl ?_
        refine z_if_eq (tgt := 56) hx hb (by omega) dX0_isAs_49 (by decide) (fun c13 => ?_) (fun c13 => ?_)
        · refine z_iconst hx hb dX0_isAs_56 rfl ?_
          refine z_toI (an1 (isF (flA q0 q1 q2 2) (t 4) q3) (isF (flB q0 q1 q2 2) (t 5) q3)) (by omega) ?_
          exact j57 _ _ _ (zP_sub hP [10, 0, 1, 2, 3, 4, 5, 6, 7, 8, 9, 11] rfl) (zD_sub hD [10, 0, 1, 2, 3, 4, 5, 6, 7, 8, 9, 11] rfl rfl) hS (lv_sub hl [0, 1, 2, 3, 4] rfl)
        · refine z_iconst hx hb dX0_isAs_52 rfl ?_
          refine lv_goto (tgt := 57) hx hb dX0_isAs_53 (by decide) ?_
          refine z_toI (an1 (isF (flA q0 q1 q2 2) (t 4) q3) (isF (flB q0 q1 q2 2) (t 5) q3)) (by omega) ?_
          exact j57 _ _ _ (zP_sub hP [10, 0, 1, 2, 3, 4, 5, 6, 7, 8, 9, 11] rfl) (zD_sub hD [10, 0, 1, 2, 3, 4, 5, 6, 7, 8, 9, 11] rfl rfl) hS (lv_sub hl [0, 1, 2, 3, 4] rfl)
    refine lv_aload_n hx hb dX0_isAs_18 rfl (lv_at hl 3 rfl) ?_
    refine lv_aload_n hx hb dX0_isAs_19 rfl (lv_at hl 3 rfl) ?_
    refine lv_iload_n hx hb dX0_isAs_20 rfl (lv_at hl 1 rfl) ?_
    refine z_cVl (As := [vI 1]) (rest := [.ref q, vI (an1 1 (an1 (isF (flA q0 q1 q2 0) (t 0) q3) (isF (flB q0 q1 q2 0) (t 1) q3)))]) ⟨hx, hb, hml, hown, hts⟩ hK hP hD hS hA [0] [1, 2, 3, 4, 5, 6, 7, 8, 9, 10, 11] rfl rfl rfl (c_X0_a l g q q0 q1 q2 q3 1 (by first | assumption | omega | decide)) (cwV 1 hts gX0_isAs_X0_a rfl rfl rfl (by decide +kernel) ⟨Nat.le_of_ble_eq_true rfl, Nat.le_of_ble_eq_true rfl⟩) 0 0 rfl rfl rfl (fun _ _ _ _ _ _ => trivial) (fun _ _ _ => trivial) rfl hl.1 (Nat.le_of_ble_eq_true rfl) rfl dX0_isAs_21 ⟨Nat.le_of_ble_eq_true rfl, Nat.le_of_ble_eq_true rfl⟩ (fun u_14 H locs hwu_14 hP hD hS => ?_)
    try dsimp only at hwu_14
    have hP : zP g [[(r, .inr (8, [.ref (x 0)]))], [((x 0), .inl (g.2 3, 3, .inr (.inr (.inr (.inr (rA [(x 1), (x 4), (x 7)]))))))], [((x 1), .inr (4, [.ref (x 2), .ref (x 3)]))], [fr (x 2) (t 0)], [fr (x 3) (t 1)], [((x 4), .inr (4, [.ref (x 5), .ref (x 6)]))], [fr (x 5) (t 2)], [fr (x 6) (t 3)], [((x 7), .inr (4, [.ref (x 8), .ref (x 9)]))], [fr (x 8) (t 4)], [fr (x 9) (t 5)], [flw q q0 q1 q2 q3]] H := hP
    have hD : zD A [[(r, .inr (8, [.ref (x 0)]))], [((x 0), .inl (g.2 3, 3, .inr (.inr (.inr (.inr (rA [(x 1), (x 4), (x 7)]))))))], [((x 1), .inr (4, [.ref (x 2), .ref (x 3)]))], [fr (x 2) (t 0)], [fr (x 3) (t 1)], [((x 4), .inr (4, [.ref (x 5), .ref (x 6)]))], [fr (x 5) (t 2)], [fr (x 6) (t 3)], [((x 7), .inr (4, [.ref (x 8), .ref (x 9)]))], [fr (x 8) (t 4)], [fr (x 9) (t 5)], [flw q q0 q1 q2 q3]] := hD
    refine z_toL (flA q0 q1 q2 1) rfl ?_
    refine lv_aload hx hb dX0_isAs_24 (lv_at hl 0 rfl) ?_
    refine z_get hx hb hts hin4_ hown hK hP 5 rfl rfl 0 (by decide) (hts _ (List.mem_of_getElem? (i := 2) rfl)) rfl dX0_isAs_26 ?_
    refine z_cVi (As := [vL (flA q0 q1 q2 1), .ref (x 5)]) (rest := [vI (an1 1 (an1 (isF (flA q0 q1 q2 0) (t 0) q3) (isF (flB q0 q1 q2 0) (t 1) q3)))]) ⟨hx, hb, hml, hown, hts⟩ hK hP hD hS hA [11, 6] [0, 1, 2, 3, 4, 5, 7, 8, 9, 10] rfl rfl rfl (c_X0_isFraction l g q q0 q1 q2 q3 (flA q0 q1 q2 1) (x 5) (t 2) (by have := flA_bd hb_ 1; have := flB_bd hb_ 1; omega) (ht _) hb_.2.2.2) (cwV 2 hts gX0_isAs_X0_isFraction rfl rfl rfl (by decide +kernel) ⟨Nat.le_of_ble_eq_true rfl, Nat.le_of_ble_eq_true rfl⟩) 0 0 rfl rfl rfl (fun _ _ _ _ _ _ => trivial) (fun _ _ _ => trivial) rfl hl.1 (Nat.le_of_ble_eq_true rfl) rfl dX0_isAs_29 ⟨Nat.le_of_ble_eq_true rfl, Nat.le_of_ble_eq_true rfl⟩ (fun u_15 H locs hwu_15 hP hD hS => ?_)
    try dsimp only at hwu_15
    have hP : zP g [[(r, .inr (8, [.ref (x 0)]))], [((x 0), .inl (g.2 3, 3, .inr (.inr (.inr (.inr (rA [(x 1), (x 4), (x 7)]))))))], [((x 1), .inr (4, [.ref (x 2), .ref (x 3)]))], [fr (x 2) (t 0)], [fr (x 3) (t 1)], [((x 4), .inr (4, [.ref (x 5), .ref (x 6)]))], [fr (x 6) (t 3)], [((x 7), .inr (4, [.ref (x 8), .ref (x 9)]))], [fr (x 8) (t 4)], [fr (x 9) (t 5)], [flw q q0 q1 q2 q3], [fr (x 5) (t 2)]] H := hP
    have hD : zD A [[(r, .inr (8, [.ref (x 0)]))], [((x 0), .inl (g.2 3, 3, .inr (.inr (.inr (.inr (rA [(x 1), (x 4), (x 7)]))))))], [((x 1), .inr (4, [.ref (x 2), .ref (x 3)]))], [fr (x 2) (t 0)], [fr (x 3) (t 1)], [((x 4), .inr (4, [.ref (x 5), .ref (x 6)]))], [fr (x 6) (t 3)], [((x 7), .inr (4, [.ref (x 8), .ref (x 9)]))], [fr (x 8) (t 4)], [fr (x 9) (t 5)], [flw q q0 q1 q2 q3], [fr (x 5) (t 2)]] := hD
    refine z_toI (isF (flA q0 q1 q2 1) (t 2) q3) rfl ?_
    refine z_if_eq (tgt := 56) hx hb (by omega) dX0_isAs_32 (by decide) (fun c16 => ?_) (fun c16 => ?_)
    · refine z_iconst hx hb dX0_isAs_56 rfl ?_
      refine z_toI (an1 (isF (flA q0 q1 q2 1) (t 2) q3) (isF (flB q0 q1 q2 1) (t 3) q3)) (by omega) ?_
      exact j57 _ _ _ (zP_sub hP [10, 0, 1, 2, 3, 4, 5, 11, 6, 7, 8, 9] rfl) (zD_sub hD [10, 0, 1, 2, 3, 4, 5, 11, 6, 7, 8, 9] rfl rfl) hS (lv_sub hl [0, 1, 2, 3, 4] rfl)
    · refine lv_aload_n hx hb dX0_isAs_35 rfl (lv_at hl 3 rfl) ?_
      refine lv_aload_n hx hb dX0_isAs_36 rfl (lv_at hl 3 rfl) ?_
      refine lv_iload_n hx hb dX0_isAs_37 rfl (lv_at hl 1 rfl) ?_
      refine z_cVl (As := [vI 1]) (rest := [.ref q, vI (an1 1 (an1 (isF (flA q0 q1 q2 0) (t 0) q3) (isF (flB q0 q1 q2 0) (t 1) q3)))]) ⟨hx, hb, hml, hown, hts⟩ hK hP hD hS hA [10] [0, 1, 2, 3, 4, 5, 6, 7, 8, 9, 11] rfl rfl rfl (c_X0_b l g q q0 q1 q2 q3 1 (by first | assumption | omega | decide)) (cwV 1 hts gX0_isAs_X0_b rfl rfl rfl (by decide +kernel) ⟨Nat.le_of_ble_eq_true rfl, Nat.le_of_ble_eq_true rfl⟩) 0 0 rfl rfl rfl (fun _ _ _ _ _ _ => trivial) (fun _ _ _ => trivial) rfl hl.1 (Nat.le_of_ble_eq_true rfl) rfl dX0_isAs_38 ⟨Nat.le_of_ble_eq_true rfl, Nat.le_of_ble_eq_true rfl⟩ (fun u_17 H locs hwu_17 hP hD hS => ?_)
      try dsimp only at hwu_17
      have hP : zP g [[(r, .inr (8, [.ref (x 0)]))], [((x 0), .inl (g.2 3, 3, .inr (.inr (.inr (.inr (rA [(x 1), (x 4), (x 7)]))))))], [((x 1), .inr (4, [.ref (x 2), .ref (x 3)]))], [fr (x 2) (t 0)], [fr (x 3) (t 1)], [((x 4), .inr (4, [.ref (x 5), .ref (x 6)]))], [fr (x 6) (t 3)], [((x 7), .inr (4, [.ref (x 8), .ref (x 9)]))], [fr (x 8) (t 4)], [fr (x 9) (t 5)], [fr (x 5) (t 2)], [flw q q0 q1 q2 q3]] H := hP
      have hD : zD A [[(r, .inr (8, [.ref (x 0)]))], [((x 0), .inl (g.2 3, 3, .inr (.inr (.inr (.inr (rA [(x 1), (x 4), (x 7)]))))))], [((x 1), .inr (4, [.ref (x 2), .ref (x 3)]))], [fr (x 2) (t 0)], [fr (x 3) (t 1)], [((x 4), .inr (4, [.ref (x 5), .ref (x 6)]))], [fr (x 6) (t 3)], [((x 7), .inr (4, [.ref (x 8), .ref (x 9)]))], [fr (x 8) (t 4)], [fr (x 9) (t 5)], [fr (x 5) (t 2)], [flw q q0 q1 q2 q3]] := hD
      refine z_toL (flB q0 q1 q2 1) rfl ?_
      refine lv_aload hx hb dX0_isAs_41 (lv_at hl 0 rfl) ?_
      refine z_get hx hb hts hin4_ hown hK hP 5 rfl rfl 1 (by decide) (hts _ (List.mem_of_getElem? (i := 3) rfl)) rfl dX0_isAs_43 ?_
      refine z_cVi (As := [vL (flB q0 q1 q2 1), .ref (x 6)]) (rest := [vI (an1 1 (an1 (isF (flA q0 q1 q2 0) (t 0) q3) (isF (flB q0 q1 q2 0) (t 1) q3)))]) ⟨hx, hb, hml, hown, hts⟩ hK hP hD hS hA [11, 6] [0, 1, 2, 3, 4, 5, 7, 8, 9, 10] rfl rfl rfl (c_X0_isFraction l g q q0 q1 q2 q3 (flB q0 q1 q2 1) (x 6) (t 3) (by have := flA_bd hb_ 1; have := flB_bd hb_ 1; omega) (ht _) hb_.2.2.2) (cwV 2 hts gX0_isAs_X0_isFraction rfl rfl rfl (by decide +kernel) ⟨Nat.le_of_ble_eq_true rfl, Nat.le_of_ble_eq_true rfl⟩) 0 0 rfl rfl rfl (fun _ _ _ _ _ _ => trivial) (fun _ _ _ => trivial) rfl hl.1 (Nat.le_of_ble_eq_true rfl) rfl dX0_isAs_46 ⟨Nat.le_of_ble_eq_true rfl, Nat.le_of_ble_eq_true rfl⟩ (fun u_18 H locs hwu_18 hP hD hS => ?_)
      try dsimp only at hwu_18
      have hP : zP g [[(r, .inr (8, [.ref (x 0)]))], [((x 0), .inl (g.2 3, 3, .inr (.inr (.inr (.inr (rA [(x 1), (x 4), (x 7)]))))))], [((x 1), .inr (4, [.ref (x 2), .ref (x 3)]))], [fr (x 2) (t 0)], [fr (x 3) (t 1)], [((x 4), .inr (4, [.ref (x 5), .ref (x 6)]))], [((x 7), .inr (4, [.ref (x 8), .ref (x 9)]))], [fr (x 8) (t 4)], [fr (x 9) (t 5)], [fr (x 5) (t 2)], [flw q q0 q1 q2 q3], [fr (x 6) (t 3)]] H := hP
      have hD : zD A [[(r, .inr (8, [.ref (x 0)]))], [((x 0), .inl (g.2 3, 3, .inr (.inr (.inr (.inr (rA [(x 1), (x 4), (x 7)]))))))], [((x 1), .inr (4, [.ref (x 2), .ref (x 3)]))], [fr (x 2) (t 0)], [fr (x 3) (t 1)], [((x 4), .inr (4, [.ref (x 5), .ref (x 6)]))], [((x 7), .inr (4, [.ref (x 8), .ref (x 9)]))], [fr (x 8) (t 4)], [fr (x 9) (t 5)], [fr (x 5) (t 2)], [flw q q0 q1 q2 q3], [fr (x 6) (t 3)]] := hD
      refine z_toI (isF (flB q0 q1 q2 1) (t 3) q3) rfl ?_
      refine z_if_eq (tgt := 56) hx hb (by omega) dX0_isAs_49 (by decide) (fun c19 => ?_) (fun c19 => ?_)
      · refine z_iconst hx hb dX0_isAs_56 rfl ?_
        refine z_toI (an1 (isF (flA q0 q1 q2 1) (t 2) q3) (isF (flB q0 q1 q2 1) (t 3) q3)) (by omega) ?_
        exact j57 _ _ _ (zP_sub hP [10, 0, 1, 2, 3, 4, 5, 9, 11, 6, 7, 8] rfl) (zD_sub hD [10, 0, 1, 2, 3, 4, 5, 9, 11, 6, 7, 8] rfl rfl) hS (lv_sub hl [0, 1, 2, 3, 4] rfl)
      · refine z_iconst hx hb dX0_isAs_52 rfl ?_
        refine lv_goto (tgt := 57) hx hb dX0_isAs_53 (by decide) ?_
        refine z_toI (an1 (isF (flA q0 q1 q2 1) (t 2) q3) (isF (flB q0 q1 q2 1) (t 3) q3)) (by omega) ?_
        exact j57 _ _ _ (zP_sub hP [10, 0, 1, 2, 3, 4, 5, 9, 11, 6, 7, 8] rfl) (zD_sub hD [10, 0, 1, 2, 3, 4, 5, 9, 11, 6, 7, 8] rfl rfl) hS (lv_sub hl [0, 1, 2, 3, 4] rfl)
  refine lv_aload_n hx hb dX0_isAs_18 rfl (lv_at hl 3 rfl) ?_
  refine lv_aload_n hx hb dX0_isAs_19 rfl (lv_at hl 3 rfl) ?_
  refine lv_iload_n hx hb dX0_isAs_20 rfl (lv_at hl 1 rfl) ?_
  refine z_cVl (As := [vI 0]) (rest := [.ref q, vI 1]) ⟨hx, hb, hml, hown, hts⟩ hK hP hD hS hA [0] [1, 2, 3, 4, 5, 6, 7, 8, 9, 10, 11] rfl rfl rfl (c_X0_a l g q q0 q1 q2 q3 0 (by first | assumption | omega | decide)) (cwV 1 hts gX0_isAs_X0_a rfl rfl rfl (by decide +kernel) ⟨Nat.le_of_ble_eq_true rfl, Nat.le_of_ble_eq_true rfl⟩) 0 0 rfl rfl rfl (fun _ _ _ _ _ _ => trivial) (fun _ _ _ => trivial) rfl hl.1 (Nat.le_of_ble_eq_true rfl) rfl dX0_isAs_21 ⟨Nat.le_of_ble_eq_true rfl, Nat.le_of_ble_eq_true rfl⟩ (fun u_20 H locs hwu_20 hP hD hS => ?_)
  try dsimp only at hwu_20
  have hP : zP g [[(r, .inr (8, [.ref (x 0)]))], [((x 0), .inl (g.2 3, 3, .inr (.inr (.inr (.inr (rA [(x 1), (x 4), (x 7)]))))))], [((x 1), .inr (4, [.ref (x 2), .ref (x 3)]))], [fr (x 2) (t 0)], [fr (x 3) (t 1)], [((x 4), .inr (4, [.ref (x 5), .ref (x 6)]))], [fr (x 5) (t 2)], [fr (x 6) (t 3)], [((x 7), .inr (4, [.ref (x 8), .ref (x 9)]))], [fr (x 8) (t 4)], [fr (x 9) (t 5)], [flw q q0 q1 q2 q3]] H := hP
  have hD : zD A [[(r, .inr (8, [.ref (x 0)]))], [((x 0), .inl (g.2 3, 3, .inr (.inr (.inr (.inr (rA [(x 1), (x 4), (x 7)]))))))], [((x 1), .inr (4, [.ref (x 2), .ref (x 3)]))], [fr (x 2) (t 0)], [fr (x 3) (t 1)], [((x 4), .inr (4, [.ref (x 5), .ref (x 6)]))], [fr (x 5) (t 2)], [fr (x 6) (t 3)], [((x 7), .inr (4, [.ref (x 8), .ref (x 9)]))], [fr (x 8) (t 4)], [fr (x 9) (t 5)], [flw q q0 q1 q2 q3]] := hD
  refine z_toL (flA q0 q1 q2 0) rfl ?_
  refine lv_aload hx hb dX0_isAs_24 (lv_at hl 0 rfl) ?_
  refine z_get hx hb hts hin4_ hown hK hP 2 rfl rfl 0 (by decide) (hts _ (List.mem_of_getElem? (i := 2) rfl)) rfl dX0_isAs_26 ?_
  refine z_cVi (As := [vL (flA q0 q1 q2 0), .ref (x 2)]) (rest := [vI 1]) ⟨hx, hb, hml, hown, hts⟩ hK hP hD hS hA [11, 3] [0, 1, 2, 4, 5, 6, 7, 8, 9, 10] rfl rfl rfl (c_X0_isFraction l g q q0 q1 q2 q3 (flA q0 q1 q2 0) (x 2) (t 0) (by have := flA_bd hb_ 0; have := flB_bd hb_ 0; omega) (ht _) hb_.2.2.2) (cwV 2 hts gX0_isAs_X0_isFraction rfl rfl rfl (by decide +kernel) ⟨Nat.le_of_ble_eq_true rfl, Nat.le_of_ble_eq_true rfl⟩) 0 0 rfl rfl rfl (fun _ _ _ _ _ _ => trivial) (fun _ _ _ => trivial) rfl hl.1 (Nat.le_of_ble_eq_true rfl) rfl dX0_isAs_29 ⟨Nat.le_of_ble_eq_true rfl, Nat.le_of_ble_eq_true rfl⟩ (fun u_21 H locs hwu_21 hP hD hS => ?_)
  try dsimp only at hwu_21
  have hP : zP g [[(r, .inr (8, [.ref (x 0)]))], [((x 0), .inl (g.2 3, 3, .inr (.inr (.inr (.inr (rA [(x 1), (x 4), (x 7)]))))))], [((x 1), .inr (4, [.ref (x 2), .ref (x 3)]))], [fr (x 3) (t 1)], [((x 4), .inr (4, [.ref (x 5), .ref (x 6)]))], [fr (x 5) (t 2)], [fr (x 6) (t 3)], [((x 7), .inr (4, [.ref (x 8), .ref (x 9)]))], [fr (x 8) (t 4)], [fr (x 9) (t 5)], [flw q q0 q1 q2 q3], [fr (x 2) (t 0)]] H := hP
  have hD : zD A [[(r, .inr (8, [.ref (x 0)]))], [((x 0), .inl (g.2 3, 3, .inr (.inr (.inr (.inr (rA [(x 1), (x 4), (x 7)]))))))], [((x 1), .inr (4, [.ref (x 2), .ref (x 3)]))], [fr (x 3) (t 1)], [((x 4), .inr (4, [.ref (x 5), .ref (x 6)]))], [fr (x 5) (t 2)], [fr (x 6) (t 3)], [((x 7), .inr (4, [.ref (x 8), .ref (x 9)]))], [fr (x 8) (t 4)], [fr (x 9) (t 5)], [flw q q0 q1 q2 q3], [fr (x 2) (t 0)]] := hD
  refine z_toI (isF (flA q0 q1 q2 0) (t 0) q3) rfl ?_
  refine z_if_eq (tgt := 56) hx hb (by omega) dX0_isAs_32 (by decide) (fun c22 => ?_) (fun c22 => ?_)
  · refine z_iconst hx hb dX0_isAs_56 rfl ?_
    refine z_toI (an1 (isF (flA q0 q1 q2 0) (t 0) q3) (isF (flB q0 q1 q2 0) (t 1) q3)) (by omega) ?_
    exact j57 _ _ _ (zP_sub hP [10, 0, 1, 2, 11, 3, 4, 5, 6, 7, 8, 9] rfl) (zD_sub hD [10, 0, 1, 2, 11, 3, 4, 5, 6, 7, 8, 9] rfl rfl) hS (lv_sub hl [0, 1, 2, 3, 4] rfl)
  · refine lv_aload_n hx hb dX0_isAs_35 rfl (lv_at hl 3 rfl) ?_
    refine lv_aload_n hx hb dX0_isAs_36 rfl (lv_at hl 3 rfl) ?_
    refine lv_iload_n hx hb dX0_isAs_37 rfl (lv_at hl 1 rfl) ?_
    refine z_cVl (As := [vI 0]) (rest := [.ref q, vI 1]) ⟨hx, hb, hml, hown, hts⟩ hK hP hD hS hA [10] [0, 1, 2, 3, 4, 5, 6, 7, 8, 9, 11] rfl rfl rfl (c_X0_b l g q q0 q1 q2 q3 0 (by first | assumption | omega | decide)) (cwV 1 hts gX0_isAs_X0_b rfl rfl rfl (by decide +kernel) ⟨Nat.le_of_ble_eq_true rfl, Nat.le_of_ble_eq_true rfl⟩) 0 0 rfl rfl rfl (fun _ _ _ _ _ _ => trivial) (fun _ _ _ => trivial) rfl hl.1 (Nat.le_of_ble_eq_true rfl) rfl dX0_isAs_38 ⟨Nat.le_of_ble_eq_true rfl, Nat.le_of_ble_eq_true rfl⟩ (fun u_23 H locs hwu_23 hP hD hS => ?_)
    try dsimp only at hwu_23
    have hP : zP g [[(r, .inr (8, [.ref (x 0)]))], [((x 0), .inl (g.2 3, 3, .inr (.inr (.inr (.inr (rA [(x 1), (x 4), (x 7)]))))))], [((x 1), .inr (4, [.ref (x 2), .ref (x 3)]))], [fr (x 3) (t 1)], [((x 4), .inr (4, [.ref (x 5), .ref (x 6)]))], [fr (x 5) (t 2)], [fr (x 6) (t 3)], [((x 7), .inr (4, [.ref (x 8), .ref (x 9)]))], [fr (x 8) (t 4)], [fr (x 9) (t 5)], [fr (x 2) (t 0)], [flw q q0 q1 q2 q3]] H := hP
    have hD : zD A [[(r, .inr (8, [.ref (x 0)]))], [((x 0), .inl (g.2 3, 3, .inr (.inr (.inr (.inr (rA [(x 1), (x 4), (x 7)]))))))], [((x 1), .inr (4, [.ref (x 2), .ref (x 3)]))], [fr (x 3) (t 1)], [((x 4), .inr (4, [.ref (x 5), .ref (x 6)]))], [fr (x 5) (t 2)], [fr (x 6) (t 3)], [((x 7), .inr (4, [.ref (x 8), .ref (x 9)]))], [fr (x 8) (t 4)], [fr (x 9) (t 5)], [fr (x 2) (t 0)], [flw q q0 q1 q2 q3]] := hD
    refine z_toL (flB q0 q1 q2 0) rfl ?_
    refine lv_aload hx hb dX0_isAs_41 (lv_at hl 0 rfl) ?_
    refine z_get hx hb hts hin4_ hown hK hP 2 rfl rfl 1 (by decide) (hts _ (List.mem_of_getElem? (i := 3) rfl)) rfl dX0_isAs_43 ?_
    refine z_cVi (As := [vL (flB q0 q1 q2 0), .ref (x 3)]) (rest := [vI 1]) ⟨hx, hb, hml, hown, hts⟩ hK hP hD hS hA [11, 3] [0, 1, 2, 4, 5, 6, 7, 8, 9, 10] rfl rfl rfl (c_X0_isFraction l g q q0 q1 q2 q3 (flB q0 q1 q2 0) (x 3) (t 1) (by have := flA_bd hb_ 0; have := flB_bd hb_ 0; omega) (ht _) hb_.2.2.2) (cwV 2 hts gX0_isAs_X0_isFraction rfl rfl rfl (by decide +kernel) ⟨Nat.le_of_ble_eq_true rfl, Nat.le_of_ble_eq_true rfl⟩) 0 0 rfl rfl rfl (fun _ _ _ _ _ _ => trivial) (fun _ _ _ => trivial) rfl hl.1 (Nat.le_of_ble_eq_true rfl) rfl dX0_isAs_46 ⟨Nat.le_of_ble_eq_true rfl, Nat.le_of_ble_eq_true rfl⟩ (fun u_24 H locs hwu_24 hP hD hS => ?_)
    try dsimp only at hwu_24
    have hP : zP g [[(r, .inr (8, [.ref (x 0)]))], [((x 0), .inl (g.2 3, 3, .inr (.inr (.inr (.inr (rA [(x 1), (x 4), (x 7)]))))))], [((x 1), .inr (4, [.ref (x 2), .ref (x 3)]))], [((x 4), .inr (4, [.ref (x 5), .ref (x 6)]))], [fr (x 5) (t 2)], [fr (x 6) (t 3)], [((x 7), .inr (4, [.ref (x 8), .ref (x 9)]))], [fr (x 8) (t 4)], [fr (x 9) (t 5)], [fr (x 2) (t 0)], [flw q q0 q1 q2 q3], [fr (x 3) (t 1)]] H := hP
    have hD : zD A [[(r, .inr (8, [.ref (x 0)]))], [((x 0), .inl (g.2 3, 3, .inr (.inr (.inr (.inr (rA [(x 1), (x 4), (x 7)]))))))], [((x 1), .inr (4, [.ref (x 2), .ref (x 3)]))], [((x 4), .inr (4, [.ref (x 5), .ref (x 6)]))], [fr (x 5) (t 2)], [fr (x 6) (t 3)], [((x 7), .inr (4, [.ref (x 8), .ref (x 9)]))], [fr (x 8) (t 4)], [fr (x 9) (t 5)], [fr (x 2) (t 0)], [flw q q0 q1 q2 q3], [fr (x 3) (t 1)]] := hD
    refine z_toI (isF (flB q0 q1 q2 0) (t 1) q3) rfl ?_
    refine z_if_eq (tgt := 56) hx hb (by omega) dX0_isAs_49 (by decide) (fun c25 => ?_) (fun c25 => ?_)
    · refine z_iconst hx hb dX0_isAs_56 rfl ?_
      refine z_toI (an1 (isF (flA q0 q1 q2 0) (t 0) q3) (isF (flB q0 q1 q2 0) (t 1) q3)) (by omega) ?_
      exact j57 _ _ _ (zP_sub hP [10, 0, 1, 2, 9, 11, 3, 4, 5, 6, 7, 8] rfl) (zD_sub hD [10, 0, 1, 2, 9, 11, 3, 4, 5, 6, 7, 8] rfl rfl) hS (lv_sub hl [0, 1, 2, 3, 4] rfl)
    · refine z_iconst hx hb dX0_isAs_52 rfl ?_
      refine lv_goto (tgt := 57) hx hb dX0_isAs_53 (by decide) ?_
      refine z_toI (an1 (isF (flA q0 q1 q2 0) (t 0) q3) (isF (flB q0 q1 q2 0) (t 1) q3)) (by omega) ?_
      exact j57 _ _ _ (zP_sub hP [10, 0, 1, 2, 9, 11, 3, 4, 5, 6, 7, 8] rfl) (zD_sub hD [10, 0, 1, 2, 9, 11, 3, 4, 5, 6, 7, 8] rfl rfl) hS (lv_sub hl [0, 1, 2, 3, 4] rfl)

set_option maxHeartbeats 4000000 in
set_option maxRecDepth 100000 in
theorem c_X0_tellFraction (l : Launch) (g : zG) (a : Int) (b : Int) (i : Int) (ha : -9223372036854775808 < a ∧ a < 9223372036854775808) (hb_ : 1 ≤ b ∧ b < 9223372036854775808) (hi : -2147483648 ≤ i ∧ i < 2147483648) : zMet l g yX0_tellFraction wsX0_tellFraction 1 0 0 [vL a, vL b, vI i] zX0 [] (ql g (fun (_ : Unit) => (tlF a b i)) (fun (_ : Unit) => True) (fun (_ : Unit) => [])) := by
  have hg := gd_pos a b
  have hg2 := gd_le (x := a) hb_.1
  refine z_ent (cc := cX0_tellFraction) (maxL := 7) (ret := (some .long)) (by decide) rfl (Nat.le_of_ble_eq_true rfl) ?_
  intro p e s m below meth c A ls hx hb hr hml hown hts hlocks hin0 hA hK hP hD hS hXX hl
  have hown : s.vm.findClass RX0 = some m.cls := hown
  have hl : lv_has ls 7 [(0, vL a), (2, vL b), (4, vI i)] := hl
  refine lv_lload_n hx hb dX0_tellFraction_0 rfl (lv_at hl 0 rfl) ?_
  refine lv_lload_n hx hb dX0_tellFraction_1 rfl (lv_at hl 1 rfl) ?_
  refine z_cSl (As := [vL a, vL b]) (rest := []) ⟨hx, hb, hml, hown, hts⟩ hK hP hD hS hA [] [] rfl rfl rfl (c_X1_divisorOf l g a b (by first | assumption | omega | decide) (by first | assumption | omega | decide)) (va_cwS 2 hts gX0_tellFraction_X1_divisorOf rfl rfl rfl (by decide +kernel) ⟨Nat.le_of_ble_eq_true rfl, Nat.le_of_ble_eq_true rfl⟩) (fun _ _ _ _ _ _ => trivial) (fun _ _ _ => trivial) rfl hl.1 (Nat.le_of_ble_eq_true rfl) rfl dX0_tellFraction_2 ⟨Nat.le_of_ble_eq_true rfl, Nat.le_of_ble_eq_true rfl⟩ (fun u_1 H locs hwu_1 hP hD hS => ?_)
  try dsimp only at hwu_1
  have hP : zP g [] H := hP
  have hD : zD A [] := hD
  refine z_toL (gd a b) rfl ?_
  refine lv_lstore (lv' := [(5, vL (gd a b)), (0, vL a), (2, vL b), (4, vI i)]) hx hb dX0_tellFraction_5 hl (by decide) rfl (fun ls hl => ?_)
  refine lv_lload hx hb dX0_tellFraction_7 (lv_at hl 0 rfl) ?_
  refine z_lconst hx hb 1 dX0_tellFraction_9 rfl ?_
  refine z_lcmp_ge (tgt := 18) hx hb (by omega) (by decide) dX0_tellFraction_10 dX0_tellFraction_11 (by decide) (fun c2 => ?_) (fun c2 => False.elim (by omega))
  refine lv_iload hx hb dX0_tellFraction_18 (lv_at hl 3 rfl) ?_
  refine z_if_ne (tgt := 30) hx hb (by omega) dX0_tellFraction_20 (by decide) (fun c3 => ?_) (fun c3 => ?_)
  · refine lv_lload_n hx hb dX0_tellFraction_30 rfl (lv_at hl 2 rfl) ?_
    refine lv_lload hx hb dX0_tellFraction_31 (lv_at hl 0 rfl) ?_
    refine z_ldiv hx hb ((b).tdiv (gd a b)) (by omega) (by omega) rfl dX0_tellFraction_33 ?_
    exact z_retl () [] hx hb hr hlocks hK hP hD hS (by unfold tlF; first | (rw [if_pos (by omega)]; exact gd_tdl (by omega)) | (rw [if_neg (by omega)]; exact gd_tdr (by omega))) trivial rfl rfl (rfl) (Nat.le_of_ble_eq_true rfl) (Nat.le_of_ble_eq_true rfl) dX0_tellFraction_34
  · refine lv_lload_n hx hb dX0_tellFraction_23 rfl (lv_at hl 1 rfl) ?_
    refine lv_lload hx hb dX0_tellFraction_24 (lv_at hl 0 rfl) ?_
    refine z_ldiv hx hb ((a).tdiv (gd a b)) (by omega) (by omega) rfl dX0_tellFraction_26 ?_
    refine lv_goto (tgt := 34) hx hb dX0_tellFraction_27 (by decide) ?_
    exact z_retl () [] hx hb hr hlocks hK hP hD hS (by unfold tlF; first | (rw [if_pos (by omega)]; exact gd_tdl (by omega)) | (rw [if_neg (by omega)]; exact gd_tdr (by omega))) trivial rfl rfl (rfl) (Nat.le_of_ble_eq_true rfl) (Nat.le_of_ble_eq_true rfl) dX0_tellFraction_34

set_option maxHeartbeats 4000000 in
set_option maxRecDepth 100000 in
theorem c_X0_tell (l : Launch) (g : zG) (q : Nat) (q0 : Int) (q1 : Int) (q2 : Int) (q3 : Int) (i : Int) (j : Int) (k : Int) (hb_ : flbd 2000000 q0 q1 q2 q3) (hq : 1 ≤ q3) (hi : -2147483648 ≤ i ∧ i < 2147483648) (hj : -2147483648 ≤ j ∧ j < 2147483648) (hk : -2147483648 ≤ k ∧ k < 2147483648) : zMet l g yX0_tell wsX0_tell 2 0 0 [.ref q, vI i, vI j, vI k] zX0 [[flw q q0 q1 q2 q3]] (ql g (fun (_ : Unit) => (flTl q0 q1 q2 q3 i j k)) (fun (_ : Unit) => True) (fun (_ : Unit) => [[flw q q0 q1 q2 q3]])) := by
  have hN := flN_bd hb_ i
  have hA_ := flA_bd hb_ i
  have hB_ := flB_bd hb_ i
  have hq9 := hb_.2.2.2
  have hsq := sq_rng hq hq9.2
  refine z_ent (cc := cX0_tell) (maxL := 4) (ret := (some .long)) (by decide) rfl (Nat.le_of_ble_eq_true rfl) ?_
  intro p e s m below meth c A ls hx hb hr hml hown hts hlocks hin0 hA hK hP hD hS hXX hl
  have hown : s.vm.findClass RX0 = some m.cls := hown
  have hin0_ : ∀ w ∈ wsX00, w ∈ wsX0_tell := zw_in [26, 27, 28, 29] rfl
  have hl : lv_has ls 4 [(0, .ref q), (1, vI i), (2, vI j), (3, vI k)] := hl
  refine lv_iload_n hx hb dX0_tell_0 rfl (lv_at hl 2 rfl) ?_
  refine z_iconst hx hb dX0_tell_1 rfl ?_
  refine z_icmp_ne (tgt := 24) hx hb (by omega) (by decide) dX0_tell_2 (by decide) (fun c1 => ?_) (fun c1 => ?_)
  · refine lv_iload_n hx hb dX0_tell_24 rfl (lv_at hl 2 rfl) ?_
    refine z_if_ne (tgt := 36) hx hb (by omega) dX0_tell_25 (by decide) (fun c2 => ?_) (fun c2 => ?_)
    · refine lv_aload_n hx hb dX0_tell_36 rfl (lv_at hl 0 rfl) ?_
      refine lv_iload_n hx hb dX0_tell_37 rfl (lv_at hl 1 rfl) ?_
      refine z_cVl (As := [vI i]) (rest := []) ⟨hx, hb, hml, hown, hts⟩ hK hP hD hS hA [0] [] rfl rfl rfl (c_X0_b l g q q0 q1 q2 q3 i (by first | assumption | omega | decide)) (cwV 1 hts gX0_tell_X0_b rfl rfl rfl (by decide +kernel) ⟨Nat.le_of_ble_eq_true rfl, Nat.le_of_ble_eq_true rfl⟩) 0 0 rfl rfl rfl (fun _ _ _ _ _ _ => trivial) (fun _ _ _ => trivial) rfl hl.1 (Nat.le_of_ble_eq_true rfl) rfl dX0_tell_38 ⟨Nat.le_of_ble_eq_true rfl, Nat.le_of_ble_eq_true rfl⟩ (fun u_3 H locs hwu_3 hP hD hS => ?_)
      try dsimp only at hwu_3
      have hP : zP g [[flw q q0 q1 q2 q3]] H := hP
      have hD : zD A [[flw q q0 q1 q2 q3]] := hD
      refine z_toL (flB q0 q1 q2 i) rfl ?_
      refine lv_aload_n hx hb dX0_tell_41 rfl (lv_at hl 0 rfl) ?_
      refine z_get hx hb hts hin0_ hown hK hP 0 rfl rfl 3 (by decide) (hts _ (List.mem_of_getElem? (i := 1) rfl)) rfl dX0_tell_42 ?_
      refine lv_iload_n hx hb dX0_tell_45 rfl (lv_at hl 3 rfl) ?_
      refine z_cSl (As := [vL (flB q0 q1 q2 i), vL q3, vI k]) (rest := []) ⟨hx, hb, hml, hown, hts⟩ hK hP hD hS hA [] [0] rfl rfl rfl (c_X0_tellFraction l g (flB q0 q1 q2 i) q3 k (by omega) (by omega) (by omega)) (va_cwS 3 hts gX0_tell_X0_tellFraction rfl rfl rfl (by decide +kernel) ⟨Nat.le_of_ble_eq_true rfl, Nat.le_of_ble_eq_true rfl⟩) (fun _ _ _ _ _ _ => trivial) (fun _ _ _ => trivial) rfl hl.1 (Nat.le_of_ble_eq_true rfl) rfl dX0_tell_46 ⟨Nat.le_of_ble_eq_true rfl, Nat.le_of_ble_eq_true rfl⟩ (fun u_4 H locs hwu_4 hP hD hS => ?_)
      try dsimp only at hwu_4
      have hP : zP g [[flw q q0 q1 q2 q3]] H := hP
      have hD : zD A [[flw q q0 q1 q2 q3]] := hD
      refine z_toL (tlF (flB q0 q1 q2 i) q3 k) rfl ?_
      exact z_retl () [0] hx hb hr hlocks hK hP hD hS (by unfold flTl; first | rw [if_pos (by omega)] | rw [if_neg (by omega), if_pos (by omega)] | rw [if_neg (by omega), if_neg (by omega)]) trivial rfl rfl (rfl) (Nat.le_of_ble_eq_true rfl) (Nat.le_of_ble_eq_true rfl) dX0_tell_49
    · refine lv_aload_n hx hb dX0_tell_28 rfl (lv_at hl 0 rfl) ?_
      refine lv_iload_n hx hb dX0_tell_29 rfl (lv_at hl 1 rfl) ?_
      refine z_cVl (As := [vI i]) (rest := []) ⟨hx, hb, hml, hown, hts⟩ hK hP hD hS hA [0] [] rfl rfl rfl (c_X0_a l g q q0 q1 q2 q3 i (by first | assumption | omega | decide)) (cwV 1 hts gX0_tell_X0_a rfl rfl rfl (by decide +kernel) ⟨Nat.le_of_ble_eq_true rfl, Nat.le_of_ble_eq_true rfl⟩) 0 0 rfl rfl rfl (fun _ _ _ _ _ _ => trivial) (fun _ _ _ => trivial) rfl hl.1 (Nat.le_of_ble_eq_true rfl) rfl dX0_tell_30 ⟨Nat.le_of_ble_eq_true rfl, Nat.le_of_ble_eq_true rfl⟩ (fun u_5 H locs hwu_5 hP hD hS => ?_)
      try dsimp only at hwu_5
      have hP : zP g [[flw q q0 q1 q2 q3]] H := hP
      have hD : zD A [[flw q q0 q1 q2 q3]] := hD
      refine z_toL (flA q0 q1 q2 i) rfl ?_
      refine lv_goto (tgt := 41) hx hb dX0_tell_33 (by decide) ?_
      refine lv_aload_n hx hb dX0_tell_41 rfl (lv_at hl 0 rfl) ?_
      refine z_get hx hb hts hin0_ hown hK hP 0 rfl rfl 3 (by decide) (hts _ (List.mem_of_getElem? (i := 1) rfl)) rfl dX0_tell_42 ?_
      refine lv_iload_n hx hb dX0_tell_45 rfl (lv_at hl 3 rfl) ?_
      refine z_cSl (As := [vL (flA q0 q1 q2 i), vL q3, vI k]) (rest := []) ⟨hx, hb, hml, hown, hts⟩ hK hP hD hS hA [] [0] rfl rfl rfl (c_X0_tellFraction l g (flA q0 q1 q2 i) q3 k (by omega) (by omega) (by omega)) (va_cwS 3 hts gX0_tell_X0_tellFraction rfl rfl rfl (by decide +kernel) ⟨Nat.le_of_ble_eq_true rfl, Nat.le_of_ble_eq_true rfl⟩) (fun _ _ _ _ _ _ => trivial) (fun _ _ _ => trivial) rfl hl.1 (Nat.le_of_ble_eq_true rfl) rfl dX0_tell_46 ⟨Nat.le_of_ble_eq_true rfl, Nat.le_of_ble_eq_true rfl⟩ (fun u_6 H locs hwu_6 hP hD hS => ?_)
      try dsimp only at hwu_6
      have hP : zP g [[flw q q0 q1 q2 q3]] H := hP
      have hD : zD A [[flw q q0 q1 q2 q3]] := hD
      refine z_toL (tlF (flA q0 q1 q2 i) q3 k) rfl ?_
      exact z_retl () [0] hx hb hr hlocks hK hP hD hS (by unfold flTl; first | rw [if_pos (by omega)] | rw [if_neg (by omega), if_pos (by omega)] | rw [if_neg (by omega), if_neg (by omega)]) trivial rfl rfl (rfl) (Nat.le_of_ble_eq_true rfl) (Nat.le_of_ble_eq_true rfl) dX0_tell_49
  · refine lv_aload_n hx hb dX0_tell_5 rfl (lv_at hl 0 rfl) ?_
    refine lv_iload_n hx hb dX0_tell_6 rfl (lv_at hl 1 rfl) ?_
    refine z_cVl (As := [vI i]) (rest := []) ⟨hx, hb, hml, hown, hts⟩ hK hP hD hS hA [0] [] rfl rfl rfl (c_X0_norm l g q q0 q1 q2 q3 i (by first | assumption | omega | decide)) (cwV 1 hts gX0_tell_X0_norm rfl rfl rfl (by decide +kernel) ⟨Nat.le_of_ble_eq_true rfl, Nat.le_of_ble_eq_true rfl⟩) 0 0 rfl rfl rfl (fun _ _ _ _ _ _ => trivial) (fun _ _ _ => trivial) rfl hl.1 (Nat.le_of_ble_eq_true rfl) rfl dX0_tell_7 ⟨Nat.le_of_ble_eq_true rfl, Nat.le_of_ble_eq_true rfl⟩ (fun u_7 H locs hwu_7 hP hD hS => ?_)
    try dsimp only at hwu_7
    have hP : zP g [[flw q q0 q1 q2 q3]] H := hP
    have hD : zD A [[flw q q0 q1 q2 q3]] := hD
    refine z_toL (flN q0 q1 q2 i) rfl ?_
    refine lv_aload_n hx hb dX0_tell_10 rfl (lv_at hl 0 rfl) ?_
    refine z_get hx hb hts hin0_ hown hK hP 0 rfl rfl 3 (by decide) (hts _ (List.mem_of_getElem? (i := 1) rfl)) rfl dX0_tell_11 ?_
    refine lv_aload_n hx hb dX0_tell_14 rfl (lv_at hl 0 rfl) ?_
    refine z_get hx hb hts hin0_ hown hK hP 0 rfl rfl 3 (by decide) (hts _ (List.mem_of_getElem? (i := 1) rfl)) rfl dX0_tell_15 ?_
    refine z_lmul hx hb (q3 * q3) rfl dX0_tell_18 ?_
    refine lv_iload_n hx hb dX0_tell_19 rfl (lv_at hl 3 rfl) ?_
    refine z_cSl (As := [vL (flN q0 q1 q2 i), vL (q3 * q3), vI k]) (rest := []) ⟨hx, hb, hml, hown, hts⟩ hK hP hD hS hA [] [0] rfl rfl rfl (c_X0_tellFraction l g (flN q0 q1 q2 i) (q3 * q3) k (by omega) (by omega) (by omega)) (va_cwS 3 hts gX0_tell_X0_tellFraction rfl rfl rfl (by decide +kernel) ⟨Nat.le_of_ble_eq_true rfl, Nat.le_of_ble_eq_true rfl⟩) (fun _ _ _ _ _ _ => trivial) (fun _ _ _ => trivial) rfl hl.1 (Nat.le_of_ble_eq_true rfl) rfl dX0_tell_20 ⟨Nat.le_of_ble_eq_true rfl, Nat.le_of_ble_eq_true rfl⟩ (fun u_8 H locs hwu_8 hP hD hS => ?_)
    try dsimp only at hwu_8
    have hP : zP g [[flw q q0 q1 q2 q3]] H := hP
    have hD : zD A [[flw q q0 q1 q2 q3]] := hD
    refine z_toL (tlF (flN q0 q1 q2 i) (q3 * q3) k) rfl ?_
    exact z_retl () [0] hx hb hr hlocks hK hP hD hS (by unfold flTl; first | rw [if_pos (by omega)] | rw [if_neg (by omega), if_pos (by omega)] | rw [if_neg (by omega), if_neg (by omega)]) trivial rfl rfl (rfl) (Nat.le_of_ble_eq_true rfl) (Nat.le_of_ble_eq_true rfl) dX0_tell_23
