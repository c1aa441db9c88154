set_option maxHeartbeats 4000000 in
set_option maxRecDepth 100000 in
theorem c_X7_readClause (l : Launch) (g : zG) (q : Nat) (x : Nat → Nat) (n : Nat) (c_ : Nat) (k : Nat) (s_ : Nat) (e_ : Nat) (f : Nat → Int) (m_ : Nat → Int) (r : Nat) (y : Nat → Nat) (v : Int) (b : Nat) (h : Nat → Int) (o : Nat → Int) (l_ : Nat → Int) (xs : Nat → Nat) (vs : Nat → Nat) (hn : n ≤ 200) (he : e_ ≤ n) (hf : ∀ i, 0 ≤ f i ∧ f i ≤ 255) (hN : nok v b h o l_) : zMet l g yX7_readClause wsX7_readClause 5 0 0 [.ref q, .ref r] (zXW xs vs) [(textW g q x n c_ k s_ e_ f m_), (netW g r y v b h o l_)] (qi g (fun (u_ : Nat × Nat × Nat × (Nat → Int) × Int × Nat × (Nat → Int) × (Nat → Int) × (Nat → Int)) => (cOk f n e_ b)) (fun (u_ : Nat × Nat × Nat × (Nat → Int) × Int × Nat × (Nat → Int) × (Nat → Int) × (Nat → Int)) => ((cOk f n e_ b = 1 → u_.2.2.1 = cPs f n e_ b ∧ u_.2.2.1 ≤ n ∧ u_.2.2.2.2.1 = eVW (cWd f n e_) f n e_ v ∧ u_.2.2.2.2.2.1 = eBW (cWd f n e_) b ∧ u_.2.2.2.2.2.2.1 = eHW (cWd f n e_) f n e_ b h ∧ u_.2.2.2.2.2.2.2.1 = eOW (cWd f n e_) f n e_ b o ∧ u_.2.2.2.2.2.2.2.2 = eLW (cWd f n e_) f n e_ b l_) ∧ (cOk f n e_ b = 0 → u_.2.1 = cPs f n e_ b) ∧ (cOk f n e_ b = 0 ∨ cOk f n e_ b = 1))) (fun (u_ : Nat × Nat × Nat × (Nat → Int) × Int × Nat × (Nat → Int) × (Nat → Int) × (Nat → Int)) => [(textW g q x n c_ u_.1 u_.2.1 u_.2.2.1 f u_.2.2.2.1), (netW g r y u_.2.2.2.2.1 u_.2.2.2.2.2.1 u_.2.2.2.2.2.2.1 u_.2.2.2.2.2.2.2.1 u_.2.2.2.2.2.2.2.2)])) := by
  obtain ⟨hN1, hN2, hN3, hN4, hN5, hN6, hN7⟩ := id hN
  refine z_ent (cc := cX7_readClause) (maxL := 2) (ret := (some .boolean)) (by decide) rfl (Nat.le_of_ble_eq_true rfl) ?_
  intro p e s m below meth c A ls hx hb hr hml hown hts hlocks hin0 hA hK hP hD hS hXX hl
  have hown : s.vm.findClass RX7 = some m.cls := hown
  have hin2_ : ∀ w ∈ wsX20, w ∈ wsX7_readClause := zw_in [110, 111, 112, 113, 114] rfl
  have hin7_ : ∀ w ∈ wsX70, w ∈ wsX7_readClause := zw_in [103, 104, 105, 106, 107, 108, 109] rfl
  have hl : lv_has ls 2 [(0, .ref q), (1, .ref r)] := hl
  have hP : zP g [(netW g r y v b h o l_), (textW g q x n c_ k s_ e_ f m_)] s.heap := zP_sub hP [1, 0] rfl
  have hD : zD A [(netW g r y v b h o l_), (textW g q x n c_ k s_ e_ f m_)] := zD_sub hD [1, 0] rfl rfl
  have hP : zP g [[(r, .inr (2, [vI v, vI ((b : Nat) : Int), .ref (y 0), .ref (y 1), .ref (y 2)]))], [((y 0), .inl (g.2 0, 6, .inl (aI h)))], [((y 1), .inl (g.2 0, 18, .inl (aI o)))], [((y 2), .inl (g.2 0, 6, .inl (aI l_)))], (textW g q x n c_ k s_ e_ f m_)] s.heap := hP
  have hD : zD A [[(r, .inr (2, [vI v, vI ((b : Nat) : Int), .ref (y 0), .ref (y 1), .ref (y 2)]))], [((y 0), .inl (g.2 0, 6, .inl (aI h)))], [((y 1), .inl (g.2 0, 18, .inl (aI o)))], [((y 2), .inl (g.2 0, 6, .inl (aI l_)))], (textW g q x n c_ k s_ e_ f m_)] := hD
  refine lv_aload_n hx hb dX7_readClause_0 rfl (lv_at hl 0 rfl) ?_
  refine z_cVv (As := []) (rest := []) ⟨hx, hb, hml, hown, hts⟩ hK hP hD hS hA [4] [0, 1, 2, 3] rfl rfl rfl (c_X7_step l g q x n c_ k s_ e_ f m_ (by first | assumption | omega | decide) (by first | assumption | omega | decide) (by first | assumption | omega | decide)) (cwV 0 hts gX7_readClause_X7_step rfl rfl rfl (by decide +kernel) ⟨Nat.le_of_ble_eq_true rfl, Nat.le_of_ble_eq_true rfl⟩) 7 0 rfl rfl rfl (fun _ _ _ _ _ _ => trivial) (fun _ _ _ => trivial) rfl hl.1 (Nat.le_of_ble_eq_true rfl) rfl dX7_readClause_1 ⟨Nat.le_of_ble_eq_true rfl, Nat.le_of_ble_eq_true rfl⟩ (fun u_1 H locs hwu_1 hP hD hS => ?_)
  try dsimp only at hwu_1
  have hP : zP g [[(r, .inr (2, [vI v, vI ((b : Nat) : Int), .ref (y 0), .ref (y 1), .ref (y 2)]))], [((y 0), .inl (g.2 0, 6, .inl (aI h)))], [((y 1), .inl (g.2 0, 18, .inl (aI o)))], [((y 2), .inl (g.2 0, 6, .inl (aI l_)))], (textW g q x n c_ (kdA f n (tS f n e_)) (tS f n e_) (tE f n (tS f n e_)) f m_)] H := hP
  have hD : zD A [[(r, .inr (2, [vI v, vI ((b : Nat) : Int), .ref (y 0), .ref (y 1), .ref (y 2)]))], [((y 0), .inl (g.2 0, 6, .inl (aI h)))], [((y 1), .inl (g.2 0, 18, .inl (aI o)))], [((y 2), .inl (g.2 0, 6, .inl (aI l_)))], (textW g q x n c_ (kdA f n (tS f n e_)) (tS f n e_) (tE f n (tS f n e_)) f m_)] := hD
  have hf_2 := tok_s f he
  have hP : zP g [[(r, .inr (2, [vI v, vI ((b : Nat) : Int), .ref (y 0), .ref (y 1), .ref (y 2)]))], [((y 0), .inl (g.2 0, 6, .inl (aI h)))], [((y 1), .inl (g.2 0, 18, .inl (aI o)))], [((y 2), .inl (g.2 0, 6, .inl (aI l_)))], (textW g q x n c_ (kdA f n (tS f n e_)) (tS f n e_) (nEn f n e_) f m_)] H := hP
  have hD : zD A [[(r, .inr (2, [vI v, vI ((b : Nat) : Int), .ref (y 0), .ref (y 1), .ref (y 2)]))], [((y 0), .inl (g.2 0, 6, .inl (aI h)))], [((y 1), .inl (g.2 0, 18, .inl (aI o)))], [((y 2), .inl (g.2 0, 6, .inl (aI l_)))], (textW g q x n c_ (kdA f n (tS f n e_)) (tS f n e_) (nEn f n e_) f m_)] := hD
  have hne_3 := nEn_s f (e := e_) (n := n) (by omega)
  refine lv_aload_n hx hb dX7_readClause_4 rfl (lv_at hl 0 rfl) ?_
  refine va_ldcS hx hb hown hXX.1.1 dX7_readClause_5 ?_
  refine z_xVi (As := [.ref (xs 0)]) (rest := []) ⟨hx, hb, hml, hown, hts⟩ hK hP hD hS hA [4] [0, 1, 2, 3] rfl rfl rfl (c_X7_isWordN l g q x n c_ (kdA f n (tS f n e_)) (tS f n e_) (nEn f n e_) f m_ (xs 0) (vs 0) (by first | assumption | omega | decide) (by first | assumption | omega | decide) (by first | assumption | omega | decide) (by first | assumption | omega | decide)) (cwV 1 hts gX7_readClause_X7_isWord rfl rfl rfl (by decide +kernel) ⟨Nat.le_of_ble_eq_true rfl, Nat.le_of_ble_eq_true rfl⟩) 7 0 rfl rfl rfl zXS_b (zXS_s hXX.2.1 hS) rfl hl.1 (Nat.le_of_ble_eq_true rfl) rfl dX7_readClause_7 ⟨Nat.le_of_ble_eq_true rfl, Nat.le_of_ble_eq_true rfl⟩ (fun u_4 H locs hwu_4 hP hD hS => ?_)
  try dsimp only at hwu_4
  have hP : zP g [[(r, .inr (2, [vI v, vI ((b : Nat) : Int), .ref (y 0), .ref (y 1), .ref (y 2)]))], [((y 0), .inl (g.2 0, 6, .inl (aI h)))], [((y 1), .inl (g.2 0, 18, .inl (aI o)))], [((y 2), .inl (g.2 0, 6, .inl (aI l_)))], (textW g q x n c_ (kdA f n (tS f n e_)) (tS f n e_) (nEn f n e_) f m_)] H := hP
  have hD : zD A [[(r, .inr (2, [vI v, vI ((b : Nat) : Int), .ref (y 0), .ref (y 1), .ref (y 2)]))], [((y 0), .inl (g.2 0, 6, .inl (aI h)))], [((y 1), .inl (g.2 0, 18, .inl (aI o)))], [((y 2), .inl (g.2 0, 6, .inl (aI l_)))], (textW g q x n c_ (kdA f n (tS f n e_)) (tS f n e_) (nEn f n e_) f m_)] := hD
  refine z_toI (wdN f (kdA f n (tS f n e_)) (tS f n e_) (nEn f n e_)) rfl ?_
  have hf_5 := wdN_s f (kdA f n (tS f n e_)) (tS f n e_) (nEn f n e_)
  refine z_if_eq (tgt := 39) hx hb (by omega) dX7_readClause_10 (by decide) (fun c6 => ?_) (fun c6 => ?_)
  · refine lv_aload_n hx hb dX7_readClause_39 rfl (lv_at hl 0 rfl) ?_
    refine va_ldcS hx hb hown hXX.1.2.1 dX7_readClause_40 ?_
    refine z_xVi (As := [.ref (xs 1)]) (rest := []) ⟨hx, hb, hml, hown, hts⟩ hK hP hD hS hA [4] [0, 1, 2, 3] rfl rfl rfl (c_X7_isWordS l g q x n c_ (kdA f n (tS f n e_)) (tS f n e_) (nEn f n e_) f m_ (xs 1) (vs 1) (by first | assumption | omega | decide) (by first | assumption | omega | decide) (by first | assumption | omega | decide) (by first | assumption | omega | decide)) (cwV 1 hts gX7_readClause_X7_isWord rfl rfl rfl (by decide +kernel) ⟨Nat.le_of_ble_eq_true rfl, Nat.le_of_ble_eq_true rfl⟩) 7 0 rfl rfl rfl zXS_b (zXS_s hXX.2.2.1 hS) rfl hl.1 (Nat.le_of_ble_eq_true rfl) rfl dX7_readClause_42 ⟨Nat.le_of_ble_eq_true rfl, Nat.le_of_ble_eq_true rfl⟩ (fun u_7 H locs hwu_7 hP hD hS => ?_)
    try dsimp only at hwu_7
    have hP : zP g [[(r, .inr (2, [vI v, vI ((b : Nat) : Int), .ref (y 0), .ref (y 1), .ref (y 2)]))], [((y 0), .inl (g.2 0, 6, .inl (aI h)))], [((y 1), .inl (g.2 0, 18, .inl (aI o)))], [((y 2), .inl (g.2 0, 6, .inl (aI l_)))], (textW g q x n c_ (kdA f n (tS f n e_)) (tS f n e_) (nEn f n e_) f m_)] H := hP
    have hD : zD A [[(r, .inr (2, [vI v, vI ((b : Nat) : Int), .ref (y 0), .ref (y 1), .ref (y 2)]))], [((y 0), .inl (g.2 0, 6, .inl (aI h)))], [((y 1), .inl (g.2 0, 18, .inl (aI o)))], [((y 2), .inl (g.2 0, 6, .inl (aI l_)))], (textW g q x n c_ (kdA f n (tS f n e_)) (tS f n e_) (nEn f n e_) f m_)] := hD
    refine z_toI (wdS f (kdA f n (tS f n e_)) (tS f n e_) (nEn f n e_)) rfl ?_
    have hf_8 := wdS_s f (kdA f n (tS f n e_)) (tS f n e_) (nEn f n e_)
    refine z_if_eq (tgt := 83) hx hb (by omega) dX7_readClause_45 (by decide) (fun c9 => ?_) (fun c9 => ?_)
    · refine lv_aload_n hx hb dX7_readClause_83 rfl (lv_at hl 0 rfl) ?_
      refine va_ldcS hx hb hown hXX.1.2.2.1 dX7_readClause_84 ?_
      refine z_xVi (As := [.ref (xs 2)]) (rest := []) ⟨hx, hb, hml, hown, hts⟩ hK hP hD hS hA [4] [0, 1, 2, 3] rfl rfl rfl (c_X7_isWordB l g q x n c_ (kdA f n (tS f n e_)) (tS f n e_) (nEn f n e_) f m_ (xs 2) (vs 2) (by first | assumption | omega | decide) (by first | assumption | omega | decide) (by first | assumption | omega | decide) (by first | assumption | omega | decide)) (cwV 1 hts gX7_readClause_X7_isWord rfl rfl rfl (by decide +kernel) ⟨Nat.le_of_ble_eq_true rfl, Nat.le_of_ble_eq_true rfl⟩) 7 0 rfl rfl rfl zXS_b (zXS_s hXX.2.2.2.1 hS) rfl hl.1 (Nat.le_of_ble_eq_true rfl) rfl dX7_readClause_86 ⟨Nat.le_of_ble_eq_true rfl, Nat.le_of_ble_eq_true rfl⟩ (fun u_10 H locs hwu_10 hP hD hS => ?_)
      try dsimp only at hwu_10
      have hP : zP g [[(r, .inr (2, [vI v, vI ((b : Nat) : Int), .ref (y 0), .ref (y 1), .ref (y 2)]))], [((y 0), .inl (g.2 0, 6, .inl (aI h)))], [((y 1), .inl (g.2 0, 18, .inl (aI o)))], [((y 2), .inl (g.2 0, 6, .inl (aI l_)))], (textW g q x n c_ (kdA f n (tS f n e_)) (tS f n e_) (nEn f n e_) f m_)] H := hP
      have hD : zD A [[(r, .inr (2, [vI v, vI ((b : Nat) : Int), .ref (y 0), .ref (y 1), .ref (y 2)]))], [((y 0), .inl (g.2 0, 6, .inl (aI h)))], [((y 1), .inl (g.2 0, 18, .inl (aI o)))], [((y 2), .inl (g.2 0, 6, .inl (aI l_)))], (textW g q x n c_ (kdA f n (tS f n e_)) (tS f n e_) (nEn f n e_) f m_)] := hD
      refine z_toI (wdB f (kdA f n (tS f n e_)) (tS f n e_) (nEn f n e_)) rfl ?_
      have hf_11 := wdB_s f (kdA f n (tS f n e_)) (tS f n e_) (nEn f n e_)
      refine z_if_eq (tgt := 154) hx hb (by omega) dX7_readClause_89 (by decide) (fun c12 => ?_) (fun c12 => ?_)
      · refine lv_aload_n hx hb dX7_readClause_154 rfl (lv_at hl 0 rfl) ?_
        refine va_ldcS hx hb hown hXX.1.2.2.2 dX7_readClause_155 ?_
        refine z_xVi (As := [.ref (xs 3)]) (rest := []) ⟨hx, hb, hml, hown, hts⟩ hK hP hD hS hA [4] [0, 1, 2, 3] rfl rfl rfl (c_X7_isWordR l g q x n c_ (kdA f n (tS f n e_)) (tS f n e_) (nEn f n e_) f m_ (xs 3) (vs 3) (by first | assumption | omega | decide) (by first | assumption | omega | decide) (by first | assumption | omega | decide) (by first | assumption | omega | decide)) (cwV 1 hts gX7_readClause_X7_isWord rfl rfl rfl (by decide +kernel) ⟨Nat.le_of_ble_eq_true rfl, Nat.le_of_ble_eq_true rfl⟩) 7 0 rfl rfl rfl zXS_b (zXS_s hXX.2.2.2.2 hS) rfl hl.1 (Nat.le_of_ble_eq_true rfl) rfl dX7_readClause_157 ⟨Nat.le_of_ble_eq_true rfl, Nat.le_of_ble_eq_true rfl⟩ (fun u_13 H locs hwu_13 hP hD hS => ?_)
        try dsimp only at hwu_13
        have hP : zP g [[(r, .inr (2, [vI v, vI ((b : Nat) : Int), .ref (y 0), .ref (y 1), .ref (y 2)]))], [((y 0), .inl (g.2 0, 6, .inl (aI h)))], [((y 1), .inl (g.2 0, 18, .inl (aI o)))], [((y 2), .inl (g.2 0, 6, .inl (aI l_)))], (textW g q x n c_ (kdA f n (tS f n e_)) (tS f n e_) (nEn f n e_) f m_)] H := hP
        have hD : zD A [[(r, .inr (2, [vI v, vI ((b : Nat) : Int), .ref (y 0), .ref (y 1), .ref (y 2)]))], [((y 0), .inl (g.2 0, 6, .inl (aI h)))], [((y 1), .inl (g.2 0, 18, .inl (aI o)))], [((y 2), .inl (g.2 0, 6, .inl (aI l_)))], (textW g q x n c_ (kdA f n (tS f n e_)) (tS f n e_) (nEn f n e_) f m_)] := hD
        refine z_toI (wdR f (kdA f n (tS f n e_)) (tS f n e_) (nEn f n e_)) rfl ?_
        have hf_14 := wdR_s f (kdA f n (tS f n e_)) (tS f n e_) (nEn f n e_)
        refine z_if_eq (tgt := 212) hx hb (by omega) dX7_readClause_160 (by decide) (fun c15 => ?_) (fun c15 => ?_)
        · refine z_iconst hx hb dX7_readClause_212 rfl ?_
          have hP : zP g [(netW g r y v b h o l_), (textW g q x n c_ (kdA f n (tS f n e_)) (tS f n e_) (nEn f n e_) f m_)] H := hP
          have hD : zD A [(netW g r y v b h o l_), (textW g q x n c_ (kdA f n (tS f n e_)) (tS f n e_) (nEn f n e_) f m_)] := hD
          have hW := cWd_4 (f := f) (n := n) (e := e_) (by omega) (by omega) (by omega) (by omega) 
          have hC : 0 = cOk f n e_ b := by unfold cOk; rw [hW]; rfl
          have hQ : (tS f n e_) = cPs f n e_ b := by unfold cPs; rw [hW]; rfl
          exact z_reti ((kdA f n (tS f n e_)), (tS f n e_), (nEn f n e_), m_, v, b, h, o, l_) [1, 0] hx hb hr (nar_z (by first | decide | omega)) hlocks hK hP hD hS (hC) (⟨fun h9 => False.elim (by omega), fun _ => hQ, Or.inl hC.symm⟩) rfl rfl (rfl) (Nat.le_of_ble_eq_true rfl) (Nat.le_of_ble_eq_true rfl) dX7_readClause_213
        · refine lv_aload_n hx hb dX7_readClause_163 rfl (lv_at hl 0 rfl) ?_
          refine z_iconst hx hb dX7_readClause_164 rfl ?_
          refine z_iconst hx hb dX7_readClause_165 rfl ?_
          refine lv_aload_n hx hb dX7_readClause_166 rfl (lv_at hl 1 rfl) ?_
          refine z_get hx hb hts hin2_ hown hK hP 0 rfl rfl 1 (by decide) (hts _ (List.mem_of_getElem? (i := 2) rfl)) rfl dX7_readClause_167 ?_
          refine z_iconst hx hb dX7_readClause_170 rfl ?_
          refine z_isub hx hb (((b : Nat) : Int) - 1) rfl dX7_readClause_171 ?_
          refine z_cVi (As := [vI 0, vI 1, vI (((b : Nat) : Int) - 1)]) (rest := []) ⟨hx, hb, hml, hown, hts⟩ hK hP hD hS hA [4] [0, 1, 2, 3] rfl rfl rfl (c_X7_readNumber l g q x n c_ (kdA f n (tS f n e_)) (tS f n e_) (nEn f n e_) f m_ 0 1 (((b : Nat) : Int) - 1) (by first | assumption | omega | decide) (by first | assumption | omega | decide) (by first | assumption | omega | decide) (by first | assumption | omega | decide) (by first | assumption | omega | decide) (by first | assumption | omega | decide)) (cwV 3 hts gX7_readClause_X7_readNumber rfl rfl rfl (by decide +kernel) ⟨Nat.le_of_ble_eq_true rfl, Nat.le_of_ble_eq_true rfl⟩) 7 0 rfl rfl rfl (fun _ _ _ _ _ _ => trivial) (fun _ _ _ => trivial) rfl hl.1 (Nat.le_of_ble_eq_true rfl) rfl dX7_readClause_172 ⟨Nat.le_of_ble_eq_true rfl, Nat.le_of_ble_eq_true rfl⟩ (fun u_16 H locs hwu_16 hP hD hS => ?_)
          obtain ⟨m2_17, rfl⟩ : ∃ z_, z_ = u_16 := ⟨_, rfl⟩
          try dsimp only at hwu_16
          have hP : zP g [[(r, .inr (2, [vI v, vI ((b : Nat) : Int), .ref (y 0), .ref (y 1), .ref (y 2)]))], [((y 0), .inl (g.2 0, 6, .inl (aI h)))], [((y 1), .inl (g.2 0, 18, .inl (aI o)))], [((y 2), .inl (g.2 0, 6, .inl (aI l_)))], (textW g q x n c_ (kdA f n (tS f n (nEn f n e_))) (tS f n (nEn f n e_)) (tE f n (tS f n (nEn f n e_))) f m2_17)] H := hP
          have hD : zD A [[(r, .inr (2, [vI v, vI ((b : Nat) : Int), .ref (y 0), .ref (y 1), .ref (y 2)]))], [((y 0), .inl (g.2 0, 6, .inl (aI h)))], [((y 1), .inl (g.2 0, 18, .inl (aI o)))], [((y 2), .inl (g.2 0, 6, .inl (aI l_)))], (textW g q x n c_ (kdA f n (tS f n (nEn f n e_))) (tS f n (nEn f n e_)) (tE f n (tS f n (nEn f n e_))) f m2_17)] := hD
          refine z_toI (nOk f n (nEn f n e_) 1 (((b : Nat) : Int) - 1)) rfl ?_
          have hf_18 := nOk_s f n (nEn f n e_) 1 (((b : Nat) : Int) - 1)
          have hP : zP g [[(r, .inr (2, [vI v, vI ((b : Nat) : Int), .ref (y 0), .ref (y 1), .ref (y 2)]))], [((y 0), .inl (g.2 0, 6, .inl (aI h)))], [((y 1), .inl (g.2 0, 18, .inl (aI o)))], [((y 2), .inl (g.2 0, 6, .inl (aI l_)))], (textW g q x n c_ (kdA f n (tS f n (nEn f n e_))) (tS f n (nEn f n e_)) (nEn f n (nEn f n e_)) f m2_17)] H := hP
          have hD : zD A [[(r, .inr (2, [vI v, vI ((b : Nat) : Int), .ref (y 0), .ref (y 1), .ref (y 2)]))], [((y 0), .inl (g.2 0, 6, .inl (aI h)))], [((y 1), .inl (g.2 0, 18, .inl (aI o)))], [((y 2), .inl (g.2 0, 6, .inl (aI l_)))], (textW g q x n c_ (kdA f n (tS f n (nEn f n e_))) (tS f n (nEn f n e_)) (nEn f n (nEn f n e_)) f m2_17)] := hD
          have hne_19 := nEn_s f (e := (nEn f n e_)) (n := n) (by omega)
          refine z_if_eq (tgt := 190) hx hb (by omega) dX7_readClause_175 (by decide) (fun c20 => ?_) (fun c20 => ?_)
          · refine z_iconst hx hb dX7_readClause_190 rfl ?_
            have hP : zP g [(netW g r y v b h o l_), (textW g q x n c_ (kdA f n (tS f n (nEn f n e_))) (tS f n (nEn f n e_)) (nEn f n (nEn f n e_)) f m2_17)] H := hP
            have hD : zD A [(netW g r y v b h o l_), (textW g q x n c_ (kdA f n (tS f n (nEn f n e_))) (tS f n (nEn f n e_)) (nEn f n (nEn f n e_)) f m2_17)] := hD
            have hW := cWd_3 (f := f) (n := n) (e := e_) (by omega) (by omega) (by omega) (by omega) 
            have hC : 0 = cOk f n e_ b := by unfold cOk; rw [hW]; show _ = (if _ then _ else (0 : Int)); rw [if_neg (by omega)]
            have hQ : (tS f n (nEn f n e_)) = cPs f n e_ b := by unfold cPs; rw [hW]; show _ = (if _ then _ else _); rw [if_neg (by omega)]
            exact z_reti ((kdA f n (tS f n (nEn f n e_))), (tS f n (nEn f n e_)), (nEn f n (nEn f n e_)), m2_17, v, b, h, o, l_) [1, 0] hx hb hr (nar_z (by first | decide | omega)) hlocks hK hP hD hS (hC) (⟨fun h9 => False.elim (by omega), fun _ => hQ, Or.inl hC.symm⟩) rfl rfl (rfl) (Nat.le_of_ble_eq_true rfl) (Nat.le_of_ble_eq_true rfl) dX7_readClause_191
          · have hy_21 : nOk f n (nEn f n e_) 1 ((b : Int) - 1) = 1 := by omega
            refine lv_aload_n hx hb dX7_readClause_178 rfl (lv_at hl 0 rfl) ?_
            refine z_iconst hx hb dX7_readClause_179 rfl ?_
            refine z_iconst hx hb dX7_readClause_180 rfl ?_
            refine z_sipush hx hb 999 dX7_readClause_181 rfl ?_
            refine z_cVi (As := [vI 1, vI 0, vI 999]) (rest := []) ⟨hx, hb, hml, hown, hts⟩ hK hP hD hS hA [4] [0, 1, 2, 3] rfl rfl rfl (c_X7_readNumber l g q x n c_ (kdA f n (tS f n (nEn f n e_))) (tS f n (nEn f n e_)) (nEn f n (nEn f n e_)) f m2_17 1 0 999 (by first | assumption | omega | decide) (by first | assumption | omega | decide) (by first | assumption | omega | decide) (by first | assumption | omega | decide) (by first | assumption | omega | decide) (by first | assumption | omega | decide)) (cwV 3 hts gX7_readClause_X7_readNumber rfl rfl rfl (by decide +kernel) ⟨Nat.le_of_ble_eq_true rfl, Nat.le_of_ble_eq_true rfl⟩) 7 0 rfl rfl rfl (fun _ _ _ _ _ _ => trivial) (fun _ _ _ => trivial) rfl hl.1 (Nat.le_of_ble_eq_true rfl) rfl dX7_readClause_184 ⟨Nat.le_of_ble_eq_true rfl, Nat.le_of_ble_eq_true rfl⟩ (fun u_22 H locs hwu_22 hP hD hS => ?_)
            obtain ⟨m2_23, rfl⟩ : ∃ z_, z_ = u_22 := ⟨_, rfl⟩
            try dsimp only at hwu_22
            have hP : zP g [[(r, .inr (2, [vI v, vI ((b : Nat) : Int), .ref (y 0), .ref (y 1), .ref (y 2)]))], [((y 0), .inl (g.2 0, 6, .inl (aI h)))], [((y 1), .inl (g.2 0, 18, .inl (aI o)))], [((y 2), .inl (g.2 0, 6, .inl (aI l_)))], (textW g q x n c_ (kdA f n (tS f n (nEn f n (nEn f n e_)))) (tS f n (nEn f n (nEn f n e_))) (tE f n (tS f n (nEn f n (nEn f n e_)))) f m2_23)] H := hP
            have hD : zD A [[(r, .inr (2, [vI v, vI ((b : Nat) : Int), .ref (y 0), .ref (y 1), .ref (y 2)]))], [((y 0), .inl (g.2 0, 6, .inl (aI h)))], [((y 1), .inl (g.2 0, 18, .inl (aI o)))], [((y 2), .inl (g.2 0, 6, .inl (aI l_)))], (textW g q x n c_ (kdA f n (tS f n (nEn f n (nEn f n e_)))) (tS f n (nEn f n (nEn f n e_))) (tE f n (tS f n (nEn f n (nEn f n e_)))) f m2_23)] := hD
            refine z_toI (nOk f n (nEn f n (nEn f n e_)) 0 999) rfl ?_
            have hf_24 := nOk_s f n (nEn f n (nEn f n e_)) 0 999
            have hP : zP g [[(r, .inr (2, [vI v, vI ((b : Nat) : Int), .ref (y 0), .ref (y 1), .ref (y 2)]))], [((y 0), .inl (g.2 0, 6, .inl (aI h)))], [((y 1), .inl (g.2 0, 18, .inl (aI o)))], [((y 2), .inl (g.2 0, 6, .inl (aI l_)))], (textW g q x n c_ (kdA f n (tS f n (nEn f n (nEn f n e_)))) (tS f n (nEn f n (nEn f n e_))) (nEn f n (nEn f n (nEn f n e_))) f m2_23)] H := hP
            have hD : zD A [[(r, .inr (2, [vI v, vI ((b : Nat) : Int), .ref (y 0), .ref (y 1), .ref (y 2)]))], [((y 0), .inl (g.2 0, 6, .inl (aI h)))], [((y 1), .inl (g.2 0, 18, .inl (aI o)))], [((y 2), .inl (g.2 0, 6, .inl (aI l_)))], (textW g q x n c_ (kdA f n (tS f n (nEn f n (nEn f n e_)))) (tS f n (nEn f n (nEn f n e_))) (nEn f n (nEn f n (nEn f n e_))) f m2_23)] := hD
            have hne_25 := nEn_s f (e := (nEn f n (nEn f n e_))) (n := n) (by omega)
            refine z_if_ne (tgt := 192) hx hb (by omega) dX7_readClause_187 (by decide) (fun c26 => ?_) (fun c26 => ?_)
            · have hy_27 : nOk f n (nEn f n (nEn f n e_)) 0 999 = 1 := by omega
              have hP : zP g [[(r, .inr (2, [vI v, vI ((b : Nat) : Int), .ref (y 0), .ref (y 1), .ref (y 2)]))], [((y 0), .inl (g.2 0, 6, .inl (aI h)))], [((y 1), .inl (g.2 0, 18, .inl (aI o)))], [((y 2), .inl (g.2 0, 6, .inl (aI l_)))], [(q, .inr (7, [.ref (x 0), vI ((n : Nat) : Int), vI ((c_ : Nat) : Int), vI (((kdA f n (tS f n (nEn f n (nEn f n e_)))) : Nat) : Int), vI (((tS f n (nEn f n (nEn f n e_))) : Nat) : Int), vI (((nEn f n (nEn f n (nEn f n e_))) : Nat) : Int), .ref (x 1)]))], [((x 0), .inl (g.2 0, 200, .inl (aI f)))], [((x 1), .inl (g.2 0, 4, .inl (aI m2_23)))]] H := hP
              have hD : zD A [[(r, .inr (2, [vI v, vI ((b : Nat) : Int), .ref (y 0), .ref (y 1), .ref (y 2)]))], [((y 0), .inl (g.2 0, 6, .inl (aI h)))], [((y 1), .inl (g.2 0, 18, .inl (aI o)))], [((y 2), .inl (g.2 0, 6, .inl (aI l_)))], [(q, .inr (7, [.ref (x 0), vI ((n : Nat) : Int), vI ((c_ : Nat) : Int), vI (((kdA f n (tS f n (nEn f n (nEn f n e_)))) : Nat) : Int), vI (((tS f n (nEn f n (nEn f n e_))) : Nat) : Int), vI (((nEn f n (nEn f n (nEn f n e_))) : Nat) : Int), .ref (x 1)]))], [((x 0), .inl (g.2 0, 200, .inl (aI f)))], [((x 1), .inl (g.2 0, 4, .inl (aI m2_23)))]] := hD
              refine lv_aload_n hx hb dX7_readClause_192 rfl (lv_at hl 1 rfl) ?_
              refine z_get hx hb hts hin2_ hown hK hP 0 rfl rfl 4 (by decide) (hts _ (List.mem_of_getElem? (i := 3) rfl)) rfl dX7_readClause_193 ?_
              refine lv_aload_n hx hb dX7_readClause_196 rfl (lv_at hl 0 rfl) ?_
              refine z_get hx hb hts hin7_ hown hK hP 4 rfl rfl 6 (by decide) (hts _ (List.mem_of_getElem? (i := 1) rfl)) rfl dX7_readClause_197 ?_
              refine z_iconst hx hb dX7_readClause_200 rfl ?_
              refine z_iald hx hb hK hP 6 rfl 0 rfl (by decide) (by decide) dX7_readClause_201 ?_
              refine z_toI (nVl f n (nEn f n e_)) (by rw [hwu_22 (by assumption), hwu_16 (by assumption)]; rfl) ?_
              refine lv_aload_n hx hb dX7_readClause_202 rfl (lv_at hl 0 rfl) ?_
              refine z_get hx hb hts hin7_ hown hK hP 4 rfl rfl 6 (by decide) (hts _ (List.mem_of_getElem? (i := 1) rfl)) rfl dX7_readClause_203 ?_
              refine z_iconst hx hb dX7_readClause_206 rfl ?_
              refine z_iald hx hb hK hP 6 rfl 1 rfl (by decide) (by decide) dX7_readClause_207 ?_
              refine z_toI (nVl f n (nEn f n (nEn f n e_))) (by rw [hwu_22 (by assumption)]; rfl) ?_
              have hq1 := nOk_v (f := f) (n := n) (e := (nEn f n e_)) (a := 1) (b := (b : Int) - 1) (by assumption)
              refine z_iast hx hb hK hP 3 hD hS rfl ((nVl f n (nEn f n e_))).toNat (by omega) (by omega) (by decide) dX7_readClause_208 [[(r, .inr (2, [vI v, vI ((b : Nat) : Int), .ref (y 0), .ref (y 1), .ref (y 2)]))], [((y 0), .inl (g.2 0, 6, .inl (aI h)))], [((y 1), .inl (g.2 0, 18, .inl (aI o)))], [((y 2), .inl (g.2 0, 6, .inl (aI (uI l_ ((nVl f n (nEn f n e_))).toNat (nVl f n (nEn f n (nEn f n e_)))))))], [(q, .inr (7, [.ref (x 0), vI ((n : Nat) : Int), vI ((c_ : Nat) : Int), vI (((kdA f n (tS f n (nEn f n (nEn f n e_)))) : Nat) : Int), vI (((tS f n (nEn f n (nEn f n e_))) : Nat) : Int), vI (((nEn f n (nEn f n (nEn f n e_))) : Nat) : Int), .ref (x 1)]))], [((x 0), .inl (g.2 0, 200, .inl (aI f)))], [((x 1), .inl (g.2 0, 4, .inl (aI m2_23)))]] rfl (fun H locs hP hD hS => ?_)
              refine lv_goto (tgt := 214) hx hb dX7_readClause_209 (by decide) ?_
              refine z_iconst hx hb dX7_readClause_214 rfl ?_
              have hP : zP g [[(q, .inr (7, [.ref (x 0), vI ((n : Nat) : Int), vI ((c_ : Nat) : Int), vI (((kdA f n (tS f n (nEn f n (nEn f n e_)))) : Nat) : Int), vI (((tS f n (nEn f n (nEn f n e_))) : Nat) : Int), vI (((nEn f n (nEn f n (nEn f n e_))) : Nat) : Int), .ref (x 1)]))], [((x 0), .inl (g.2 0, 200, .inl (aI f)))], [((x 1), .inl (g.2 0, 4, .inl (aI m2_23)))], [(r, .inr (2, [vI v, vI ((b : Nat) : Int), .ref (y 0), .ref (y 1), .ref (y 2)]))], [((y 0), .inl (g.2 0, 6, .inl (aI h)))], [((y 1), .inl (g.2 0, 18, .inl (aI o)))], [((y 2), .inl (g.2 0, 6, .inl (aI (uI l_ ((nVl f n (nEn f n e_))).toNat (nVl f n (nEn f n (nEn f n e_)))))))]] H := zP_sub hP [4, 5, 6, 0, 1, 2, 3] rfl
              have hD : zD A [[(q, .inr (7, [.ref (x 0), vI ((n : Nat) : Int), vI ((c_ : Nat) : Int), vI (((kdA f n (tS f n (nEn f n (nEn f n e_)))) : Nat) : Int), vI (((tS f n (nEn f n (nEn f n e_))) : Nat) : Int), vI (((nEn f n (nEn f n (nEn f n e_))) : Nat) : Int), .ref (x 1)]))], [((x 0), .inl (g.2 0, 200, .inl (aI f)))], [((x 1), .inl (g.2 0, 4, .inl (aI m2_23)))], [(r, .inr (2, [vI v, vI ((b : Nat) : Int), .ref (y 0), .ref (y 1), .ref (y 2)]))], [((y 0), .inl (g.2 0, 6, .inl (aI h)))], [((y 1), .inl (g.2 0, 18, .inl (aI o)))], [((y 2), .inl (g.2 0, 6, .inl (aI (uI l_ ((nVl f n (nEn f n e_))).toNat (nVl f n (nEn f n (nEn f n e_)))))))]] := zD_sub hD [4, 5, 6, 0, 1, 2, 3] rfl rfl
              have hP : zP g [[(q, .inr (7, [.ref (x 0), vI ((n : Nat) : Int), vI ((c_ : Nat) : Int), vI (((kdA f n (tS f n (nEn f n (nEn f n e_)))) : Nat) : Int), vI (((tS f n (nEn f n (nEn f n e_))) : Nat) : Int), vI (((nEn f n (nEn f n (nEn f n e_))) : Nat) : Int), .ref (x 1)]))], [((x 0), .inl (g.2 0, 200, .inl (aI f)))], [((x 1), .inl (g.2 0, 4, .inl (aI m2_23)))], (netW g r y v b h o (uI l_ ((nVl f n (nEn f n e_))).toNat (nVl f n (nEn f n (nEn f n e_)))))] H := hP
              have hD : zD A [[(q, .inr (7, [.ref (x 0), vI ((n : Nat) : Int), vI ((c_ : Nat) : Int), vI (((kdA f n (tS f n (nEn f n (nEn f n e_)))) : Nat) : Int), vI (((tS f n (nEn f n (nEn f n e_))) : Nat) : Int), vI (((nEn f n (nEn f n (nEn f n e_))) : Nat) : Int), .ref (x 1)]))], [((x 0), .inl (g.2 0, 200, .inl (aI f)))], [((x 1), .inl (g.2 0, 4, .inl (aI m2_23)))], (netW g r y v b h o (uI l_ ((nVl f n (nEn f n e_))).toNat (nVl f n (nEn f n (nEn f n e_)))))] := hD
              have hP : zP g [(textW g q x n c_ (kdA f n (tS f n (nEn f n (nEn f n e_)))) (tS f n (nEn f n (nEn f n e_))) (nEn f n (nEn f n (nEn f n e_))) f m2_23), (netW g r y v b h o (uI l_ ((nVl f n (nEn f n e_))).toNat (nVl f n (nEn f n (nEn f n e_)))))] H := hP
              have hD : zD A [(textW g q x n c_ (kdA f n (tS f n (nEn f n (nEn f n e_)))) (tS f n (nEn f n (nEn f n e_))) (nEn f n (nEn f n (nEn f n e_))) f m2_23), (netW g r y v b h o (uI l_ ((nVl f n (nEn f n e_))).toNat (nVl f n (nEn f n (nEn f n e_)))))] := hD
              have hW := cWd_3 (f := f) (n := n) (e := e_) (by omega) (by omega) (by omega) (by omega) 
              have hC : 1 = cOk f n e_ b := by unfold cOk; rw [hW]; show _ = (if _ then nOk f n (nEn f n (nEn f n e_)) 0 999 else (0 : Int)); rw [if_pos (by assumption)]; omega
              have hQ : (nEn f n (nEn f n (nEn f n e_))) = cPs f n e_ b := by unfold cPs; rw [hW]; show _ = (if _ then (if _ then _ else _) else _); rw [if_pos (by assumption), if_pos (by assumption)]
              exact z_reti ((kdA f n (tS f n (nEn f n (nEn f n e_)))), (tS f n (nEn f n (nEn f n e_))), (nEn f n (nEn f n (nEn f n e_))), m2_23, v, b, h, o, (uI l_ ((nVl f n (nEn f n e_))).toNat (nVl f n (nEn f n (nEn f n e_))))) [0, 1] hx hb hr (nar_z (by first | decide | omega)) hlocks hK hP hD hS (hC) (⟨fun _ => ⟨hQ, by exact (nEn_s f (e := (nEn f n (nEn f n e_))) (n := n) (by omega)).2.2, by rw [hW] <;> rfl, by rw [hW] <;> rfl, by rw [hW] <;> rfl, by rw [hW] <;> rfl, by rw [hW] <;> rfl⟩, fun h9 => False.elim (by omega), Or.inr hC.symm⟩) rfl rfl (rfl) (Nat.le_of_ble_eq_true rfl) (Nat.le_of_ble_eq_true rfl) dX7_readClause_215
            · refine z_iconst hx hb dX7_readClause_190 rfl ?_
              have hP : zP g [(netW g r y v b h o l_), (textW g q x n c_ (kdA f n (tS f n (nEn f n (nEn f n e_)))) (tS f n (nEn f n (nEn f n e_))) (nEn f n (nEn f n (nEn f n e_))) f m2_23)] H := hP
              have hD : zD A [(netW g r y v b h o l_), (textW g q x n c_ (kdA f n (tS f n (nEn f n (nEn f n e_)))) (tS f n (nEn f n (nEn f n e_))) (nEn f n (nEn f n (nEn f n e_))) f m2_23)] := hD
              have hW := cWd_3 (f := f) (n := n) (e := e_) (by omega) (by omega) (by omega) (by omega) 
              have hC : 0 = cOk f n e_ b := by unfold cOk; rw [hW]; show _ = (if _ then nOk f n (nEn f n (nEn f n e_)) 0 999 else (0 : Int)); rw [if_pos (by assumption)]; omega
              have hQ : (tS f n (nEn f n (nEn f n e_))) = cPs f n e_ b := by unfold cPs; rw [hW]; show _ = (if _ then (if _ then _ else _) else _); rw [if_pos (by assumption), if_neg (by omega)]
              exact z_reti ((kdA f n (tS f n (nEn f n (nEn f n e_)))), (tS f n (nEn f n (nEn f n e_))), (nEn f n (nEn f n (nEn f n e_))), m2_23, v, b, h, o, l_) [1, 0] hx hb hr (nar_z (by first | decide | omega)) hlocks hK hP hD hS (hC) (⟨fun h9 => False.elim (by omega), fun _ => hQ, Or.inl hC.symm⟩) rfl rfl (rfl) (Nat.le_of_ble_eq_true rfl) (Nat.le_of_ble_eq_true rfl) dX7_readClause_191
      · rcases (show b = 6 ∨ b < 6 by omega) with hb6 | hb6
        · refine lv_aload_n hx hb dX7_readClause_92 rfl (lv_at hl 1 rfl) ?_
          refine z_cVi (As := []) (rest := []) ⟨hx, hb, hml, hown, hts⟩ hK hP hD hS hA [0] [1, 2, 3, 4] rfl rfl rfl (c_X2_isFull l g r (y 0) (y 1) (y 2) v b (by first | assumption | omega | decide)) (cwV 0 hts gX7_readClause_X2_isFull rfl rfl rfl (by decide +kernel) ⟨Nat.le_of_ble_eq_true rfl, Nat.le_of_ble_eq_true rfl⟩) 2 0 rfl rfl rfl (fun _ _ _ _ _ _ => trivial) (fun _ _ _ => trivial) rfl hl.1 (Nat.le_of_ble_eq_true rfl) rfl dX7_readClause_93 ⟨Nat.le_of_ble_eq_true rfl, Nat.le_of_ble_eq_true rfl⟩ (fun u_28 H locs hwu_28 hP hD hS => ?_)
          try dsimp only at hwu_28
          have hP : zP g [[((y 0), .inl (g.2 0, 6, .inl (aI h)))], [((y 1), .inl (g.2 0, 18, .inl (aI o)))], [((y 2), .inl (g.2 0, 6, .inl (aI l_)))], (textW g q x n c_ (kdA f n (tS f n e_)) (tS f n e_) (nEn f n e_) f m_), [(r, .inr (2, [vI v, vI ((b : Nat) : Int), .ref (y 0), .ref (y 1), .ref (y 2)]))]] H := hP
          have hD : zD A [[((y 0), .inl (g.2 0, 6, .inl (aI h)))], [((y 1), .inl (g.2 0, 18, .inl (aI o)))], [((y 2), .inl (g.2 0, 6, .inl (aI l_)))], (textW g q x n c_ (kdA f n (tS f n e_)) (tS f n e_) (nEn f n e_) f m_), [(r, .inr (2, [vI v, vI ((b : Nat) : Int), .ref (y 0), .ref (y 1), .ref (y 2)]))]] := hD
          have hP : zP g [[((y 0), .inl (g.2 0, 6, .inl (aI h)))], [((y 1), .inl (g.2 0, 18, .inl (aI o)))], [((y 2), .inl (g.2 0, 6, .inl (aI l_)))], [(r, .inr (2, [vI v, vI ((b : Nat) : Int), .ref (y 0), .ref (y 1), .ref (y 2)]))], (textW g q x n c_ (kdA f n (tS f n e_)) (tS f n e_) (nEn f n e_) f m_)] H := zP_sub hP [0, 1, 2, 4, 3] rfl
          have hD : zD A [[((y 0), .inl (g.2 0, 6, .inl (aI h)))], [((y 1), .inl (g.2 0, 18, .inl (aI o)))], [((y 2), .inl (g.2 0, 6, .inl (aI l_)))], [(r, .inr (2, [vI v, vI ((b : Nat) : Int), .ref (y 0), .ref (y 1), .ref (y 2)]))], (textW g q x n c_ (kdA f n (tS f n e_)) (tS f n e_) (nEn f n e_) f m_)] := zD_sub hD [0, 1, 2, 4, 3] rfl rfl
          refine z_toI (if b = 6 then 1 else 0 : Int) rfl ?_
          refine z_toI 1 (if_pos (by omega)) ?_
          refine z_if_ne (tgt := 121) hx hb (by decide) dX7_readClause_96 (by decide) (fun c29 => ?_) (fun c29 => False.elim (by omega))
          refine z_iconst hx hb dX7_readClause_121 rfl ?_
          have hP : zP g [[(r, .inr (2, [vI v, vI ((b : Nat) : Int), .ref (y 0), .ref (y 1), .ref (y 2)]))], [((y 0), .inl (g.2 0, 6, .inl (aI h)))], [((y 1), .inl (g.2 0, 18, .inl (aI o)))], [((y 2), .inl (g.2 0, 6, .inl (aI l_)))], (textW g q x n c_ (kdA f n (tS f n e_)) (tS f n e_) (nEn f n e_) f m_)] H := zP_sub hP [3, 0, 1, 2, 4] rfl
          have hD : zD A [[(r, .inr (2, [vI v, vI ((b : Nat) : Int), .ref (y 0), .ref (y 1), .ref (y 2)]))], [((y 0), .inl (g.2 0, 6, .inl (aI h)))], [((y 1), .inl (g.2 0, 18, .inl (aI o)))], [((y 2), .inl (g.2 0, 6, .inl (aI l_)))], (textW g q x n c_ (kdA f n (tS f n e_)) (tS f n e_) (nEn f n e_) f m_)] := zD_sub hD [3, 0, 1, 2, 4] rfl rfl
          have hP : zP g [(netW g r y v b h o l_), (textW g q x n c_ (kdA f n (tS f n e_)) (tS f n e_) (nEn f n e_) f m_)] H := hP
          have hD : zD A [(netW g r y v b h o l_), (textW g q x n c_ (kdA f n (tS f n e_)) (tS f n e_) (nEn f n e_) f m_)] := hD
          have hW := cWd_2 (f := f) (n := n) (e := e_) (by omega) (by omega) (by omega) 
          have hC : 0 = cOk f n e_ b := by unfold cOk; rw [hW]; show _ = (if b = 6 then (0 : Int) else _); rw [if_pos hb6]
          have hQ : (tS f n e_) = cPs f n e_ b := by unfold cPs; rw [hW]; show _ = (if b = 6 then _ else _); rw [if_pos hb6]
          exact z_reti ((kdA f n (tS f n e_)), (tS f n e_), (nEn f n e_), m_, v, b, h, o, l_) [1, 0] hx hb hr (nar_z (by first | decide | omega)) hlocks hK hP hD hS (hC) (⟨fun h9 => False.elim (by omega), fun _ => hQ, Or.inl hC.symm⟩) rfl rfl (rfl) (Nat.le_of_ble_eq_true rfl) (Nat.le_of_ble_eq_true rfl) dX7_readClause_122
        · refine lv_aload_n hx hb dX7_readClause_92 rfl (lv_at hl 1 rfl) ?_
          refine z_cVi (As := []) (rest := []) ⟨hx, hb, hml, hown, hts⟩ hK hP hD hS hA [0] [1, 2, 3, 4] rfl rfl rfl (c_X2_isFull l g r (y 0) (y 1) (y 2) v b (by first | assumption | omega | decide)) (cwV 0 hts gX7_readClause_X2_isFull rfl rfl rfl (by decide +kernel) ⟨Nat.le_of_ble_eq_true rfl, Nat.le_of_ble_eq_true rfl⟩) 2 0 rfl rfl rfl (fun _ _ _ _ _ _ => trivial) (fun _ _ _ => trivial) rfl hl.1 (Nat.le_of_ble_eq_true rfl) rfl dX7_readClause_93 ⟨Nat.le_of_ble_eq_true rfl, Nat.le_of_ble_eq_true rfl⟩ (fun u_30 H locs hwu_30 hP hD hS => ?_)
          try dsimp only at hwu_30
          have hP : zP g [[((y 0), .inl (g.2 0, 6, .inl (aI h)))], [((y 1), .inl (g.2 0, 18, .inl (aI o)))], [((y 2), .inl (g.2 0, 6, .inl (aI l_)))], (textW g q x n c_ (kdA f n (tS f n e_)) (tS f n e_) (nEn f n e_) f m_), [(r, .inr (2, [vI v, vI ((b : Nat) : Int), .ref (y 0), .ref (y 1), .ref (y 2)]))]] H := hP
          have hD : zD A [[((y 0), .inl (g.2 0, 6, .inl (aI h)))], [((y 1), .inl (g.2 0, 18, .inl (aI o)))], [((y 2), .inl (g.2 0, 6, .inl (aI l_)))], (textW g q x n c_ (kdA f n (tS f n e_)) (tS f n e_) (nEn f n e_) f m_), [(r, .inr (2, [vI v, vI ((b : Nat) : Int), .ref (y 0), .ref (y 1), .ref (y 2)]))]] := hD
          have hP : zP g [[((y 0), .inl (g.2 0, 6, .inl (aI h)))], [((y 1), .inl (g.2 0, 18, .inl (aI o)))], [((y 2), .inl (g.2 0, 6, .inl (aI l_)))], [(r, .inr (2, [vI v, vI ((b : Nat) : Int), .ref (y 0), .ref (y 1), .ref (y 2)]))], (textW g q x n c_ (kdA f n (tS f n e_)) (tS f n e_) (nEn f n e_) f m_)] H := zP_sub hP [0, 1, 2, 4, 3] rfl
          have hD : zD A [[((y 0), .inl (g.2 0, 6, .inl (aI h)))], [((y 1), .inl (g.2 0, 18, .inl (aI o)))], [((y 2), .inl (g.2 0, 6, .inl (aI l_)))], [(r, .inr (2, [vI v, vI ((b : Nat) : Int), .ref (y 0), .ref (y 1), .ref (y 2)]))], (textW g q x n c_ (kdA f n (tS f n e_)) (tS f n e_) (nEn f n e_) f m_)] := zD_sub hD [0, 1, 2, 4, 3] rfl rfl
          refine z_toI (if b = 6 then 1 else 0 : Int) rfl ?_
          refine z_toI 0 (if_neg (by omega)) ?_
          refine z_if_ne (tgt := 121) hx hb (by decide) dX7_readClause_96 (by decide) (fun c31 => False.elim (by omega)) (fun c31 => ?_)
          refine lv_aload_n hx hb dX7_readClause_99 rfl (lv_at hl 0 rfl) ?_
          refine z_iconst hx hb dX7_readClause_100 rfl ?_
          refine z_iconst hx hb dX7_readClause_101 rfl ?_
          refine lv_aload_n hx hb dX7_readClause_102 rfl (lv_at hl 1 rfl) ?_
          refine z_get hx hb hts hin2_ hown hK hP 3 rfl rfl 1 (by decide) (hts _ (List.mem_of_getElem? (i := 2) rfl)) rfl dX7_readClause_103 ?_
          refine z_iconst hx hb dX7_readClause_106 rfl ?_
          refine z_isub hx hb (((b : Nat) : Int) - 1) rfl dX7_readClause_107 ?_
          refine z_cVi (As := [vI 0, vI 0, vI (((b : Nat) : Int) - 1)]) (rest := []) ⟨hx, hb, hml, hown, hts⟩ hK hP hD hS hA [4] [0, 1, 2, 3] rfl rfl rfl (c_X7_readNumber l g q x n c_ (kdA f n (tS f n e_)) (tS f n e_) (nEn f n e_) f m_ 0 0 (((b : Nat) : Int) - 1) (by first | assumption | omega | decide) (by first | assumption | omega | decide) (by first | assumption | omega | decide) (by first | assumption | omega | decide) (by first | assumption | omega | decide) (by first | assumption | omega | decide)) (cwV 3 hts gX7_readClause_X7_readNumber rfl rfl rfl (by decide +kernel) ⟨Nat.le_of_ble_eq_true rfl, Nat.le_of_ble_eq_true rfl⟩) 7 0 rfl rfl rfl (fun _ _ _ _ _ _ => trivial) (fun _ _ _ => trivial) rfl hl.1 (Nat.le_of_ble_eq_true rfl) rfl dX7_readClause_108 ⟨Nat.le_of_ble_eq_true rfl, Nat.le_of_ble_eq_true rfl⟩ (fun u_32 H locs hwu_32 hP hD hS => ?_)
          obtain ⟨m2_33, rfl⟩ : ∃ z_, z_ = u_32 := ⟨_, rfl⟩
          try dsimp only at hwu_32
          have hP : zP g [[((y 0), .inl (g.2 0, 6, .inl (aI h)))], [((y 1), .inl (g.2 0, 18, .inl (aI o)))], [((y 2), .inl (g.2 0, 6, .inl (aI l_)))], [(r, .inr (2, [vI v, vI ((b : Nat) : Int), .ref (y 0), .ref (y 1), .ref (y 2)]))], (textW g q x n c_ (kdA f n (tS f n (nEn f n e_))) (tS f n (nEn f n e_)) (tE f n (tS f n (nEn f n e_))) f m2_33)] H := hP
          have hD : zD A [[((y 0), .inl (g.2 0, 6, .inl (aI h)))], [((y 1), .inl (g.2 0, 18, .inl (aI o)))], [((y 2), .inl (g.2 0, 6, .inl (aI l_)))], [(r, .inr (2, [vI v, vI ((b : Nat) : Int), .ref (y 0), .ref (y 1), .ref (y 2)]))], (textW g q x n c_ (kdA f n (tS f n (nEn f n e_))) (tS f n (nEn f n e_)) (tE f n (tS f n (nEn f n e_))) f m2_33)] := hD
          refine z_toI (nOk f n (nEn f n e_) 0 (((b : Nat) : Int) - 1)) rfl ?_
          have hf_34 := nOk_s f n (nEn f n e_) 0 (((b : Nat) : Int) - 1)
          have hP : zP g [[((y 0), .inl (g.2 0, 6, .inl (aI h)))], [((y 1), .inl (g.2 0, 18, .inl (aI o)))], [((y 2), .inl (g.2 0, 6, .inl (aI l_)))], [(r, .inr (2, [vI v, vI ((b : Nat) : Int), .ref (y 0), .ref (y 1), .ref (y 2)]))], (textW g q x n c_ (kdA f n (tS f n (nEn f n e_))) (tS f n (nEn f n e_)) (nEn f n (nEn f n e_)) f m2_33)] H := hP
          have hD : zD A [[((y 0), .inl (g.2 0, 6, .inl (aI h)))], [((y 1), .inl (g.2 0, 18, .inl (aI o)))], [((y 2), .inl (g.2 0, 6, .inl (aI l_)))], [(r, .inr (2, [vI v, vI ((b : Nat) : Int), .ref (y 0), .ref (y 1), .ref (y 2)]))], (textW g q x n c_ (kdA f n (tS f n (nEn f n e_))) (tS f n (nEn f n e_)) (nEn f n (nEn f n e_)) f m2_33)] := hD
          have hne_35 := nEn_s f (e := (nEn f n e_)) (n := n) (by omega)
          refine z_if_eq (tgt := 121) hx hb (by omega) dX7_readClause_111 (by decide) (fun c36 => ?_) (fun c36 => ?_)
          · refine z_iconst hx hb dX7_readClause_121 rfl ?_
            have hP : zP g [[(r, .inr (2, [vI v, vI ((b : Nat) : Int), .ref (y 0), .ref (y 1), .ref (y 2)]))], [((y 0), .inl (g.2 0, 6, .inl (aI h)))], [((y 1), .inl (g.2 0, 18, .inl (aI o)))], [((y 2), .inl (g.2 0, 6, .inl (aI l_)))], (textW g q x n c_ (kdA f n (tS f n (nEn f n e_))) (tS f n (nEn f n e_)) (nEn f n (nEn f n e_)) f m2_33)] H := zP_sub hP [3, 0, 1, 2, 4] rfl
            have hD : zD A [[(r, .inr (2, [vI v, vI ((b : Nat) : Int), .ref (y 0), .ref (y 1), .ref (y 2)]))], [((y 0), .inl (g.2 0, 6, .inl (aI h)))], [((y 1), .inl (g.2 0, 18, .inl (aI o)))], [((y 2), .inl (g.2 0, 6, .inl (aI l_)))], (textW g q x n c_ (kdA f n (tS f n (nEn f n e_))) (tS f n (nEn f n e_)) (nEn f n (nEn f n e_)) f m2_33)] := zD_sub hD [3, 0, 1, 2, 4] rfl rfl
            have hP : zP g [(netW g r y v b h o l_), (textW g q x n c_ (kdA f n (tS f n (nEn f n e_))) (tS f n (nEn f n e_)) (nEn f n (nEn f n e_)) f m2_33)] H := hP
            have hD : zD A [(netW g r y v b h o l_), (textW g q x n c_ (kdA f n (tS f n (nEn f n e_))) (tS f n (nEn f n e_)) (nEn f n (nEn f n e_)) f m2_33)] := hD
            have hW := cWd_2 (f := f) (n := n) (e := e_) (by omega) (by omega) (by omega) 
            have hC : 0 = cOk f n e_ b := by unfold cOk; rw [hW]; show _ = (if b = 6 then (0 : Int) else if _ then _ else 0); rw [if_neg (by omega), if_neg (by omega)]
            have hQ : (tS f n (nEn f n e_)) = cPs f n e_ b := by unfold cPs; rw [hW]; show _ = (if b = 6 then _ else if _ then _ else _); rw [if_neg (by omega), if_neg (by omega)]
            exact z_reti ((kdA f n (tS f n (nEn f n e_))), (tS f n (nEn f n e_)), (nEn f n (nEn f n e_)), m2_33, v, b, h, o, l_) [1, 0] hx hb hr (nar_z (by first | decide | omega)) hlocks hK hP hD hS (hC) (⟨fun h9 => False.elim (by omega), fun _ => hQ, Or.inl hC.symm⟩) rfl rfl (rfl) (Nat.le_of_ble_eq_true rfl) (Nat.le_of_ble_eq_true rfl) dX7_readClause_122
          · have hy_37 : nOk f n (nEn f n e_) 0 ((b : Int) - 1) = 1 := by omega
            refine lv_aload_n hx hb dX7_readClause_114 rfl (lv_at hl 0 rfl) ?_
            refine z_cVi (As := []) (rest := []) ⟨hx, hb, hml, hown, hts⟩ hK hP hD hS hA [4] [0, 1, 2, 3] rfl rfl rfl (c_X7_readOhms l g q x n c_ (kdA f n (tS f n (nEn f n e_))) (tS f n (nEn f n e_)) (nEn f n (nEn f n e_)) f m2_33 (by first | assumption | omega | decide) (by first | assumption | omega | decide) (by first | assumption | omega | decide)) (cwV 0 hts gX7_readClause_X7_readOhms rfl rfl rfl (by decide +kernel) ⟨Nat.le_of_ble_eq_true rfl, Nat.le_of_ble_eq_true rfl⟩) 7 0 rfl rfl rfl (fun _ _ _ _ _ _ => trivial) (fun _ _ _ => trivial) rfl hl.1 (Nat.le_of_ble_eq_true rfl) rfl dX7_readClause_115 ⟨Nat.le_of_ble_eq_true rfl, Nat.le_of_ble_eq_true rfl⟩ (fun u_38 H locs hwu_38 hP hD hS => ?_)
            obtain ⟨k2_39, s2_40, e2_41, m2_42⟩ := u_38
            try dsimp only at hwu_38
            have hP : zP g [[((y 0), .inl (g.2 0, 6, .inl (aI h)))], [((y 1), .inl (g.2 0, 18, .inl (aI o)))], [((y 2), .inl (g.2 0, 6, .inl (aI l_)))], [(r, .inr (2, [vI v, vI ((b : Nat) : Int), .ref (y 0), .ref (y 1), .ref (y 2)]))], (textW g q x n c_ k2_39 s2_40 e2_41 f m2_42)] H := hP
            have hD : zD A [[((y 0), .inl (g.2 0, 6, .inl (aI h)))], [((y 1), .inl (g.2 0, 18, .inl (aI o)))], [((y 2), .inl (g.2 0, 6, .inl (aI l_)))], [(r, .inr (2, [vI v, vI ((b : Nat) : Int), .ref (y 0), .ref (y 1), .ref (y 2)]))], (textW g q x n c_ k2_39 s2_40 e2_41 f m2_42)] := hD
            refine z_toI (oOk f n (nEn f n (nEn f n e_))) rfl ?_
            have hf_43 := oOk_s f n (nEn f n (nEn f n e_))
            refine z_if_ne (tgt := 123) hx hb (by omega) dX7_readClause_118 (by decide) (fun c44 => ?_) (fun c44 => ?_)
            · have hy_45 : oOk f n (nEn f n (nEn f n e_)) = 1 := by omega
              have hP : zP g [[((y 0), .inl (g.2 0, 6, .inl (aI h)))], [((y 1), .inl (g.2 0, 18, .inl (aI o)))], [((y 2), .inl (g.2 0, 6, .inl (aI l_)))], [(r, .inr (2, [vI v, vI ((b : Nat) : Int), .ref (y 0), .ref (y 1), .ref (y 2)]))], [(q, .inr (7, [.ref (x 0), vI ((n : Nat) : Int), vI ((c_ : Nat) : Int), vI ((k2_39 : Nat) : Int), vI ((s2_40 : Nat) : Int), vI ((e2_41 : Nat) : Int), .ref (x 1)]))], [((x 0), .inl (g.2 0, 200, .inl (aI f)))], [((x 1), .inl (g.2 0, 4, .inl (aI m2_42)))]] H := hP
              have hD : zD A [[((y 0), .inl (g.2 0, 6, .inl (aI h)))], [((y 1), .inl (g.2 0, 18, .inl (aI o)))], [((y 2), .inl (g.2 0, 6, .inl (aI l_)))], [(r, .inr (2, [vI v, vI ((b : Nat) : Int), .ref (y 0), .ref (y 1), .ref (y 2)]))], [(q, .inr (7, [.ref (x 0), vI ((n : Nat) : Int), vI ((c_ : Nat) : Int), vI ((k2_39 : Nat) : Int), vI ((s2_40 : Nat) : Int), vI ((e2_41 : Nat) : Int), .ref (x 1)]))], [((x 0), .inl (g.2 0, 200, .inl (aI f)))], [((x 1), .inl (g.2 0, 4, .inl (aI m2_42)))]] := hD
              refine lv_aload_n hx hb dX7_readClause_123 rfl (lv_at hl 1 rfl) ?_
              refine lv_aload_n hx hb dX7_readClause_124 rfl (lv_at hl 0 rfl) ?_
              refine z_get hx hb hts hin7_ hown hK hP 4 rfl rfl 6 (by decide) (hts _ (List.mem_of_getElem? (i := 1) rfl)) rfl dX7_readClause_125 ?_
              refine z_iconst hx hb dX7_readClause_128 rfl ?_
              refine z_iald hx hb hK hP 6 rfl 0 rfl (by decide) (by decide) dX7_readClause_129 ?_
              refine z_toI (nVl f n (nEn f n e_)) (by rw [(hwu_38.1 (by assumption)).2.2, hwu_32 (by assumption)]; rfl) ?_
              refine lv_aload_n hx hb dX7_readClause_130 rfl (lv_at hl 0 rfl) ?_
              refine z_get hx hb hts hin7_ hown hK hP 4 rfl rfl 6 (by decide) (hts _ (List.mem_of_getElem? (i := 1) rfl)) rfl dX7_readClause_131 ?_
              refine z_iconst hx hb dX7_readClause_134 rfl ?_
              refine z_iald hx hb hK hP 6 rfl 1 rfl (by decide) (by decide) dX7_readClause_135 ?_
              refine z_toI (oV0 f n (nEn f n (nEn f n e_))) (by rw [(hwu_38.1 (by assumption)).2.2]; rfl) ?_
              refine lv_aload_n hx hb dX7_readClause_136 rfl (lv_at hl 0 rfl) ?_
              refine z_get hx hb hts hin7_ hown hK hP 4 rfl rfl 6 (by decide) (hts _ (List.mem_of_getElem? (i := 1) rfl)) rfl dX7_readClause_137 ?_
              refine z_iconst hx hb dX7_readClause_140 rfl ?_
              refine z_iald hx hb hK hP 6 rfl 2 rfl (by decide) (by decide) dX7_readClause_141 ?_
              refine z_toI (oV1 f n (nEn f n (nEn f n e_))) (by rw [(hwu_38.1 (by assumption)).2.2]; rfl) ?_
              refine lv_aload_n hx hb dX7_readClause_142 rfl (lv_at hl 0 rfl) ?_
              refine z_get hx hb hts hin7_ hown hK hP 4 rfl rfl 6 (by decide) (hts _ (List.mem_of_getElem? (i := 1) rfl)) rfl dX7_readClause_143 ?_
              refine z_iconst hx hb dX7_readClause_146 rfl ?_
              refine z_iald hx hb hK hP 6 rfl 3 rfl (by decide) (by decide) dX7_readClause_147 ?_
              refine z_toI (oV2 f n (nEn f n (nEn f n e_))) (by rw [(hwu_38.1 (by assumption)).2.2]; rfl) ?_
              refine z_cVv (As := [vI (nVl f n (nEn f n e_)), vI (oV0 f n (nEn f n (nEn f n e_))), vI (oV1 f n (nEn f n (nEn f n e_))), vI (oV2 f n (nEn f n (nEn f n e_)))]) (rest := []) ⟨hx, hb, hml, hown, hts⟩ hK hP hD hS hA [3, 0, 1, 2] [4, 5, 6] rfl rfl rfl (c_X2_hang l g r (y 0) (y 1) (y 2) v b h o l_ (nVl f n (nEn f n e_)) (oV0 f n (nEn f n (nEn f n e_))) (oV1 f n (nEn f n (nEn f n e_))) (oV2 f n (nEn f n (nEn f n e_))) (by first | assumption | omega | decide)) (cwV 4 hts gX7_readClause_X2_hang rfl rfl rfl (by decide +kernel) ⟨Nat.le_of_ble_eq_true rfl, Nat.le_of_ble_eq_true rfl⟩) 2 0 rfl rfl rfl (fun _ _ _ _ _ _ => trivial) (fun _ _ _ => trivial) rfl hl.1 (Nat.le_of_ble_eq_true rfl) rfl dX7_readClause_148 ⟨Nat.le_of_ble_eq_true rfl, Nat.le_of_ble_eq_true rfl⟩ (fun u_46 H locs hwu_46 hP hD hS => ?_)
              try dsimp only at hwu_46
              have hP : zP g [[(q, .inr (7, [.ref (x 0), vI ((n : Nat) : Int), vI ((c_ : Nat) : Int), vI ((k2_39 : Nat) : Int), vI ((s2_40 : Nat) : Int), vI ((e2_41 : Nat) : Int), .ref (x 1)]))], [((x 0), .inl (g.2 0, 200, .inl (aI f)))], [((x 1), .inl (g.2 0, 4, .inl (aI m2_42)))], [(r, .inr (2, [vI v, vI (((b + 1) : Nat) : Int), .ref (y 0), .ref (y 1), .ref (y 2)]))], [((y 0), .inl (g.2 0, 6, .inl (aI (uI h b (nVl f n (nEn f n e_))))))], [((y 1), .inl (g.2 0, 18, .inl (aI (rs3 o b (oV0 f n (nEn f n (nEn f n e_))) (oV1 f n (nEn f n (nEn f n e_))) (oV2 f n (nEn f n (nEn f n e_)))))))], [((y 2), .inl (g.2 0, 6, .inl (aI (uI l_ b 0))))]] H := hP
              have hD : zD A [[(q, .inr (7, [.ref (x 0), vI ((n : Nat) : Int), vI ((c_ : Nat) : Int), vI ((k2_39 : Nat) : Int), vI ((s2_40 : Nat) : Int), vI ((e2_41 : Nat) : Int), .ref (x 1)]))], [((x 0), .inl (g.2 0, 200, .inl (aI f)))], [((x 1), .inl (g.2 0, 4, .inl (aI m2_42)))], [(r, .inr (2, [vI v, vI (((b + 1) : Nat) : Int), .ref (y 0), .ref (y 1), .ref (y 2)]))], [((y 0), .inl (g.2 0, 6, .inl (aI (uI h b (nVl f n (nEn f n e_))))))], [((y 1), .inl (g.2 0, 18, .inl (aI (rs3 o b (oV0 f n (nEn f n (nEn f n e_))) (oV1 f n (nEn f n (nEn f n e_))) (oV2 f n (nEn f n (nEn f n e_)))))))], [((y 2), .inl (g.2 0, 6, .inl (aI (uI l_ b 0))))]] := hD
              refine lv_goto (tgt := 214) hx hb dX7_readClause_151 (by decide) ?_
              refine z_iconst hx hb dX7_readClause_214 rfl ?_
              have hP : zP g [[(q, .inr (7, [.ref (x 0), vI ((n : Nat) : Int), vI ((c_ : Nat) : Int), vI ((k2_39 : Nat) : Int), vI ((s2_40 : Nat) : Int), vI ((e2_41 : Nat) : Int), .ref (x 1)]))], [((x 0), .inl (g.2 0, 200, .inl (aI f)))], [((x 1), .inl (g.2 0, 4, .inl (aI m2_42)))], (netW g r y v (b + 1) (uI h b (nVl f n (nEn f n e_))) (rs3 o b (oV0 f n (nEn f n (nEn f n e_))) (oV1 f n (nEn f n (nEn f n e_))) (oV2 f n (nEn f n (nEn f n e_)))) (uI l_ b 0))] H := hP
              have hD : zD A [[(q, .inr (7, [.ref (x 0), vI ((n : Nat) : Int), vI ((c_ : Nat) : Int), vI ((k2_39 : Nat) : Int), vI ((s2_40 : Nat) : Int), vI ((e2_41 : Nat) : Int), .ref (x 1)]))], [((x 0), .inl (g.2 0, 200, .inl (aI f)))], [((x 1), .inl (g.2 0, 4, .inl (aI m2_42)))], (netW g r y v (b + 1) (uI h b (nVl f n (nEn f n e_))) (rs3 o b (oV0 f n (nEn f n (nEn f n e_))) (oV1 f n (nEn f n (nEn f n e_))) (oV2 f n (nEn f n (nEn f n e_)))) (uI l_ b 0))] := hD
              have hP : zP g [(textW g q x n c_ k2_39 s2_40 e2_41 f m2_42), (netW g r y v (b + 1) (uI h b (nVl f n (nEn f n e_))) (rs3 o b (oV0 f n (nEn f n (nEn f n e_))) (oV1 f n (nEn f n (nEn f n e_))) (oV2 f n (nEn f n (nEn f n e_)))) (uI l_ b 0))] H := hP
              have hD : zD A [(textW g q x n c_ k2_39 s2_40 e2_41 f m2_42), (netW g r y v (b + 1) (uI h b (nVl f n (nEn f n e_))) (rs3 o b (oV0 f n (nEn f n (nEn f n e_))) (oV1 f n (nEn f n (nEn f n e_))) (oV2 f n (nEn f n (nEn f n e_)))) (uI l_ b 0))] := hD
              have hW := cWd_2 (f := f) (n := n) (e := e_) (by omega) (by omega) (by omega) 
              have hC : 1 = cOk f n e_ b := by unfold cOk; rw [hW]; show _ = (if b = 6 then (0 : Int) else if _ then oOk f n (nEn f n (nEn f n e_)) else 0); rw [if_neg (by omega), if_pos (by assumption)]; omega
              have hQ : e2_41 = cPs f n e_ b := by unfold cPs; rw [hW]; show _ = (if b = 6 then _ else if _ then _ else _); rw [if_neg (by omega), if_pos (by assumption)]; exact (hwu_38.1 (by assumption)).1
              exact z_reti (k2_39, s2_40, e2_41, m2_42, v, (b + 1), (uI h b (nVl f n (nEn f n e_))), (rs3 o b (oV0 f n (nEn f n (nEn f n e_))) (oV1 f n (nEn f n (nEn f n e_))) (oV2 f n (nEn f n (nEn f n e_)))), (uI l_ b 0)) [0, 1] hx hb hr (nar_z (by first | decide | omega)) hlocks hK hP hD hS (hC) (⟨fun _ => ⟨hQ, by (have := (hwu_38.1 (by assumption)).2.1; omega), by rw [hW] <;> rfl, by rw [hW] <;> rfl, by rw [hW] <;> rfl, by rw [hW] <;> rfl, by rw [hW] <;> rfl⟩, fun h9 => False.elim (by omega), Or.inr hC.symm⟩) rfl rfl (rfl) (Nat.le_of_ble_eq_true rfl) (Nat.le_of_ble_eq_true rfl) dX7_readClause_215
            · refine z_iconst hx hb dX7_readClause_121 rfl ?_
              have hP : zP g [[(r, .inr (2, [vI v, vI ((b : Nat) : Int), .ref (y 0), .ref (y 1), .ref (y 2)]))], [((y 0), .inl (g.2 0, 6, .inl (aI h)))], [((y 1), .inl (g.2 0, 18, .inl (aI o)))], [((y 2), .inl (g.2 0, 6, .inl (aI l_)))], (textW g q x n c_ k2_39 s2_40 e2_41 f m2_42)] H := zP_sub hP [3, 0, 1, 2, 4] rfl
              have hD : zD A [[(r, .inr (2, [vI v, vI ((b : Nat) : Int), .ref (y 0), .ref (y 1), .ref (y 2)]))], [((y 0), .inl (g.2 0, 6, .inl (aI h)))], [((y 1), .inl (g.2 0, 18, .inl (aI o)))], [((y 2), .inl (g.2 0, 6, .inl (aI l_)))], (textW g q x n c_ k2_39 s2_40 e2_41 f m2_42)] := zD_sub hD [3, 0, 1, 2, 4] rfl rfl
              have hP : zP g [(netW g r y v b h o l_), (textW g q x n c_ k2_39 s2_40 e2_41 f m2_42)] H := hP
              have hD : zD A [(netW g r y v b h o l_), (textW g q x n c_ k2_39 s2_40 e2_41 f m2_42)] := hD
              have hW := cWd_2 (f := f) (n := n) (e := e_) (by omega) (by omega) (by omega) 
              have hC : 0 = cOk f n e_ b := by unfold cOk; rw [hW]; show _ = (if b = 6 then (0 : Int) else if _ then oOk f n (nEn f n (nEn f n e_)) else 0); rw [if_neg (by omega), if_pos (by assumption)]; omega
              have hQ : s2_40 = cPs f n e_ b := by unfold cPs; rw [hW]; show _ = (if b = 6 then _ else if _ then _ else _); rw [if_neg (by omega), if_pos (by assumption)]; exact hwu_38.2 (by omega)
              exact z_reti (k2_39, s2_40, e2_41, m2_42, v, b, h, o, l_) [1, 0] hx hb hr (nar_z (by first | decide | omega)) hlocks hK hP hD hS (hC) (⟨fun h9 => False.elim (by omega), fun _ => hQ, Or.inl hC.symm⟩) rfl rfl (rfl) (Nat.le_of_ble_eq_true rfl) (Nat.le_of_ble_eq_true rfl) dX7_readClause_122
    · refine lv_aload_n hx hb dX7_readClause_48 rfl (lv_at hl 0 rfl) ?_
      refine z_cVi (As := []) (rest := []) ⟨hx, hb, hml, hown, hts⟩ hK hP hD hS hA [4] [0, 1, 2, 3] rfl rfl rfl (c_X7_readOhms l g q x n c_ (kdA f n (tS f n e_)) (tS f n e_) (nEn f n e_) f m_ (by first | assumption | omega | decide) (by first | assumption | omega | decide) (by first | assumption | omega | decide)) (cwV 0 hts gX7_readClause_X7_readOhms rfl rfl rfl (by decide +kernel) ⟨Nat.le_of_ble_eq_true rfl, Nat.le_of_ble_eq_true rfl⟩) 7 0 rfl rfl rfl (fun _ _ _ _ _ _ => trivial) (fun _ _ _ => trivial) rfl hl.1 (Nat.le_of_ble_eq_true rfl) rfl dX7_readClause_49 ⟨Nat.le_of_ble_eq_true rfl, Nat.le_of_ble_eq_true rfl⟩ (fun u_47 H locs hwu_47 hP hD hS => ?_)
      obtain ⟨k2_48, s2_49, e2_50, m2_51⟩ := u_47
      try dsimp only at hwu_47
      have hP : zP g [[(r, .inr (2, [vI v, vI ((b : Nat) : Int), .ref (y 0), .ref (y 1), .ref (y 2)]))], [((y 0), .inl (g.2 0, 6, .inl (aI h)))], [((y 1), .inl (g.2 0, 18, .inl (aI o)))], [((y 2), .inl (g.2 0, 6, .inl (aI l_)))], (textW g q x n c_ k2_48 s2_49 e2_50 f m2_51)] H := hP
      have hD : zD A [[(r, .inr (2, [vI v, vI ((b : Nat) : Int), .ref (y 0), .ref (y 1), .ref (y 2)]))], [((y 0), .inl (g.2 0, 6, .inl (aI h)))], [((y 1), .inl (g.2 0, 18, .inl (aI o)))], [((y 2), .inl (g.2 0, 6, .inl (aI l_)))], (textW g q x n c_ k2_48 s2_49 e2_50 f m2_51)] := hD
      refine z_toI (oOk f n (nEn f n e_)) rfl ?_
      have hf_52 := oOk_s f n (nEn f n e_)
      refine z_if_ne (tgt := 57) hx hb (by omega) dX7_readClause_52 (by decide) (fun c53 => ?_) (fun c53 => ?_)
      · have hy_54 : oOk f n (nEn f n e_) = 1 := by omega
        have hP : zP g [[(r, .inr (2, [vI v, vI ((b : Nat) : Int), .ref (y 0), .ref (y 1), .ref (y 2)]))], [((y 0), .inl (g.2 0, 6, .inl (aI h)))], [((y 1), .inl (g.2 0, 18, .inl (aI o)))], [((y 2), .inl (g.2 0, 6, .inl (aI l_)))], [(q, .inr (7, [.ref (x 0), vI ((n : Nat) : Int), vI ((c_ : Nat) : Int), vI ((k2_48 : Nat) : Int), vI ((s2_49 : Nat) : Int), vI ((e2_50 : Nat) : Int), .ref (x 1)]))], [((x 0), .inl (g.2 0, 200, .inl (aI f)))], [((x 1), .inl (g.2 0, 4, .inl (aI m2_51)))]] H := hP
        have hD : zD A [[(r, .inr (2, [vI v, vI ((b : Nat) : Int), .ref (y 0), .ref (y 1), .ref (y 2)]))], [((y 0), .inl (g.2 0, 6, .inl (aI h)))], [((y 1), .inl (g.2 0, 18, .inl (aI o)))], [((y 2), .inl (g.2 0, 6, .inl (aI l_)))], [(q, .inr (7, [.ref (x 0), vI ((n : Nat) : Int), vI ((c_ : Nat) : Int), vI ((k2_48 : Nat) : Int), vI ((s2_49 : Nat) : Int), vI ((e2_50 : Nat) : Int), .ref (x 1)]))], [((x 0), .inl (g.2 0, 200, .inl (aI f)))], [((x 1), .inl (g.2 0, 4, .inl (aI m2_51)))]] := hD
        refine lv_aload_n hx hb dX7_readClause_57 rfl (lv_at hl 1 rfl) ?_
        refine z_iconst hx hb dX7_readClause_58 rfl ?_
        refine lv_aload_n hx hb dX7_readClause_59 rfl (lv_at hl 0 rfl) ?_
        refine z_get hx hb hts hin7_ hown hK hP 4 rfl rfl 6 (by decide) (hts _ (List.mem_of_getElem? (i := 1) rfl)) rfl dX7_readClause_60 ?_
        refine z_iconst hx hb dX7_readClause_63 rfl ?_
        refine z_iald hx hb hK hP 6 rfl 1 rfl (by decide) (by decide) dX7_readClause_64 ?_
        refine z_toI (oV0 f n (nEn f n e_)) (by rw [(hwu_47.1 (by assumption)).2.2]; rfl) ?_
        refine lv_aload_n hx hb dX7_readClause_65 rfl (lv_at hl 0 rfl) ?_
        refine z_get hx hb hts hin7_ hown hK hP 4 rfl rfl 6 (by decide) (hts _ (List.mem_of_getElem? (i := 1) rfl)) rfl dX7_readClause_66 ?_
        refine z_iconst hx hb dX7_readClause_69 rfl ?_
        refine z_iald hx hb hK hP 6 rfl 2 rfl (by decide) (by decide) dX7_readClause_70 ?_
        refine z_toI (oV1 f n (nEn f n e_)) (by rw [(hwu_47.1 (by assumption)).2.2]; rfl) ?_
        refine lv_aload_n hx hb dX7_readClause_71 rfl (lv_at hl 0 rfl) ?_
        refine z_get hx hb hts hin7_ hown hK hP 4 rfl rfl 6 (by decide) (hts _ (List.mem_of_getElem? (i := 1) rfl)) rfl dX7_readClause_72 ?_
        refine z_iconst hx hb dX7_readClause_75 rfl ?_
        refine z_iald hx hb hK hP 6 rfl 3 rfl (by decide) (by decide) dX7_readClause_76 ?_
        refine z_toI (oV2 f n (nEn f n e_)) (by rw [(hwu_47.1 (by assumption)).2.2]; rfl) ?_
        refine z_cVv (As := [vI 0, vI (oV0 f n (nEn f n e_)), vI (oV1 f n (nEn f n e_)), vI (oV2 f n (nEn f n e_))]) (rest := []) ⟨hx, hb, hml, hown, hts⟩ hK hP hD hS hA [0, 1, 2, 3] [4, 5, 6] rfl rfl rfl (c_X2_resist l g r (y 0) (y 1) (y 2) v b h o l_ 0 (oV0 f n (nEn f n e_)) (oV1 f n (nEn f n e_)) (oV2 f n (nEn f n e_)) (by first | assumption | omega | decide)) (cwV 4 hts gX7_readClause_X2_resist rfl rfl rfl (by decide +kernel) ⟨Nat.le_of_ble_eq_true rfl, Nat.le_of_ble_eq_true rfl⟩) 2 0 rfl rfl rfl (fun _ _ _ _ _ _ => trivial) (fun _ _ _ => trivial) rfl hl.1 (Nat.le_of_ble_eq_true rfl) rfl dX7_readClause_77 ⟨Nat.le_of_ble_eq_true rfl, Nat.le_of_ble_eq_true rfl⟩ (fun u_55 H locs hwu_55 hP hD hS => ?_)
        try dsimp only at hwu_55
        have hP : zP g [[(q, .inr (7, [.ref (x 0), vI ((n : Nat) : Int), vI ((c_ : Nat) : Int), vI ((k2_48 : Nat) : Int), vI ((s2_49 : Nat) : Int), vI ((e2_50 : Nat) : Int), .ref (x 1)]))], [((x 0), .inl (g.2 0, 200, .inl (aI f)))], [((x 1), .inl (g.2 0, 4, .inl (aI m2_51)))], [(r, .inr (2, [vI v, vI ((b : Nat) : Int), .ref (y 0), .ref (y 1), .ref (y 2)]))], [((y 0), .inl (g.2 0, 6, .inl (aI h)))], [((y 1), .inl (g.2 0, 18, .inl (aI (rs3 o 0 (oV0 f n (nEn f n e_)) (oV1 f n (nEn f n e_)) (oV2 f n (nEn f n e_))))))], [((y 2), .inl (g.2 0, 6, .inl (aI l_)))]] H := hP
        have hD : zD A [[(q, .inr (7, [.ref (x 0), vI ((n : Nat) : Int), vI ((c_ : Nat) : Int), vI ((k2_48 : Nat) : Int), vI ((s2_49 : Nat) : Int), vI ((e2_50 : Nat) : Int), .ref (x 1)]))], [((x 0), .inl (g.2 0, 200, .inl (aI f)))], [((x 1), .inl (g.2 0, 4, .inl (aI m2_51)))], [(r, .inr (2, [vI v, vI ((b : Nat) : Int), .ref (y 0), .ref (y 1), .ref (y 2)]))], [((y 0), .inl (g.2 0, 6, .inl (aI h)))], [((y 1), .inl (g.2 0, 18, .inl (aI (rs3 o 0 (oV0 f n (nEn f n e_)) (oV1 f n (nEn f n e_)) (oV2 f n (nEn f n e_))))))], [((y 2), .inl (g.2 0, 6, .inl (aI l_)))]] := hD
        refine lv_goto (tgt := 214) hx hb dX7_readClause_80 (by decide) ?_
        refine z_iconst hx hb dX7_readClause_214 rfl ?_
        have hP : zP g [[(q, .inr (7, [.ref (x 0), vI ((n : Nat) : Int), vI ((c_ : Nat) : Int), vI ((k2_48 : Nat) : Int), vI ((s2_49 : Nat) : Int), vI ((e2_50 : Nat) : Int), .ref (x 1)]))], [((x 0), .inl (g.2 0, 200, .inl (aI f)))], [((x 1), .inl (g.2 0, 4, .inl (aI m2_51)))], (netW g r y v b h (rs3 o 0 (oV0 f n (nEn f n e_)) (oV1 f n (nEn f n e_)) (oV2 f n (nEn f n e_))) l_)] H := hP
        have hD : zD A [[(q, .inr (7, [.ref (x 0), vI ((n : Nat) : Int), vI ((c_ : Nat) : Int), vI ((k2_48 : Nat) : Int), vI ((s2_49 : Nat) : Int), vI ((e2_50 : Nat) : Int), .ref (x 1)]))], [((x 0), .inl (g.2 0, 200, .inl (aI f)))], [((x 1), .inl (g.2 0, 4, .inl (aI m2_51)))], (netW g r y v b h (rs3 o 0 (oV0 f n (nEn f n e_)) (oV1 f n (nEn f n e_)) (oV2 f n (nEn f n e_))) l_)] := hD
        have hP : zP g [(textW g q x n c_ k2_48 s2_49 e2_50 f m2_51), (netW g r y v b h (rs3 o 0 (oV0 f n (nEn f n e_)) (oV1 f n (nEn f n e_)) (oV2 f n (nEn f n e_))) l_)] H := hP
        have hD : zD A [(textW g q x n c_ k2_48 s2_49 e2_50 f m2_51), (netW g r y v b h (rs3 o 0 (oV0 f n (nEn f n e_)) (oV1 f n (nEn f n e_)) (oV2 f n (nEn f n e_))) l_)] := hD
        have hW := cWd_1 (f := f) (n := n) (e := e_) (by omega) (by omega) 
        have hC : 1 = cOk f n e_ b := by unfold cOk; rw [hW]; show _ = oOk f n (nEn f n e_); omega
        have hQ : e2_50 = cPs f n e_ b := by unfold cPs; rw [hW]; exact (hwu_47.1 (by assumption)).1
        exact z_reti (k2_48, s2_49, e2_50, m2_51, v, b, h, (rs3 o 0 (oV0 f n (nEn f n e_)) (oV1 f n (nEn f n e_)) (oV2 f n (nEn f n e_))), l_) [0, 1] hx hb hr (nar_z (by first | decide | omega)) hlocks hK hP hD hS (hC) (⟨fun _ => ⟨hQ, by (have := (hwu_47.1 (by assumption)).2.1; omega), by rw [hW] <;> rfl, by rw [hW] <;> rfl, by rw [hW] <;> rfl, by rw [hW] <;> rfl, by rw [hW] <;> rfl⟩, fun h9 => False.elim (by omega), Or.inr hC.symm⟩) rfl rfl (rfl) (Nat.le_of_ble_eq_true rfl) (Nat.le_of_ble_eq_true rfl) dX7_readClause_215
      · refine z_iconst hx hb dX7_readClause_55 rfl ?_
        have hP : zP g [(netW g r y v b h o l_), (textW g q x n c_ k2_48 s2_49 e2_50 f m2_51)] H := hP
        have hD : zD A [(netW g r y v b h o l_), (textW g q x n c_ k2_48 s2_49 e2_50 f m2_51)] := hD
        have hW := cWd_1 (f := f) (n := n) (e := e_) (by omega) (by omega) 
        have hC : 0 = cOk f n e_ b := by unfold cOk; rw [hW]; show _ = oOk f n (nEn f n e_); omega
        have hQ : s2_49 = cPs f n e_ b := by unfold cPs; rw [hW]; exact hwu_47.2 (by omega)
        exact z_reti (k2_48, s2_49, e2_50, m2_51, v, b, h, o, l_) [1, 0] hx hb hr (nar_z (by first | decide | omega)) hlocks hK hP hD hS (hC) (⟨fun h9 => False.elim (by omega), fun _ => hQ, Or.inl hC.symm⟩) rfl rfl (rfl) (Nat.le_of_ble_eq_true rfl) (Nat.le_of_ble_eq_true rfl) dX7_readClause_56
  · refine lv_aload_n hx hb dX7_readClause_13 rfl (lv_at hl 0 rfl) ?_
    refine z_iconst hx hb dX7_readClause_14 rfl ?_
    refine z_iconst hx hb dX7_readClause_15 rfl ?_
    refine z_bipush hx hb 99 dX7_readClause_16 rfl ?_
    refine z_cVi (As := [vI 0, vI 1, vI 99]) (rest := []) ⟨hx, hb, hml, hown, hts⟩ hK hP hD hS hA [4] [0, 1, 2, 3] rfl rfl rfl (c_X7_readNumber l g q x n c_ (kdA f n (tS f n e_)) (tS f n e_) (nEn f n e_) f m_ 0 1 99 (by first | assumption | omega | decide) (by first | assumption | omega | decide) (by first | assumption | omega | decide) (by first | assumption | omega | decide) (by first | assumption | omega | decide) (by first | assumption | omega | decide)) (cwV 3 hts gX7_readClause_X7_readNumber rfl rfl rfl (by decide +kernel) ⟨Nat.le_of_ble_eq_true rfl, Nat.le_of_ble_eq_true rfl⟩) 7 0 rfl rfl rfl (fun _ _ _ _ _ _ => trivial) (fun _ _ _ => trivial) rfl hl.1 (Nat.le_of_ble_eq_true rfl) rfl dX7_readClause_18 ⟨Nat.le_of_ble_eq_true rfl, Nat.le_of_ble_eq_true rfl⟩ (fun u_56 H locs hwu_56 hP hD hS => ?_)
    obtain ⟨m2_57, rfl⟩ : ∃ z_, z_ = u_56 := ⟨_, rfl⟩
    try dsimp only at hwu_56
    have hP : zP g [[(r, .inr (2, [vI v, vI ((b : Nat) : Int), .ref (y 0), .ref (y 1), .ref (y 2)]))], [((y 0), .inl (g.2 0, 6, .inl (aI h)))], [((y 1), .inl (g.2 0, 18, .inl (aI o)))], [((y 2), .inl (g.2 0, 6, .inl (aI l_)))], (textW g q x n c_ (kdA f n (tS f n (nEn f n e_))) (tS f n (nEn f n e_)) (tE f n (tS f n (nEn f n e_))) f m2_57)] H := hP
    have hD : zD A [[(r, .inr (2, [vI v, vI ((b : Nat) : Int), .ref (y 0), .ref (y 1), .ref (y 2)]))], [((y 0), .inl (g.2 0, 6, .inl (aI h)))], [((y 1), .inl (g.2 0, 18, .inl (aI o)))], [((y 2), .inl (g.2 0, 6, .inl (aI l_)))], (textW g q x n c_ (kdA f n (tS f n (nEn f n e_))) (tS f n (nEn f n e_)) (tE f n (tS f n (nEn f n e_))) f m2_57)] := hD
    refine z_toI (nOk f n (nEn f n e_) 1 99) rfl ?_
    have hf_58 := nOk_s f n (nEn f n e_) 1 99
    have hP : zP g [[(r, .inr (2, [vI v, vI ((b : Nat) : Int), .ref (y 0), .ref (y 1), .ref (y 2)]))], [((y 0), .inl (g.2 0, 6, .inl (aI h)))], [((y 1), .inl (g.2 0, 18, .inl (aI o)))], [((y 2), .inl (g.2 0, 6, .inl (aI l_)))], (textW g q x n c_ (kdA f n (tS f n (nEn f n e_))) (tS f n (nEn f n e_)) (nEn f n (nEn f n e_)) f m2_57)] H := hP
    have hD : zD A [[(r, .inr (2, [vI v, vI ((b : Nat) : Int), .ref (y 0), .ref (y 1), .ref (y 2)]))], [((y 0), .inl (g.2 0, 6, .inl (aI h)))], [((y 1), .inl (g.2 0, 18, .inl (aI o)))], [((y 2), .inl (g.2 0, 6, .inl (aI l_)))], (textW g q x n c_ (kdA f n (tS f n (nEn f n e_))) (tS f n (nEn f n e_)) (nEn f n (nEn f n e_)) f m2_57)] := hD
    have hne_59 := nEn_s f (e := (nEn f n e_)) (n := n) (by omega)
    refine z_if_ne (tgt := 26) hx hb (by omega) dX7_readClause_21 (by decide) (fun c60 => ?_) (fun c60 => ?_)
    · have hy_61 : nOk f n (nEn f n e_) 1 99 = 1 := by omega
      have hP : zP g [[(r, .inr (2, [vI v, vI ((b : Nat) : Int), .ref (y 0), .ref (y 1), .ref (y 2)]))], [((y 0), .inl (g.2 0, 6, .inl (aI h)))], [((y 1), .inl (g.2 0, 18, .inl (aI o)))], [((y 2), .inl (g.2 0, 6, .inl (aI l_)))], [(q, .inr (7, [.ref (x 0), vI ((n : Nat) : Int), vI ((c_ : Nat) : Int), vI (((kdA f n (tS f n (nEn f n e_))) : Nat) : Int), vI (((tS f n (nEn f n e_)) : Nat) : Int), vI (((nEn f n (nEn f n e_)) : Nat) : Int), .ref (x 1)]))], [((x 0), .inl (g.2 0, 200, .inl (aI f)))], [((x 1), .inl (g.2 0, 4, .inl (aI m2_57)))]] H := hP
      have hD : zD A [[(r, .inr (2, [vI v, vI ((b : Nat) : Int), .ref (y 0), .ref (y 1), .ref (y 2)]))], [((y 0), .inl (g.2 0, 6, .inl (aI h)))], [((y 1), .inl (g.2 0, 18, .inl (aI o)))], [((y 2), .inl (g.2 0, 6, .inl (aI l_)))], [(q, .inr (7, [.ref (x 0), vI ((n : Nat) : Int), vI ((c_ : Nat) : Int), vI (((kdA f n (tS f n (nEn f n e_))) : Nat) : Int), vI (((tS f n (nEn f n e_)) : Nat) : Int), vI (((nEn f n (nEn f n e_)) : Nat) : Int), .ref (x 1)]))], [((x 0), .inl (g.2 0, 200, .inl (aI f)))], [((x 1), .inl (g.2 0, 4, .inl (aI m2_57)))]] := hD
      refine lv_aload_n hx hb dX7_readClause_26 rfl (lv_at hl 1 rfl) ?_
      refine lv_aload_n hx hb dX7_readClause_27 rfl (lv_at hl 0 rfl) ?_
      refine z_get hx hb hts hin7_ hown hK hP 4 rfl rfl 6 (by decide) (hts _ (List.mem_of_getElem? (i := 1) rfl)) rfl dX7_readClause_28 ?_
      refine z_iconst hx hb dX7_readClause_31 rfl ?_
      refine z_iald hx hb hK hP 6 rfl 0 rfl (by decide) (by decide) dX7_readClause_32 ?_
      refine z_toI (nVl f n (nEn f n e_)) (by rw [hwu_56 (by assumption)]; rfl) ?_
      refine z_cVv (As := [vI (nVl f n (nEn f n e_))]) (rest := []) ⟨hx, hb, hml, hown, hts⟩ hK hP hD hS hA [0, 1, 2, 3] [4, 5, 6] rfl rfl rfl (c_X2_restart l g r (y 0) (y 1) (y 2) v b h o l_ (nVl f n (nEn f n e_)) ) (cwV 1 hts gX7_readClause_X2_restart rfl rfl rfl (by decide +kernel) ⟨Nat.le_of_ble_eq_true rfl, Nat.le_of_ble_eq_true rfl⟩) 2 0 rfl rfl rfl (fun _ _ _ _ _ _ => trivial) (fun _ _ _ => trivial) rfl hl.1 (Nat.le_of_ble_eq_true rfl) rfl dX7_readClause_33 ⟨Nat.le_of_ble_eq_true rfl, Nat.le_of_ble_eq_true rfl⟩ (fun u_62 H locs hwu_62 hP hD hS => ?_)
      try dsimp only at hwu_62
      have hP : zP g [[(q, .inr (7, [.ref (x 0), vI ((n : Nat) : Int), vI ((c_ : Nat) : Int), vI (((kdA f n (tS f n (nEn f n e_))) : Nat) : Int), vI (((tS f n (nEn f n e_)) : Nat) : Int), vI (((nEn f n (nEn f n e_)) : Nat) : Int), .ref (x 1)]))], [((x 0), .inl (g.2 0, 200, .inl (aI f)))], [((x 1), .inl (g.2 0, 4, .inl (aI m2_57)))], [(r, .inr (2, [vI (nVl f n (nEn f n e_)), vI 1, .ref (y 0), .ref (y 1), .ref (y 2)]))], [((y 0), .inl (g.2 0, 6, .inl (aI (uI h 0 (-1)))))], [((y 1), .inl (g.2 0, 18, .inl (aI (rs3 o 0 1 1 1))))], [((y 2), .inl (g.2 0, 6, .inl (aI (uI l_ 0 0))))]] H := hP
      have hD : zD A [[(q, .inr (7, [.ref (x 0), vI ((n : Nat) : Int), vI ((c_ : Nat) : Int), vI (((kdA f n (tS f n (nEn f n e_))) : Nat) : Int), vI (((tS f n (nEn f n e_)) : Nat) : Int), vI (((nEn f n (nEn f n e_)) : Nat) : Int), .ref (x 1)]))], [((x 0), .inl (g.2 0, 200, .inl (aI f)))], [((x 1), .inl (g.2 0, 4, .inl (aI m2_57)))], [(r, .inr (2, [vI (nVl f n (nEn f n e_)), vI 1, .ref (y 0), .ref (y 1), .ref (y 2)]))], [((y 0), .inl (g.2 0, 6, .inl (aI (uI h 0 (-1)))))], [((y 1), .inl (g.2 0, 18, .inl (aI (rs3 o 0 1 1 1))))], [((y 2), .inl (g.2 0, 6, .inl (aI (uI l_ 0 0))))]] := hD
      refine lv_goto (tgt := 214) hx hb dX7_readClause_36 (by decide) ?_
      refine z_iconst hx hb dX7_readClause_214 rfl ?_
      have hP : zP g [[(q, .inr (7, [.ref (x 0), vI ((n : Nat) : Int), vI ((c_ : Nat) : Int), vI (((kdA f n (tS f n (nEn f n e_))) : Nat) : Int), vI (((tS f n (nEn f n e_)) : Nat) : Int), vI (((nEn f n (nEn f n e_)) : Nat) : Int), .ref (x 1)]))], [((x 0), .inl (g.2 0, 200, .inl (aI f)))], [((x 1), .inl (g.2 0, 4, .inl (aI m2_57)))], (netW g r y (nVl f n (nEn f n e_)) 1 (uI h 0 (-1)) (rs3 o 0 1 1 1) (uI l_ 0 0))] H := hP
      have hD : zD A [[(q, .inr (7, [.ref (x 0), vI ((n : Nat) : Int), vI ((c_ : Nat) : Int), vI (((kdA f n (tS f n (nEn f n e_))) : Nat) : Int), vI (((tS f n (nEn f n e_)) : Nat) : Int), vI (((nEn f n (nEn f n e_)) : Nat) : Int), .ref (x 1)]))], [((x 0), .inl (g.2 0, 200, .inl (aI f)))], [((x 1), .inl (g.2 0, 4, .inl (aI m2_57)))], (netW g r y (nVl f n (nEn f n e_)) 1 (uI h 0 (-1)) (rs3 o 0 1 1 1) (uI l_ 0 0))] := hD
      have hP : zP g [(textW g q x n c_ (kdA f n (tS f n (nEn f n e_))) (tS f n (nEn f n e_)) (nEn f n (nEn f n e_)) f m2_57), (netW g r y (nVl f n (nEn f n e_)) 1 (uI h 0 (-1)) (rs3 o 0 1 1 1) (uI l_ 0 0))] H := hP
      have hD : zD A [(textW g q x n c_ (kdA f n (tS f n (nEn f n e_))) (tS f n (nEn f n e_)) (nEn f n (nEn f n e_)) f m2_57), (netW g r y (nVl f n (nEn f n e_)) 1 (uI h 0 (-1)) (rs3 o 0 1 1 1) (uI l_ 0 0))] := hD
      have hW := cWd_0 (f := f) (n := n) (e := e_) (by omega) 
      have hC : 1 = cOk f n e_ b := by unfold cOk; rw [hW]; show _ = nOk f n (nEn f n e_) 1 99; omega
      have hQ : (nEn f n (nEn f n e_)) = cPs f n e_ b := by unfold cPs; rw [hW]; show _ = (if _ then _ else _); rw [if_pos (by assumption)]
      exact z_reti ((kdA f n (tS f n (nEn f n e_))), (tS f n (nEn f n e_)), (nEn f n (nEn f n e_)), m2_57, (nVl f n (nEn f n e_)), 1, (uI h 0 (-1)), (rs3 o 0 1 1 1), (uI l_ 0 0)) [0, 1] hx hb hr (nar_z (by first | decide | omega)) hlocks hK hP hD hS (hC) (⟨fun _ => ⟨hQ, by exact (nEn_s f (e := (nEn f n e_)) (n := n) (by omega)).2.2, by rw [hW] <;> rfl, by rw [hW] <;> rfl, by rw [hW] <;> rfl, by rw [hW] <;> rfl, by rw [hW] <;> rfl⟩, fun h9 => False.elim (by omega), Or.inr hC.symm⟩) rfl rfl (rfl) (Nat.le_of_ble_eq_true rfl) (Nat.le_of_ble_eq_true rfl) dX7_readClause_215
    · refine z_iconst hx hb dX7_readClause_24 rfl ?_
      have hP : zP g [(netW g r y v b h o l_), (textW g q x n c_ (kdA f n (tS f n (nEn f n e_))) (tS f n (nEn f n e_)) (nEn f n (nEn f n e_)) f m2_57)] H := hP
      have hD : zD A [(netW g r y v b h o l_), (textW g q x n c_ (kdA f n (tS f n (nEn f n e_))) (tS f n (nEn f n e_)) (nEn f n (nEn f n e_)) f m2_57)] := hD
      have hW := cWd_0 (f := f) (n := n) (e := e_) (by omega) 
      have hC : 0 = cOk f n e_ b := by unfold cOk; rw [hW]; show _ = nOk f n (nEn f n e_) 1 99; omega
      have hQ : (tS f n (nEn f n e_)) = cPs f n e_ b := by unfold cPs; rw [hW]; show _ = (if _ then _ else _); rw [if_neg (by omega)]
      exact z_reti ((kdA f n (tS f n (nEn f n e_))), (tS f n (nEn f n e_)), (nEn f n (nEn f n e_)), m2_57, v, b, h, o, l_) [1, 0] hx hb hr (nar_z (by first | decide | omega)) hlocks hK hP hD hS (hC) (⟨fun h9 => False.elim (by omega), fun _ => hQ, Or.inl hC.symm⟩) rfl rfl (rfl) (Nat.le_of_ble_eq_true rfl) (Nat.le_of_ble_eq_true rfl) dX7_readClause_25
