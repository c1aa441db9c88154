set_option maxHeartbeats 4000000 in
set_option maxRecDepth 100000 in
theorem c_X7_readInto (l : Launch) (g : zG) (q : Nat) (x : Nat → Nat) (n : Nat) (c_ : Nat) (k : Nat) (s_ : Nat) (e_ : Nat) (f : Nat → Int) (m_ : Nat → Int) (r : Nat) (y : Nat → Nat) (v : Int) (b : Nat) (h : Nat → Int) (o : Nat → Int) (l_ : Nat → Int) (xs : Nat → Nat) (vs : Nat → Nat) (hn : n ≤ 200) (hf : ∀ i, 0 ≤ f i ∧ f i ≤ 255) (hN : nok v b h o l_) : zMet l g yX7_readInto wsX7_readInto 6 0 0 [.ref q, .ref r] (zXW xs vs) [(textW g q x n c_ k s_ e_ f m_), (netW g r y v b h o l_)] (qi g (fun (u_ : Nat × Nat × Nat × Nat × (Nat → Int) × Int × Nat × (Nat → Int) × (Nat → Int) × (Nat → Int)) => ((pA f n 24 0 (v, b, h, o, l_) 0).1)) (fun (u_ : Nat × Nat × Nat × Nat × (Nat → Int) × Int × Nat × (Nat → Int) × (Nat → Int) × (Nat → Int)) => ((pA f n 24 0 (v, b, h, o, l_) 0).1 = -1 → (u_.2.2.2.2.2.1, u_.2.2.2.2.2.2.1, u_.2.2.2.2.2.2.2.1, u_.2.2.2.2.2.2.2.2.1, u_.2.2.2.2.2.2.2.2.2) = (pA f n 24 0 (v, b, h, o, l_) 0).2.1 ∧ u_.1 = (pA f n 24 0 (v, b, h, o, l_) 0).2.2)) (fun (u_ : Nat × Nat × Nat × Nat × (Nat → Int) × Int × Nat × (Nat → Int) × (Nat → Int) × (Nat → Int)) => [(textW g q x n u_.1 u_.2.1 u_.2.2.1 u_.2.2.2.1 f u_.2.2.2.2.1), (netW g r y u_.2.2.2.2.2.1 u_.2.2.2.2.2.2.1 u_.2.2.2.2.2.2.2.1 u_.2.2.2.2.2.2.2.2.1 u_.2.2.2.2.2.2.2.2.2)])) := by
  refine z_ent (cc := cX7_readInto) (maxL := 3) (ret := (some .int)) (by decide) rfl (Nat.le_of_ble_eq_true rfl) ?_
  intro p e s m below meth c A ls hx hb hr hml hown hts hlocks hin0 hA hK hP hD hS hXX hl
  have hown : s.vm.findClass RX7 = some m.cls := hown
  have hin7_ : ∀ w ∈ wsX70, w ∈ wsX7_readInto := zw_in [112, 113, 114, 115, 116, 117, 118] rfl
  have hl : lv_has ls 3 [(0, .ref q), (1, .ref r)] := hl
  have hP : zP g [[(q, .inr (7, [.ref (x 0), vI ((n : Nat) : Int), vI ((c_ : Nat) : Int), vI ((k : Nat) : Int), vI ((s_ : Nat) : Int), vI ((e_ : Nat) : Int), .ref (x 1)]))], [((x 0), .inl (g.2 0, 200, .inl (aI f)))], [((x 1), .inl (g.2 0, 4, .inl (aI m_)))], (netW g r y v b h o l_)] s.heap := hP
  have hD : zD A [[(q, .inr (7, [.ref (x 0), vI ((n : Nat) : Int), vI ((c_ : Nat) : Int), vI ((k : Nat) : Int), vI ((s_ : Nat) : Int), vI ((e_ : Nat) : Int), .ref (x 1)]))], [((x 0), .inl (g.2 0, 200, .inl (aI f)))], [((x 1), .inl (g.2 0, 4, .inl (aI m_)))], (netW g r y v b h o l_)] := hD
  refine lv_aload_n hx hb dX7_readInto_0 rfl (lv_at hl 0 rfl) ?_
  refine z_iconst hx hb dX7_readInto_1 rfl ?_
  refine z_put hx hb hts hin7_ tyX7 tyX7_ok nmX7 hown hK hP hD hS 0 rfl rfl 5 (by decide) (hts _ (List.mem_of_getElem? (i := 1) rfl)) rfl rfl rfl (Nat.le_of_ble_eq_true rfl) dX7_readInto_2 [[(q, .inr (7, [.ref (x 0), vI ((n : Nat) : Int), vI ((c_ : Nat) : Int), vI ((k : Nat) : Int), vI ((s_ : Nat) : Int), vI 0, .ref (x 1)]))], [((x 0), .inl (g.2 0, 200, .inl (aI f)))], [((x 1), .inl (g.2 0, 4, .inl (aI m_)))], (netW g r y v b h o l_)] rfl (fun H locs hP hD hS => ?_)
  refine z_iconst hx hb dX7_readInto_5 rfl ?_
  refine lv_istore_n (lv' := [(2, vI 1), (0, .ref q), (1, .ref r)]) hx hb dX7_readInto_6 rfl hl (by decide) rfl (fun ls hl => ?_)
  refine lv_aload_n hx hb dX7_readInto_7 rfl (lv_at hl 1 rfl) ?_
  refine z_iconst hx hb dX7_readInto_8 rfl ?_
  refine z_put hx hb hts hin7_ tyX7 tyX7_ok nmX7 hown hK hP hD hS 0 rfl rfl 2 (by decide) (hts _ (List.mem_of_getElem? (i := 2) rfl)) rfl rfl rfl (Nat.le_of_ble_eq_true rfl) dX7_readInto_9 [[(q, .inr (7, [.ref (x 0), vI ((n : Nat) : Int), vI 0, vI ((k : Nat) : Int), vI ((s_ : Nat) : Int), vI 0, .ref (x 1)]))], [((x 0), .inl (g.2 0, 200, .inl (aI f)))], [((x 1), .inl (g.2 0, 4, .inl (aI m_)))], (netW g r y v b h o l_)] rfl (fun H locs hP hD hS => ?_)
  have loop12 : ∀ (N : Nat) (gz : Int) (c1 : Nat) (k1 : Nat) (s1 : Nat) (e1 : Nat) (m1 : Nat → Int) (v1 : Int) (b1 : Nat) (h1 : Nat → Int) (o1 : Nat → Int) (l1 : Nat → Int) (H : Heap) (locs : List Loc) (ls : Array Slot), gz = 0 ∨ gz = 1 → c1 ≤ 24 → (gz = 1 ∧ c1 = 0) ∨ (k1 ≤ 3 ∧ s1 ≤ n) → e1 ≤ n → nok5 (v1, b1, h1, o1, l1) → (gz = 1 ∧ c1 < 24 → pA f n (24 - c1) e1 (v1, b1, h1, o1, l1) c1 = (pA f n 24 0 (v, b, h, o, l_) 0)) ∧ (¬ (gz = 1 ∧ c1 < 24) → ((if k1 = 0 then -1 else (s1 : Int)), (v1, b1, h1, o1, l1), c1) = (pA f n 24 0 (v, b, h, o, l_) 0)) → (24 - c1) < N → zP g [[(q, .inr (7, [.ref (x 0), vI ((n : Nat) : Int), vI ((c1 : Nat) : Int), vI ((k1 : Nat) : Int), vI ((s1 : Nat) : Int), vI ((e1 : Nat) : Int), .ref (x 1)]))], [((x 0), .inl (g.2 0, 200, .inl (aI f)))], [((x 1), .inl (g.2 0, 4, .inl (aI m1)))], (netW g r y v1 b1 h1 o1 l1)] H → zD A [[(q, .inr (7, [.ref (x 0), vI ((n : Nat) : Int), vI ((c1 : Nat) : Int), vI ((k1 : Nat) : Int), vI ((s1 : Nat) : Int), vI ((e1 : Nat) : Int), .ref (x 1)]))], [((x 0), .inl (g.2 0, 200, .inl (aI f)))], [((x 1), .inl (g.2 0, 4, .inl (aI m1)))], (netW g r y v1 b1 h1 o1 l1)] → va_S A s.heap H locs → lv_has ls 3 [(0, .ref q), (1, .ref r), (2, vI gz)] → W p l e (zRm 6 0 0) s m ([.ref q, .ref r] : List Value).toArray below meth c H locs (0) (0) (MQ below ((qi g (fun (u_ : Nat × Nat × Nat × Nat × (Nat → Int) × Int × Nat × (Nat → Int) × (Nat → Int) × (Nat → Int)) => ((pA f n 24 0 (v, b, h, o, l_) 0).1)) (fun (u_ : Nat × Nat × Nat × Nat × (Nat → Int) × Int × Nat × (Nat → Int) × (Nat → Int) × (Nat → Int)) => ((pA f n 24 0 (v, b, h, o, l_) 0).1 = -1 → (u_.2.2.2.2.2.1, u_.2.2.2.2.2.2.1, u_.2.2.2.2.2.2.2.1, u_.2.2.2.2.2.2.2.2.1, u_.2.2.2.2.2.2.2.2.2) = (pA f n 24 0 (v, b, h, o, l_) 0).2.1 ∧ u_.1 = (pA f n 24 0 (v, b, h, o, l_) 0).2.2)) (fun (u_ : Nat × Nat × Nat × Nat × (Nat → Int) × Int × Nat × (Nat → Int) × (Nat → Int) × (Nat → Int)) => [(textW g q x n u_.1 u_.2.1 u_.2.2.1 u_.2.2.2.1 f u_.2.2.2.2.1), (netW g r y u_.2.2.2.2.2.1 u_.2.2.2.2.2.2.1 u_.2.2.2.2.2.2.2.1 u_.2.2.2.2.2.2.2.2.1 u_.2.2.2.2.2.2.2.2.2)])) A) ([.ref q, .ref r] : List Value).toArray s 0 0 A) (F0 m 12 ls []) := by
    intro N
    induction N with
    | zero => intro gz c1 k1 s1 e1 m1 v1 b1 h1 o1 l1 H locs ls hg hc hks he hN1 hI hm; exact absurd hm (Nat.not_lt_zero _)
    | succ N ih =>
      intro gz c1 k1 s1 e1 m1 v1 b1 h1 o1 l1 H locs ls hg hc hks he hN1 hI hm hP hD hS hl
      refine lv_iload_n hx hb dX7_readInto_12 rfl (lv_at hl 2 rfl) ?_
      refine z_if_eq (tgt := 60) hx hb (by omega) dX7_readInto_13 (by decide) (fun cq1 => ?_) (fun cq1 => ?_)
      · refine lv_aload_n hx hb dX7_readInto_60 rfl (lv_at hl 0 rfl) ?_
        refine z_get hx hb hts hin7_ hown hK hP 0 rfl rfl 3 (by decide) (hts _ (List.mem_of_getElem? (i := 4) rfl)) rfl dX7_readInto_61 ?_
        refine z_if_ne (tgt := 71) hx hb (by omega) dX7_readInto_64 (by decide) (fun cq2 => ?_) (fun cq2 => ?_)
        · refine lv_aload_n hx hb dX7_readInto_71 rfl (lv_at hl 0 rfl) ?_
          refine z_get hx hb hts hin7_ hown hK hP 0 rfl rfl 4 (by decide) (hts _ (List.mem_of_getElem? (i := 3) rfl)) rfl dX7_readInto_72 ?_
          have hP : zP g [(textW g q x n c1 k1 s1 e1 f m1), (netW g r y v1 b1 h1 o1 l1)] H := hP
          have hD : zD A [(textW g q x n c1 k1 s1 e1 f m1), (netW g r y v1 b1 h1 o1 l1)] := hD
          have hend := hI.2 (by omega)
          exact z_reti (c1, k1, s1, e1, m1, v1, b1, h1, o1, l1) [0, 1] hx hb hr rfl hlocks hK hP hD hS (by rw [← hend]; first | (show _ = (if _ then _ else _); rw [if_pos (by omega)]) | (show _ = (if _ then _ else _); rw [if_neg (by omega)])) (fun _ => ⟨by rw [← hend], by rw [← hend]⟩) rfl rfl (rfl) (Nat.le_of_ble_eq_true rfl) (Nat.le_of_ble_eq_true rfl) dX7_readInto_75
        · refine z_iconst hx hb dX7_readInto_67 rfl ?_
          refine lv_goto (tgt := 75) hx hb dX7_readInto_68 (by decide) ?_
          have hP : zP g [(textW g q x n c1 k1 s1 e1 f m1), (netW g r y v1 b1 h1 o1 l1)] H := hP
          have hD : zD A [(textW g q x n c1 k1 s1 e1 f m1), (netW g r y v1 b1 h1 o1 l1)] := hD
          have hend := hI.2 (by omega)
          exact z_reti (c1, k1, s1, e1, m1, v1, b1, h1, o1, l1) [0, 1] hx hb hr rfl hlocks hK hP hD hS (by rw [← hend]; first | (show _ = (if _ then _ else _); rw [if_pos (by omega)]) | (show _ = (if _ then _ else _); rw [if_neg (by omega)])) (fun _ => ⟨by rw [← hend], by rw [← hend]⟩) rfl rfl (rfl) (Nat.le_of_ble_eq_true rfl) (Nat.le_of_ble_eq_true rfl) dX7_readInto_75
      · refine lv_aload_n hx hb dX7_readInto_16 rfl (lv_at hl 0 rfl) ?_
        refine z_get hx hb hts hin7_ hown hK hP 0 rfl rfl 2 (by decide) (hts _ (List.mem_of_getElem? (i := 2) rfl)) rfl dX7_readInto_17 ?_
        refine z_bipush hx hb 24 dX7_readInto_20 rfl ?_
        refine z_icmp_ge (tgt := 60) hx hb (by omega) (by decide) dX7_readInto_22 (by decide) (fun cq3 => ?_) (fun cq3 => ?_)
        · refine lv_aload_n hx hb dX7_readInto_60 rfl (lv_at hl 0 rfl) ?_
          refine z_get hx hb hts hin7_ hown hK hP 0 rfl rfl 3 (by decide) (hts _ (List.mem_of_getElem? (i := 4) rfl)) rfl dX7_readInto_61 ?_
          refine z_if_ne (tgt := 71) hx hb (by omega) dX7_readInto_64 (by decide) (fun cq4 => ?_) (fun cq4 => ?_)
          · refine lv_aload_n hx hb dX7_readInto_71 rfl (lv_at hl 0 rfl) ?_
            refine z_get hx hb hts hin7_ hown hK hP 0 rfl rfl 4 (by decide) (hts _ (List.mem_of_getElem? (i := 3) rfl)) rfl dX7_readInto_72 ?_
            have hP : zP g [(textW g q x n c1 k1 s1 e1 f m1), (netW g r y v1 b1 h1 o1 l1)] H := hP
            have hD : zD A [(textW g q x n c1 k1 s1 e1 f m1), (netW g r y v1 b1 h1 o1 l1)] := hD
            have hend := hI.2 (by omega)
            exact z_reti (c1, k1, s1, e1, m1, v1, b1, h1, o1, l1) [0, 1] hx hb hr rfl hlocks hK hP hD hS (by rw [← hend]; first | (show _ = (if _ then _ else _); rw [if_pos (by omega)]) | (show _ = (if _ then _ else _); rw [if_neg (by omega)])) (fun _ => ⟨by rw [← hend], by rw [← hend]⟩) rfl rfl (rfl) (Nat.le_of_ble_eq_true rfl) (Nat.le_of_ble_eq_true rfl) dX7_readInto_75
          · refine z_iconst hx hb dX7_readInto_67 rfl ?_
            refine lv_goto (tgt := 75) hx hb dX7_readInto_68 (by decide) ?_
            have hP : zP g [(textW g q x n c1 k1 s1 e1 f m1), (netW g r y v1 b1 h1 o1 l1)] H := hP
            have hD : zD A [(textW g q x n c1 k1 s1 e1 f m1), (netW g r y v1 b1 h1 o1 l1)] := hD
            have hend := hI.2 (by omega)
            exact z_reti (c1, k1, s1, e1, m1, v1, b1, h1, o1, l1) [0, 1] hx hb hr rfl hlocks hK hP hD hS (by rw [← hend]; first | (show _ = (if _ then _ else _); rw [if_pos (by omega)]) | (show _ = (if _ then _ else _); rw [if_neg (by omega)])) (fun _ => ⟨by rw [← hend], by rw [← hend]⟩) rfl rfl (rfl) (Nat.le_of_ble_eq_true rfl) (Nat.le_of_ble_eq_true rfl) dX7_readInto_75
        · have hP : zP g [(textW g q x n c1 k1 s1 e1 f m1), (netW g r y v1 b1 h1 o1 l1)] H := hP
          have hD : zD A [(textW g q x n c1 k1 s1 e1 f m1), (netW g r y v1 b1 h1 o1 l1)] := hD
          refine lv_aload_n hx hb dX7_readInto_25 rfl (lv_at hl 0 rfl) ?_
          refine lv_aload_n hx hb dX7_readInto_26 rfl (lv_at hl 1 rfl) ?_
          refine z_xVi (As := [.ref r]) (rest := []) ⟨hx, hb, hml, hown, hts⟩ hK hP hD hS hA [0, 1] [] rfl rfl rfl (c_X7_readClause l g q x n c1 k1 s1 e1 f m1 r y v1 b1 h1 o1 l1 xs vs (by first | assumption | omega) (by first | assumption | omega) (by first | assumption | omega) hN1) (cwV 1 hts gX7_readInto_X7_readClause rfl rfl rfl (by decide +kernel) ⟨Nat.le_of_ble_eq_true rfl, Nat.le_of_ble_eq_true rfl⟩) 7 0 rfl rfl rfl zXW_b (zXW_s hXX hS) rfl hl.1 (Nat.le_of_ble_eq_true rfl) rfl dX7_readInto_27 ⟨Nat.le_of_ble_eq_true rfl, Nat.le_of_ble_eq_true rfl⟩ (fun u_5 H locs hwu_5 hP hD hS => ?_)
          obtain ⟨k2_6, s2_7, e2_8, m2_9, v2_10, b2_11, h2_12, o2_13, l2_14⟩ := u_5
          try dsimp only at hwu_5
          have hP : zP g [(textW g q x n c1 k2_6 s2_7 e2_8 f m2_9), (netW g r y v2_10 b2_11 h2_12 o2_13 l2_14)] H := hP
          have hD : zD A [(textW g q x n c1 k2_6 s2_7 e2_8 f m2_9), (netW g r y v2_10 b2_11 h2_12 o2_13 l2_14)] := hD
          refine z_toI (cOk f n e1 b1) rfl ?_
          refine z_if_ne (tgt := 38) hx hb (by omega) dX7_readInto_30 (by decide) (fun cq15 => ?_) (fun cq15 => ?_)
          · have hok : cOk f n e1 b1 = 1 := by omega
            have hN2 := nok_eff (f := f) (n := n) (e := e1) (x := (v1, b1, h1, o1, l1)) hN1 hok
            obtain ⟨q1, q2, q3, q4, q5, q6, q7⟩ := hwu_5.1 hok
            subst q1 q3 q4 q5 q6 q7
            refine lv_aload_n hx hb dX7_readInto_38 rfl (lv_at hl 0 rfl) ?_
            refine z_cVv (As := []) (rest := []) ⟨hx, hb, hml, hown, hts⟩ hK hP hD hS hA [0] [1] rfl rfl rfl (c_X7_step l g q x n c1 k2_6 s2_7 (cPs f n e1 b1) f m2_9 (by first | assumption | omega | decide) (by first | assumption | omega | decide) (by first | assumption | omega | decide)) (cwV 0 hts gX7_readInto_X7_step rfl rfl rfl (by decide +kernel) ⟨Nat.le_of_ble_eq_true rfl, Nat.le_of_ble_eq_true rfl⟩) 7 0 rfl rfl rfl (fun _ _ _ _ _ _ => trivial) (fun _ _ _ => trivial) rfl hl.1 (Nat.le_of_ble_eq_true rfl) rfl dX7_readInto_39 ⟨Nat.le_of_ble_eq_true rfl, Nat.le_of_ble_eq_true rfl⟩ (fun u_16 H locs hwu_16 hP hD hS => ?_)
            try dsimp only at hwu_16
            have hP : zP g [(netW g r y (eVW (cWd f n e1) f n e1 v1) (eBW (cWd f n e1) b1) (eHW (cWd f n e1) f n e1 b1 h1) (eOW (cWd f n e1) f n e1 b1 o1) (eLW (cWd f n e1) f n e1 b1 l1)), (textW g q x n c1 (kdA f n (tS f n (cPs f n e1 b1))) (tS f n (cPs f n e1 b1)) (tE f n (tS f n (cPs f n e1 b1))) f m2_9)] H := hP
            have hD : zD A [(netW g r y (eVW (cWd f n e1) f n e1 v1) (eBW (cWd f n e1) b1) (eHW (cWd f n e1) f n e1 b1 h1) (eOW (cWd f n e1) f n e1 b1 o1) (eLW (cWd f n e1) f n e1 b1 l1)), (textW g q x n c1 (kdA f n (tS f n (cPs f n e1 b1))) (tS f n (cPs f n e1 b1)) (tE f n (tS f n (cPs f n e1 b1))) f m2_9)] := hD
            have hf_17 := tok_s f he
            have hP : zP g [(netW g r y (eVW (cWd f n e1) f n e1 v1) (eBW (cWd f n e1) b1) (eHW (cWd f n e1) f n e1 b1 h1) (eOW (cWd f n e1) f n e1 b1 o1) (eLW (cWd f n e1) f n e1 b1 l1)), (textW g q x n c1 (kdA f n (tS f n (cPs f n e1 b1))) (tS f n (cPs f n e1 b1)) (nEn f n (cPs f n e1 b1)) f m2_9)] H := hP
            have hD : zD A [(netW g r y (eVW (cWd f n e1) f n e1 v1) (eBW (cWd f n e1) b1) (eHW (cWd f n e1) f n e1 b1 h1) (eOW (cWd f n e1) f n e1 b1 o1) (eLW (cWd f n e1) f n e1 b1 l1)), (textW g q x n c1 (kdA f n (tS f n (cPs f n e1 b1))) (tS f n (cPs f n e1 b1)) (nEn f n (cPs f n e1 b1)) f m2_9)] := hD
            have hne_18 := nEn_s f (e := (cPs f n e1 b1)) (n := n) (by omega)
            have hk9 := kdA_s f n (tS f n (cPs f n e1 b1))
            have ht9 := tok_s f (n := n) (e := (cPs f n e1 b1)) (by omega)
            refine lv_aload_n hx hb dX7_readInto_42 rfl (lv_at hl 0 rfl) ?_
            refine z_cVi (As := []) (rest := []) ⟨hx, hb, hml, hown, hts⟩ hK hP hD hS hA [1] [0] rfl rfl rfl (c_X7_isSemicolon l g q x n c1 (kdA f n (tS f n (cPs f n e1 b1))) (tS f n (cPs f n e1 b1)) (nEn f n (cPs f n e1 b1)) f m2_9 (by first | assumption | omega | (intro hk8; omega)) (by first | assumption | omega | (intro hk8; omega)) (by first | assumption | omega | (intro hk8; omega)) (by first | assumption | omega | (intro hk8; omega))) (cwV 0 hts gX7_readInto_X7_isSemicolon rfl rfl rfl (by decide +kernel) ⟨Nat.le_of_ble_eq_true rfl, Nat.le_of_ble_eq_true rfl⟩) 7 0 rfl rfl rfl (fun _ _ _ _ _ _ => trivial) (fun _ _ _ => trivial) rfl hl.1 (Nat.le_of_ble_eq_true rfl) rfl dX7_readInto_43 ⟨Nat.le_of_ble_eq_true rfl, Nat.le_of_ble_eq_true rfl⟩ (fun u_19 H locs hwu_19 hP hD hS => ?_)
            try dsimp only at hwu_19
            have hP : zP g [(netW g r y (eVW (cWd f n e1) f n e1 v1) (eBW (cWd f n e1) b1) (eHW (cWd f n e1) f n e1 b1 h1) (eOW (cWd f n e1) f n e1 b1 o1) (eLW (cWd f n e1) f n e1 b1 l1)), (textW g q x n c1 (kdA f n (tS f n (cPs f n e1 b1))) (tS f n (cPs f n e1 b1)) (nEn f n (cPs f n e1 b1)) f m2_9)] H := hP
            have hD : zD A [(netW g r y (eVW (cWd f n e1) f n e1 v1) (eBW (cWd f n e1) b1) (eHW (cWd f n e1) f n e1 b1 h1) (eOW (cWd f n e1) f n e1 b1 o1) (eLW (cWd f n e1) f n e1 b1 l1)), (textW g q x n c1 (kdA f n (tS f n (cPs f n e1 b1))) (tS f n (cPs f n e1 b1)) (nEn f n (cPs f n e1 b1)) f m2_9)] := hD
            refine z_toI (smc f (kdA f n (tS f n (cPs f n e1 b1))) (tS f n (cPs f n e1 b1))) rfl ?_
            have hf_20 := smc_s f (kdA f n (tS f n (cPs f n e1 b1))) (tS f n (cPs f n e1 b1))
            refine lv_istore_n (lv' := [(2, vI (smc f (kdA f n (tS f n (cPs f n e1 b1))) (tS f n (cPs f n e1 b1)))), (0, .ref q), (1, .ref r)]) hx hb dX7_readInto_46 rfl hl (by decide) rfl (fun ls hl => ?_)
            have hP : zP g [(textW g q x n c1 (kdA f n (tS f n (cPs f n e1 b1))) (tS f n (cPs f n e1 b1)) (nEn f n (cPs f n e1 b1)) f m2_9), (netW g r y (eVW (cWd f n e1) f n e1 v1) (eBW (cWd f n e1) b1) (eHW (cWd f n e1) f n e1 b1 h1) (eOW (cWd f n e1) f n e1 b1 o1) (eLW (cWd f n e1) f n e1 b1 l1))] H := zP_sub hP [1, 0] rfl
            have hD : zD A [(textW g q x n c1 (kdA f n (tS f n (cPs f n e1 b1))) (tS f n (cPs f n e1 b1)) (nEn f n (cPs f n e1 b1)) f m2_9), (netW g r y (eVW (cWd f n e1) f n e1 v1) (eBW (cWd f n e1) b1) (eHW (cWd f n e1) f n e1 b1 h1) (eOW (cWd f n e1) f n e1 b1 o1) (eLW (cWd f n e1) f n e1 b1 l1))] := zD_sub hD [1, 0] rfl rfl
            have hP : zP g [[(q, .inr (7, [.ref (x 0), vI ((n : Nat) : Int), vI ((c1 : Nat) : Int), vI (((kdA f n (tS f n (cPs f n e1 b1))) : Nat) : Int), vI (((tS f n (cPs f n e1 b1)) : Nat) : Int), vI (((nEn f n (cPs f n e1 b1)) : Nat) : Int), .ref (x 1)]))], [((x 0), .inl (g.2 0, 200, .inl (aI f)))], [((x 1), .inl (g.2 0, 4, .inl (aI m2_9)))], (netW g r y (eVW (cWd f n e1) f n e1 v1) (eBW (cWd f n e1) b1) (eHW (cWd f n e1) f n e1 b1 h1) (eOW (cWd f n e1) f n e1 b1 o1) (eLW (cWd f n e1) f n e1 b1 l1))] H := hP
            have hD : zD A [[(q, .inr (7, [.ref (x 0), vI ((n : Nat) : Int), vI ((c1 : Nat) : Int), vI (((kdA f n (tS f n (cPs f n e1 b1))) : Nat) : Int), vI (((tS f n (cPs f n e1 b1)) : Nat) : Int), vI (((nEn f n (cPs f n e1 b1)) : Nat) : Int), .ref (x 1)]))], [((x 0), .inl (g.2 0, 200, .inl (aI f)))], [((x 1), .inl (g.2 0, 4, .inl (aI m2_9)))], (netW g r y (eVW (cWd f n e1) f n e1 v1) (eBW (cWd f n e1) b1) (eHW (cWd f n e1) f n e1 b1 h1) (eOW (cWd f n e1) f n e1 b1 o1) (eLW (cWd f n e1) f n e1 b1 l1))] := hD
            refine lv_aload_n hx hb dX7_readInto_47 rfl (lv_at hl 1 rfl) ?_
            refine lv_dup hx hb dX7_readInto_48 rfl ?_
            refine z_get hx hb hts hin7_ hown hK hP 0 rfl rfl 2 (by decide) (hts _ (List.mem_of_getElem? (i := 2) rfl)) rfl dX7_readInto_49 ?_
            refine z_iconst hx hb dX7_readInto_52 rfl ?_
            refine z_iadd hx hb (((c1 + 1) : Nat) : Int) (by omega) dX7_readInto_53 ?_
            refine z_put hx hb hts hin7_ tyX7 tyX7_ok nmX7 hown hK hP hD hS 0 rfl rfl 2 (by decide) (hts _ (List.mem_of_getElem? (i := 2) rfl)) rfl rfl rfl (Nat.le_of_ble_eq_true rfl) dX7_readInto_54 [[(q, .inr (7, [.ref (x 0), vI ((n : Nat) : Int), vI (((c1 + 1) : Nat) : Int), vI (((kdA f n (tS f n (cPs f n e1 b1))) : Nat) : Int), vI (((tS f n (cPs f n e1 b1)) : Nat) : Int), vI (((nEn f n (cPs f n e1 b1)) : Nat) : Int), .ref (x 1)]))], [((x 0), .inl (g.2 0, 200, .inl (aI f)))], [((x 1), .inl (g.2 0, 4, .inl (aI m2_9)))], (netW g r y (eVW (cWd f n e1) f n e1 v1) (eBW (cWd f n e1) b1) (eHW (cWd f n e1) f n e1 b1 h1) (eOW (cWd f n e1) f n e1 b1 o1) (eLW (cWd f n e1) f n e1 b1 l1))] rfl (fun H locs hP hD hS => ?_)
            have hI2 : ((smc f (kdA f n (tS f n (cPs f n e1 b1))) (tS f n (cPs f n e1 b1))) = 1 ∧ c1 + 1 < 24 → pA f n (24 - (c1 + 1)) (nEn f n (cPs f n e1 b1)) (eff f n e1 (v1, b1, h1, o1, l1)) (c1 + 1) = (pA f n 24 0 (v, b, h, o, l_) 0)) ∧ (¬ ((smc f (kdA f n (tS f n (cPs f n e1 b1))) (tS f n (cPs f n e1 b1))) = 1 ∧ c1 + 1 < 24) → ((if (kdA f n (tS f n (cPs f n e1 b1))) = 0 then -1 else ((tS f n (cPs f n e1 b1)) : Int)), eff f n e1 (v1, b1, h1, o1, l1), c1 + 1) = (pA f n 24 0 (v, b, h, o, l_) 0)) := by
              have hI1 := hI.1 ⟨by omega, by omega⟩
              refine ⟨fun q => ?_, fun q => ?_⟩
              · rw [← hI1, pA_go (m := 24 - c1) (e := e1) (x := (v1, b1, h1, o1, l1)) (c := c1) (by omega) hok q.1 (by omega)]; rfl
              · rw [← hI1, pA_end (m := 24 - c1) (e := e1) (x := (v1, b1, h1, o1, l1)) (c := c1) (by omega) hok (by intro q9; exact q ⟨q9.1, by omega⟩)]
            refine lv_goto (tgt := 12) hx hb dX7_readInto_57 (by decide) ?_
            exact ih (smc f (kdA f n (tS f n (cPs f n e1 b1))) (tS f n (cPs f n e1 b1))) (c1 + 1) (kdA f n (tS f n (cPs f n e1 b1))) (tS f n (cPs f n e1 b1)) (nEn f n (cPs f n e1 b1)) m2_9 (eVW (cWd f n e1) f n e1 v1) (eBW (cWd f n e1) b1) (eHW (cWd f n e1) f n e1 b1 h1) (eOW (cWd f n e1) f n e1 b1 o1) (eLW (cWd f n e1) f n e1 b1 l1) _ _ _ (by omega) (by omega) (by omega) (by omega) hN2 hI2 (by omega) hP hD hS (lv_sub hl [1, 2, 0] rfl)
          · have hP : zP g [[(q, .inr (7, [.ref (x 0), vI ((n : Nat) : Int), vI ((c1 : Nat) : Int), vI ((k2_6 : Nat) : Int), vI ((s2_7 : Nat) : Int), vI ((e2_8 : Nat) : Int), .ref (x 1)]))], [((x 0), .inl (g.2 0, 200, .inl (aI f)))], [((x 1), .inl (g.2 0, 4, .inl (aI m2_9)))], (netW g r y v2_10 b2_11 h2_12 o2_13 l2_14)] H := hP
            have hD : zD A [[(q, .inr (7, [.ref (x 0), vI ((n : Nat) : Int), vI ((c1 : Nat) : Int), vI ((k2_6 : Nat) : Int), vI ((s2_7 : Nat) : Int), vI ((e2_8 : Nat) : Int), .ref (x 1)]))], [((x 0), .inl (g.2 0, 200, .inl (aI f)))], [((x 1), .inl (g.2 0, 4, .inl (aI m2_9)))], (netW g r y v2_10 b2_11 h2_12 o2_13 l2_14)] := hD
            refine lv_aload_n hx hb dX7_readInto_33 rfl (lv_at hl 0 rfl) ?_
            refine z_get hx hb hts hin7_ hown hK hP 0 rfl rfl 4 (by decide) (hts _ (List.mem_of_getElem? (i := 3) rfl)) rfl dX7_readInto_34 ?_
            have hP : zP g [(textW g q x n c1 k2_6 s2_7 e2_8 f m2_9), (netW g r y v2_10 b2_11 h2_12 o2_13 l2_14)] H := hP
            have hD : zD A [(textW g q x n c1 k2_6 s2_7 e2_8 f m2_9), (netW g r y v2_10 b2_11 h2_12 o2_13 l2_14)] := hD
            have hbad := hI.1 ⟨by omega, by omega⟩
            rw [pA_bad (by omega) (by show ¬ cOk f n e1 b1 = 1; omega)] at hbad
            have hs9 := hwu_5.2.1 (by omega)
            exact z_reti (c1, k2_6, s2_7, e2_8, m2_9, v2_10, b2_11, h2_12, o2_13, l2_14) [0, 1] hx hb hr rfl hlocks hK hP hD hS (by rw [← hbad, hs9]) (fun h9 => by rw [← hbad] at h9; exact False.elim (by have : ((cPs f n e1 b1 : Nat) : Int) = -1 := h9; omega)) rfl rfl (rfl) (Nat.le_of_ble_eq_true rfl) (Nat.le_of_ble_eq_true rfl) dX7_readInto_37
  exact loop12 _ 1 0 k s_ 0 m_ v b h o l_ _ _ _ (by omega) (by omega) (by omega) (by omega) hN ⟨fun _ => rfl, fun q => absurd ⟨rfl, by omega⟩ q⟩ (Nat.lt_succ_self _) hP hD hS (lv_sub hl [1, 2, 0] rfl)
