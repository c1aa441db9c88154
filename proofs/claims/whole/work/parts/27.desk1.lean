set_option maxHeartbeats 4000000 in
set_option maxRecDepth 100000 in
theorem c_X9_write_out (l : Launch) (g : zG) (q : Nat) (d : Nat → Nat) (tx : Nat → Nat) (n : Nat) (c_ : Nat) (k : Nat) (s_ : Nat) (e_ : Nat) (f : Nat → Int) (m_ : Nat → Int) (a : Int) (hr0 : -2147483648 ≤ a ∧ a < 2147483648) (ha : ¬ (0 ≤ a ∧ a ≤ 255)) : zMet l g yX9_write wsX9_write 1 0 0 [.ref q, vI a] zX0 [[dsk q d], (textW g (d 0) tx n c_ k s_ e_ f m_)] (qi g (fun (_ : Unit) => (-2000000002)) (fun (_ : Unit) => True) (fun (_ : Unit) => [[dsk q d], (textW g (d 0) tx n c_ k s_ e_ f m_)])) := by
  refine z_ent (cc := cX9_write) (maxL := 2) (ret := (some .int)) (by decide) rfl (Nat.le_of_ble_eq_true rfl) ?_
  intro p e s m below meth c A ls hx hb hr hml hown hts hlocks hin0 hA hK hP hD hS hXX hl
  have hown : s.vm.findClass RX9 = some m.cls := hown
  have hl : lv_has ls 2 [(0, .ref q), (1, vI a)] := hl
  refine lv_iload_n hx hb dX9_write_0 rfl (lv_at hl 1 rfl) ?_
  refine z_iconst hx hb dX9_write_1 rfl ?_
  refine z_sipush hx hb 255 dX9_write_2 rfl ?_
  refine z_cSi (As := [vI a, vI 0, vI 255]) (rest := []) ⟨hx, hb, hml, hown, hts⟩ hK hP hD hS hA [] [0, 1] rfl rfl rfl (c_X9_isOutside l g a 0 255 (by first | assumption | omega | decide) (by first | assumption | omega | decide) (by first | assumption | omega | decide)) (va_cwS 3 hts gX9_write_X9_isOutside rfl rfl rfl (by decide +kernel) ⟨Nat.le_of_ble_eq_true rfl, Nat.le_of_ble_eq_true rfl⟩) (fun _ _ _ _ _ _ => trivial) (fun _ _ _ => trivial) rfl hl.1 (Nat.le_of_ble_eq_true rfl) rfl dX9_write_5 ⟨Nat.le_of_ble_eq_true rfl, Nat.le_of_ble_eq_true rfl⟩ (fun u_1 H locs hwu_1 hP hD hS => ?_)
  try dsimp only at hwu_1
  have hP : zP g [[dsk q d], (textW g (d 0) tx n c_ k s_ e_ f m_)] H := hP
  have hD : zD A [[dsk q d], (textW g (d 0) tx n c_ k s_ e_ f m_)] := hD
  refine z_toI (oU a 0 255) rfl ?_
  have hf_2 := oU_s a 0 255
  refine z_if_eq (tgt := 14) hx hb (by omega) dX9_write_8 (by decide) (fun cq3 => False.elim (by omega)) (fun cq3 => ?_)
  refine z_ldc hx hb (-2000000002) hown (hts _ (List.mem_of_getElem? (i := 1) rfl)) rfl dX9_write_11 ?_
  exact z_reti () [0, 1] hx hb hr rfl hlocks hK hP hD hS (rfl) trivial rfl rfl (rfl) (Nat.le_of_ble_eq_true rfl) (Nat.le_of_ble_eq_true rfl) dX9_write_13

set_option maxHeartbeats 4000000 in
set_option maxRecDepth 100000 in
theorem c_X9_write_full (l : Launch) (g : zG) (q : Nat) (d : Nat → Nat) (tx : Nat → Nat) (n : Nat) (c_ : Nat) (k : Nat) (s_ : Nat) (e_ : Nat) (f : Nat → Int) (m_ : Nat → Int) (a : Int) (hr0 : -2147483648 ≤ a ∧ a < 2147483648) (ha : 0 ≤ a ∧ a ≤ 255) (hn : n = 200) : zMet l g yX9_write wsX9_write 1 0 0 [.ref q, vI a] zX0 [[dsk q d], (textW g (d 0) tx n c_ k s_ e_ f m_)] (qi g (fun (_ : Unit) => (-2000000003)) (fun (_ : Unit) => True) (fun (_ : Unit) => [[dsk q d], (textW g (d 0) tx n c_ k s_ e_ f m_)])) := by
  refine z_ent (cc := cX9_write) (maxL := 2) (ret := (some .int)) (by decide) rfl (Nat.le_of_ble_eq_true rfl) ?_
  intro p e s m below meth c A ls hx hb hr hml hown hts hlocks hin0 hA hK hP hD hS hXX hl
  have hown : s.vm.findClass RX9 = some m.cls := hown
  have hin9_ : ∀ w ∈ wsX90, w ∈ wsX9_write := zw_in [16, 17, 18, 19, 20, 21, 22, 23, 24, 25, 26, 27] rfl
  have hl : lv_has ls 2 [(0, .ref q), (1, vI a)] := hl
  refine lv_iload_n hx hb dX9_write_0 rfl (lv_at hl 1 rfl) ?_
  refine z_iconst hx hb dX9_write_1 rfl ?_
  refine z_sipush hx hb 255 dX9_write_2 rfl ?_
  refine z_cSi (As := [vI a, vI 0, vI 255]) (rest := []) ⟨hx, hb, hml, hown, hts⟩ hK hP hD hS hA [] [0, 1] rfl rfl rfl (c_X9_isOutside l g a 0 255 (by first | assumption | omega | decide) (by first | assumption | omega | decide) (by first | assumption | omega | decide)) (va_cwS 3 hts gX9_write_X9_isOutside rfl rfl rfl (by decide +kernel) ⟨Nat.le_of_ble_eq_true rfl, Nat.le_of_ble_eq_true rfl⟩) (fun _ _ _ _ _ _ => trivial) (fun _ _ _ => trivial) rfl hl.1 (Nat.le_of_ble_eq_true rfl) rfl dX9_write_5 ⟨Nat.le_of_ble_eq_true rfl, Nat.le_of_ble_eq_true rfl⟩ (fun u_1 H locs hwu_1 hP hD hS => ?_)
  try dsimp only at hwu_1
  have hP : zP g [[dsk q d], (textW g (d 0) tx n c_ k s_ e_ f m_)] H := hP
  have hD : zD A [[dsk q d], (textW g (d 0) tx n c_ k s_ e_ f m_)] := hD
  refine z_toI (oU a 0 255) rfl ?_
  have hf_2 := oU_s a 0 255
  refine z_if_eq (tgt := 14) hx hb (by omega) dX9_write_8 (by decide) (fun cq3 => ?_) (fun cq3 => False.elim (by omega))
  refine lv_aload_n hx hb dX9_write_14 rfl (lv_at hl 0 rfl) ?_
  refine z_get hx hb hts hin9_ hown hK hP 0 rfl rfl 0 (by decide) (hts _ (List.mem_of_getElem? (i := 2) rfl)) rfl dX9_write_15 ?_
  refine lv_iload_n hx hb dX9_write_18 rfl (lv_at hl 1 rfl) ?_
  refine z_cVi (As := [vI a]) (rest := []) ⟨hx, hb, hml, hown, hts⟩ hK hP hD hS hA [1] [0] rfl rfl rfl (c_X7_append0 l g (d 0) tx n c_ k s_ e_ f m_ a (by omega)) (cwV 1 hts gX9_write_X7_append rfl rfl rfl (by decide +kernel) ⟨Nat.le_of_ble_eq_true rfl, Nat.le_of_ble_eq_true rfl⟩) 7 0 rfl rfl rfl (fun _ _ _ _ _ _ => trivial) (fun _ _ _ => trivial) rfl hl.1 (Nat.le_of_ble_eq_true rfl) rfl dX9_write_19 ⟨Nat.le_of_ble_eq_true rfl, Nat.le_of_ble_eq_true rfl⟩ (fun u_4 H locs hwu_4 hP hD hS => ?_)
  try dsimp only at hwu_4
  have hP : zP g [[dsk q d], (textW g (d 0) tx n c_ k s_ e_ f m_)] H := hP
  have hD : zD A [[dsk q d], (textW g (d 0) tx n c_ k s_ e_ f m_)] := hD
  refine z_toI 0 rfl ?_
  refine z_if_eq (tgt := 35) hx hb (by decide) dX9_write_22 (by decide) (fun cq5 => ?_) (fun cq5 => False.elim (by omega))
  refine z_ldc hx hb (-2000000003) hown (hts _ (List.mem_of_getElem? (i := 4) rfl)) rfl dX9_write_35 ?_
  exact z_reti () [0, 1] hx hb hr rfl hlocks hK hP hD hS (rfl) trivial rfl rfl (rfl) (Nat.le_of_ble_eq_true rfl) (Nat.le_of_ble_eq_true rfl) dX9_write_37

set_option maxHeartbeats 4000000 in
set_option maxRecDepth 100000 in
theorem c_X9_write_ok (l : Launch) (g : zG) (q : Nat) (d : Nat → Nat) (tx : Nat → Nat) (n : Nat) (c_ : Nat) (k : Nat) (s_ : Nat) (e_ : Nat) (f : Nat → Int) (m_ : Nat → Int) (a : Int) (hr0 : -2147483648 ≤ a ∧ a < 2147483648) (ha : 0 ≤ a ∧ a ≤ 255) (hn : n < 200) : zMet l g yX9_write wsX9_write 1 0 0 [.ref q, vI a] zX0 [[dsk q d], (textW g (d 0) tx n c_ k s_ e_ f m_)] (qi g (fun (_ : Unit) => (((n + 1) : Nat) : Int)) (fun (_ : Unit) => True) (fun (_ : Unit) => [[dsk q d], (textW g (d 0) tx (n + 1) c_ k s_ e_ (uI f n a) m_)])) := by
  refine z_ent (cc := cX9_write) (maxL := 2) (ret := (some .int)) (by decide) rfl (Nat.le_of_ble_eq_true rfl) ?_
  intro p e s m below meth c A ls hx hb hr hml hown hts hlocks hin0 hA hK hP hD hS hXX hl
  have hown : s.vm.findClass RX9 = some m.cls := hown
  have hin7_ : ∀ w ∈ wsX70, w ∈ wsX9_write := zw_in [28, 29, 30, 31, 32, 33, 34] rfl
  have hin9_ : ∀ w ∈ wsX90, w ∈ wsX9_write := zw_in [16, 17, 18, 19, 20, 21, 22, 23, 24, 25, 26, 27] rfl
  have hl : lv_has ls 2 [(0, .ref q), (1, vI a)] := hl
  refine lv_iload_n hx hb dX9_write_0 rfl (lv_at hl 1 rfl) ?_
  refine z_iconst hx hb dX9_write_1 rfl ?_
  refine z_sipush hx hb 255 dX9_write_2 rfl ?_
  refine z_cSi (As := [vI a, vI 0, vI 255]) (rest := []) ⟨hx, hb, hml, hown, hts⟩ hK hP hD hS hA [] [0, 1] rfl rfl rfl (c_X9_isOutside l g a 0 255 (by first | assumption | omega | decide) (by first | assumption | omega | decide) (by first | assumption | omega | decide)) (va_cwS 3 hts gX9_write_X9_isOutside rfl rfl rfl (by decide +kernel) ⟨Nat.le_of_ble_eq_true rfl, Nat.le_of_ble_eq_true rfl⟩) (fun _ _ _ _ _ _ => trivial) (fun _ _ _ => trivial) rfl hl.1 (Nat.le_of_ble_eq_true rfl) rfl dX9_write_5 ⟨Nat.le_of_ble_eq_true rfl, Nat.le_of_ble_eq_true rfl⟩ (fun u_1 H locs hwu_1 hP hD hS => ?_)
  try dsimp only at hwu_1
  have hP : zP g [[dsk q d], (textW g (d 0) tx n c_ k s_ e_ f m_)] H := hP
  have hD : zD A [[dsk q d], (textW g (d 0) tx n c_ k s_ e_ f m_)] := hD
  refine z_toI (oU a 0 255) rfl ?_
  have hf_2 := oU_s a 0 255
  refine z_if_eq (tgt := 14) hx hb (by omega) dX9_write_8 (by decide) (fun cq3 => ?_) (fun cq3 => False.elim (by omega))
  refine lv_aload_n hx hb dX9_write_14 rfl (lv_at hl 0 rfl) ?_
  refine z_get hx hb hts hin9_ hown hK hP 0 rfl rfl 0 (by decide) (hts _ (List.mem_of_getElem? (i := 2) rfl)) rfl dX9_write_15 ?_
  refine lv_iload_n hx hb dX9_write_18 rfl (lv_at hl 1 rfl) ?_
  refine z_cVi (As := [vI a]) (rest := []) ⟨hx, hb, hml, hown, hts⟩ hK hP hD hS hA [1] [0] rfl rfl rfl (c_X7_append l g (d 0) tx n c_ k s_ e_ f m_ a (by omega)) (cwV 1 hts gX9_write_X7_append rfl rfl rfl (by decide +kernel) ⟨Nat.le_of_ble_eq_true rfl, Nat.le_of_ble_eq_true rfl⟩) 7 0 rfl rfl rfl (fun _ _ _ _ _ _ => trivial) (fun _ _ _ => trivial) rfl hl.1 (Nat.le_of_ble_eq_true rfl) rfl dX9_write_19 ⟨Nat.le_of_ble_eq_true rfl, Nat.le_of_ble_eq_true rfl⟩ (fun u_4 H locs hwu_4 hP hD hS => ?_)
  try dsimp only at hwu_4
  have hP : zP g [[dsk q d], (textW g (d 0) tx (n + 1) c_ k s_ e_ (uI f n a) m_)] H := hP
  have hD : zD A [[dsk q d], (textW g (d 0) tx (n + 1) c_ k s_ e_ (uI f n a) m_)] := hD
  refine z_toI 1 rfl ?_
  refine z_if_eq (tgt := 35) hx hb (by decide) dX9_write_22 (by decide) (fun cq5 => False.elim (by omega)) (fun cq5 => ?_)
  refine lv_aload_n hx hb dX9_write_25 rfl (lv_at hl 0 rfl) ?_
  refine z_get hx hb hts hin9_ hown hK hP 0 rfl rfl 0 (by decide) (hts _ (List.mem_of_getElem? (i := 2) rfl)) rfl dX9_write_26 ?_
  have hP : zP g [[dsk q d], [((d 0), .inr (7, [.ref (tx 0), vI (((n + 1) : Nat) : Int), vI ((c_ : Nat) : Int), vI ((k : Nat) : Int), vI ((s_ : Nat) : Int), vI ((e_ : Nat) : Int), .ref (tx 1)]))], [((tx 0), .inl (g.2 0, 200, .inl (aI (uI f n a))))], [((tx 1), .inl (g.2 0, 4, .inl (aI m_)))]] H := hP
  have hD : zD A [[dsk q d], [((d 0), .inr (7, [.ref (tx 0), vI (((n + 1) : Nat) : Int), vI ((c_ : Nat) : Int), vI ((k : Nat) : Int), vI ((s_ : Nat) : Int), vI ((e_ : Nat) : Int), .ref (tx 1)]))], [((tx 0), .inl (g.2 0, 200, .inl (aI (uI f n a))))], [((tx 1), .inl (g.2 0, 4, .inl (aI m_)))]] := hD
  refine z_get hx hb hts hin7_ hown hK hP 1 rfl rfl 1 (by decide) (hts _ (List.mem_of_getElem? (i := 3) rfl)) rfl dX9_write_29 ?_
  refine lv_goto (tgt := 37) hx hb dX9_write_32 (by decide) ?_
  have hP : zP g [[dsk q d], (textW g (d 0) tx (n + 1) c_ k s_ e_ (uI f n a) m_)] H := hP
  have hD : zD A [[dsk q d], (textW g (d 0) tx (n + 1) c_ k s_ e_ (uI f n a) m_)] := hD
  exact z_reti () [0, 1] hx hb hr rfl hlocks hK hP hD hS (rfl) trivial rfl rfl (rfl) (Nat.le_of_ble_eq_true rfl) (Nat.le_of_ble_eq_true rfl) dX9_write_37

set_option maxHeartbeats 4000000 in
set_option maxRecDepth 100000 in
theorem c_X9_erase (l : Launch) (g : zG) (q : Nat) (d : Nat → Nat) (tx : Nat → Nat) (n : Nat) (c_ : Nat) (k : Nat) (s_ : Nat) (e_ : Nat) (f : Nat → Int) (m_ : Nat → Int)  : zMet l g yX9_erase wsX9_erase 0 0 0 [.ref q] zX0 [[dsk q d], (textW g (d 0) tx n c_ k s_ e_ f m_)] (qi g (fun (_ : Unit) => ((n : Nat) : Int)) (fun (_ : Unit) => True) (fun (_ : Unit) => [[dsk q d], (textW g (d 0) tx 0 c_ k s_ e_ f m_)])) := by
  refine z_ent (cc := cX9_erase) (maxL := 2) (ret := (some .int)) (by decide) rfl (Nat.le_of_ble_eq_true rfl) ?_
  intro p e s m below meth c A ls hx hb hr hml hown hts hlocks hin0 hA hK hP hD hS hXX hl
  have hown : s.vm.findClass RX9 = some m.cls := hown
  have hin7_ : ∀ w ∈ wsX70, w ∈ wsX9_erase := zw_in [15, 16, 17, 18, 19, 20, 21] rfl
  have hin9_ : ∀ w ∈ wsX90, w ∈ wsX9_erase := zw_in [3, 4, 5, 6, 7, 8, 9, 10, 11, 12, 13, 14] rfl
  have hl : lv_has ls 2 [(0, .ref q)] := hl
  have hP : zP g [[dsk q d], [((d 0), .inr (7, [.ref (tx 0), vI ((n : Nat) : Int), vI ((c_ : Nat) : Int), vI ((k : Nat) : Int), vI ((s_ : Nat) : Int), vI ((e_ : Nat) : Int), .ref (tx 1)]))], [((tx 0), .inl (g.2 0, 200, .inl (aI f)))], [((tx 1), .inl (g.2 0, 4, .inl (aI m_)))]] s.heap := hP
  have hD : zD A [[dsk q d], [((d 0), .inr (7, [.ref (tx 0), vI ((n : Nat) : Int), vI ((c_ : Nat) : Int), vI ((k : Nat) : Int), vI ((s_ : Nat) : Int), vI ((e_ : Nat) : Int), .ref (tx 1)]))], [((tx 0), .inl (g.2 0, 200, .inl (aI f)))], [((tx 1), .inl (g.2 0, 4, .inl (aI m_)))]] := hD
  refine lv_aload_n hx hb dX9_erase_0 rfl (lv_at hl 0 rfl) ?_
  refine z_get hx hb hts hin9_ hown hK hP 0 rfl rfl 0 (by decide) (hts _ (List.mem_of_getElem? (i := 1) rfl)) rfl dX9_erase_1 ?_
  refine z_get hx hb hts hin7_ hown hK hP 1 rfl rfl 1 (by decide) (hts _ (List.mem_of_getElem? (i := 2) rfl)) rfl dX9_erase_4 ?_
  refine lv_istore_n (lv' := [(1, vI ((n : Nat) : Int)), (0, .ref q)]) hx hb dX9_erase_7 rfl hl (by decide) rfl (fun ls hl => ?_)
  refine lv_aload_n hx hb dX9_erase_8 rfl (lv_at hl 1 rfl) ?_
  refine z_get hx hb hts hin9_ hown hK hP 0 rfl rfl 0 (by decide) (hts _ (List.mem_of_getElem? (i := 1) rfl)) rfl dX9_erase_9 ?_
  refine z_iconst hx hb dX9_erase_12 rfl ?_
  refine z_put hx hb hts hin7_ tyX7 tyX7_ok nmX7 hown hK hP hD hS 1 rfl rfl 1 (by decide) (hts _ (List.mem_of_getElem? (i := 2) rfl)) rfl rfl rfl (Nat.le_of_ble_eq_true rfl) dX9_erase_13 [[dsk q d], [((d 0), .inr (7, [.ref (tx 0), vI 0, vI ((c_ : Nat) : Int), vI ((k : Nat) : Int), vI ((s_ : Nat) : Int), vI ((e_ : Nat) : Int), .ref (tx 1)]))], [((tx 0), .inl (g.2 0, 200, .inl (aI f)))], [((tx 1), .inl (g.2 0, 4, .inl (aI m_)))]] rfl (fun H locs hP hD hS => ?_)
  refine lv_iload_n hx hb dX9_erase_16 rfl (lv_at hl 0 rfl) ?_
  have hP : zP g [[dsk q d], (textW g (d 0) tx 0 c_ k s_ e_ f m_)] H := hP
  have hD : zD A [[dsk q d], (textW g (d 0) tx 0 c_ k s_ e_ f m_)] := hD
  exact z_reti () [0, 1] hx hb hr rfl hlocks hK hP hD hS (rfl) trivial rfl rfl (rfl) (Nat.le_of_ble_eq_true rfl) (Nat.le_of_ble_eq_true rfl) dX9_erase_17

set_option maxHeartbeats 4000000 in
set_option maxRecDepth 100000 in
theorem c_X9_fault (l : Launch) (g : zG) (q : Nat) (d : Nat → Nat) (tx : Nat → Nat) (n : Nat) (c_ : Nat) (k : Nat) (s_ : Nat) (e_ : Nat) (f : Nat → Int) (m_ : Nat → Int) (gx : Nat → Nat) (v : Int) (b : Nat) (h : Nat → Int) (o : Nat → Int) (l_ : Nat → Int) (dx : Nat → Nat) (v0 : Int) (b0 : Nat) (h0 : Nat → Int) (o0 : Nat → Int) (l0 : Nat → Int) (xs : Nat → Nat) (vs : Nat → Nat) (hn : n ≤ 200) (hf : ∀ i, 0 ≤ f i ∧ f i ≤ 255) (hN : nok v b h o l_) : zMet l g yX9_fault wsX9_fault 7 0 0 [.ref q] (zXW xs vs) [[dsk q d], (textW g (d 0) tx n c_ k s_ e_ f m_), (netW g (d 1) gx v b h o l_), (netW g (d 2) dx v0 b0 h0 o0 l0)] (qi g (fun (u_ : Nat × Nat × Nat × Nat × (Nat → Int) × Int × Nat × (Nat → Int) × (Nat → Int) × (Nat → Int)) => ((pA f n 24 0 (v, b, h, o, l_) 0).1)) (fun (u_ : Nat × Nat × Nat × Nat × (Nat → Int) × Int × Nat × (Nat → Int) × (Nat → Int) × (Nat → Int)) => True) (fun (u_ : Nat × Nat × Nat × Nat × (Nat → Int) × Int × Nat × (Nat → Int) × (Nat → Int) × (Nat → Int)) => [[dsk q d], (textW g (d 0) tx n u_.1 u_.2.1 u_.2.2.1 u_.2.2.2.1 f u_.2.2.2.2.1), (netW g (d 1) gx v b h o l_), (netW g (d 2) dx u_.2.2.2.2.2.1 u_.2.2.2.2.2.2.1 u_.2.2.2.2.2.2.2.1 u_.2.2.2.2.2.2.2.2.1 u_.2.2.2.2.2.2.2.2.2)])) := by
  refine z_ent (cc := cX9_fault) (maxL := 1) (ret := (some .int)) (by decide) rfl (Nat.le_of_ble_eq_true rfl) ?_
  intro p e s m below meth c A ls hx hb hr hml hown hts hlocks hin0 hA hK hP hD hS hXX hl
  have hown : s.vm.findClass RX9 = some m.cls := hown
  have hin9_ : ∀ w ∈ wsX90, w ∈ wsX9_fault := zw_in [127, 128, 129, 130, 131, 132, 133, 134, 135, 136, 137, 138] rfl
  have hl : lv_has ls 1 [(0, .ref q)] := hl
  refine lv_aload_n hx hb dX9_fault_0 rfl (lv_at hl 0 rfl) ?_
  refine z_get hx hb hts hin9_ hown hK hP 0 rfl rfl 2 (by decide) (hts _ (List.mem_of_getElem? (i := 1) rfl)) rfl dX9_fault_1 ?_
  refine lv_aload_n hx hb dX9_fault_4 rfl (lv_at hl 0 rfl) ?_
  refine z_get hx hb hts hin9_ hown hK hP 0 rfl rfl 1 (by decide) (hts _ (List.mem_of_getElem? (i := 2) rfl)) rfl dX9_fault_5 ?_
  refine z_cVv (As := [.ref (d 1)]) (rest := []) ⟨hx, hb, hml, hown, hts⟩ hK hP hD hS hA [3, 2] [0, 1] rfl rfl rfl (c_X2_become l g (d 2) dx v0 b0 h0 o0 l0 (d 1) gx v b h o l_ ) (cwV 1 hts gX9_fault_X2_become rfl rfl rfl (by decide +kernel) ⟨Nat.le_of_ble_eq_true rfl, Nat.le_of_ble_eq_true rfl⟩) 2 0 rfl rfl rfl (fun _ _ _ _ _ _ => trivial) (fun _ _ _ => trivial) rfl hl.1 (Nat.le_of_ble_eq_true rfl) rfl dX9_fault_8 ⟨Nat.le_of_ble_eq_true rfl, Nat.le_of_ble_eq_true rfl⟩ (fun u_1 H locs hwu_1 hP hD hS => ?_)
  try dsimp only at hwu_1
  have hP : zP g [[dsk q d], (textW g (d 0) tx n c_ k s_ e_ f m_), (netW g (d 2) dx v b h o l_), (netW g (d 1) gx v b h o l_)] H := hP
  have hD : zD A [[dsk q d], (textW g (d 0) tx n c_ k s_ e_ f m_), (netW g (d 2) dx v b h o l_), (netW g (d 1) gx v b h o l_)] := hD
  refine lv_aload_n hx hb dX9_fault_11 rfl (lv_at hl 0 rfl) ?_
  refine z_get hx hb hts hin9_ hown hK hP 0 rfl rfl 0 (by decide) (hts _ (List.mem_of_getElem? (i := 3) rfl)) rfl dX9_fault_12 ?_
  refine lv_aload_n hx hb dX9_fault_15 rfl (lv_at hl 0 rfl) ?_
  refine z_get hx hb hts hin9_ hown hK hP 0 rfl rfl 2 (by decide) (hts _ (List.mem_of_getElem? (i := 1) rfl)) rfl dX9_fault_16 ?_
  refine z_xVi (As := [.ref (d 2)]) (rest := []) ⟨hx, hb, hml, hown, hts⟩ hK hP hD hS hA [1, 2] [0, 3] rfl rfl rfl (c_X7_readInto l g (d 0) tx n c_ k s_ e_ f m_ (d 2) dx v b h o l_ xs vs (by first | assumption | omega) (by first | assumption | omega) hN) (cwV 1 hts gX9_fault_X7_readInto rfl rfl rfl (by decide +kernel) ⟨Nat.le_of_ble_eq_true rfl, Nat.le_of_ble_eq_true rfl⟩) 7 0 rfl rfl rfl zXW_b (zXW_s hXX hS) rfl hl.1 (Nat.le_of_ble_eq_true rfl) rfl dX9_fault_19 ⟨Nat.le_of_ble_eq_true rfl, Nat.le_of_ble_eq_true rfl⟩ (fun u_2 H locs hwu_2 hP hD hS => ?_)
  obtain ⟨c2_3, k2_4, s2_5, e2_6, m2_7, v2_8, b2_9, h2_10, o2_11, l2_12⟩ := u_2
  try dsimp only at hwu_2
  have hP : zP g [[dsk q d], (netW g (d 1) gx v b h o l_), (textW g (d 0) tx n c2_3 k2_4 s2_5 e2_6 f m2_7), (netW g (d 2) dx v2_8 b2_9 h2_10 o2_11 l2_12)] H := hP
  have hD : zD A [[dsk q d], (netW g (d 1) gx v b h o l_), (textW g (d 0) tx n c2_3 k2_4 s2_5 e2_6 f m2_7), (netW g (d 2) dx v2_8 b2_9 h2_10 o2_11 l2_12)] := hD
  refine z_toI ((pA f n 24 0 (v, b, h, o, l_) 0).1) rfl ?_
  exact z_reti (c2_3, k2_4, s2_5, e2_6, m2_7, v2_8, b2_9, h2_10, o2_11, l2_12) [0, 2, 1, 3] hx hb hr rfl hlocks hK hP hD hS (rfl) trivial rfl rfl (rfl) (Nat.le_of_ble_eq_true rfl) (Nat.le_of_ble_eq_true rfl) dX9_fault_22
