set_option maxHeartbeats 4000000 in
set_option maxRecDepth 100000 in
theorem c_J0_coder_7d493 (l : Launch) (g : zG) (a : Nat) (av : Nat) (bs : List Int)  : zMet l g yJ0_coder_7d493 wsJ0_coder_7d493 0 0 0 [.ref a] (zXS a av bs) [] (qi g (fun (_ : Unit) => 0) (fun (_ : Unit) => True) (fun (_ : Unit) => [])) := by
  refine z_ent (cc := cJ0_coder_7d493) (maxL := 1) (ret := (some .byte)) (by decide) rfl (Nat.le_of_ble_eq_true rfl) ?_
  intro p e s m below meth c A ls hx hb hr hml hown hts hlocks hin0 hA hK hP hD hS hXX hl
  have hown : s.vm.findClass RJ0 = some m.cls := hown
  have hl : lv_has ls 1 [(0, .ref a)] := hl
  refine va_gets hx hb hXX.1 hS hown (hts _ (List.mem_of_getElem? (i := 1) rfl)) (fun _ h => h) dJ0_coder_7d493_0 ?_
  refine z_if_eq (tgt := 13) hx hb (by decide) dJ0_coder_7d493_3 (by decide) (fun c1 => absurd c1 (by decide)) (fun c1 => ?_)
  refine lv_aload_n hx hb dJ0_coder_7d493_6 rfl (lv_at hl 0 rfl) ?_
  refine vk_getf hx hb hXX.2.2.2.1 hS hown (hts _ (List.mem_of_getElem? (i := 2) rfl)) (fun _ h => h) dJ0_coder_7d493_7 ?_
  refine lv_goto (tgt := 14) hx hb dJ0_coder_7d493_10 (by decide) ?_
  exact z_reti () [] hx hb hr rfl hlocks hK hP hD hS (rfl) trivial rfl rfl (rfl) (Nat.le_of_ble_eq_true rfl) (Nat.le_of_ble_eq_true rfl) dJ0_coder_7d493_14

set_option maxHeartbeats 4000000 in
set_option maxRecDepth 100000 in
theorem c_J0_isLatin1_aae02 (l : Launch) (g : zG) (a : Nat) (av : Nat) (bs : List Int)  : zMet l g yJ0_isLatin1_aae02 wsJ0_isLatin1_aae02 0 0 0 [.ref a] (zXS a av bs) [] (qi g (fun (_ : Unit) => 1) (fun (_ : Unit) => True) (fun (_ : Unit) => [])) := by
  refine z_ent (cc := cJ0_isLatin1_aae02) (maxL := 1) (ret := (some .boolean)) (by decide) rfl (Nat.le_of_ble_eq_true rfl) ?_
  intro p e s m below meth c A ls hx hb hr hml hown hts hlocks hin0 hA hK hP hD hS hXX hl
  have hown : s.vm.findClass RJ0 = some m.cls := hown
  have hl : lv_has ls 1 [(0, .ref a)] := hl
  refine va_gets hx hb hXX.1 hS hown (hts _ (List.mem_of_getElem? (i := 1) rfl)) (fun _ h => h) dJ0_isLatin1_aae02_0 ?_
  refine z_if_eq (tgt := 17) hx hb (by decide) dJ0_isLatin1_aae02_3 (by decide) (fun c1 => absurd c1 (by decide)) (fun c1 => ?_)
  refine lv_aload_n hx hb dJ0_isLatin1_aae02_6 rfl (lv_at hl 0 rfl) ?_
  refine vk_getf hx hb hXX.2.2.2.1 hS hown (hts _ (List.mem_of_getElem? (i := 2) rfl)) (fun _ h => h) dJ0_isLatin1_aae02_7 ?_
  refine z_if_ne (tgt := 17) hx hb (by decide) dJ0_isLatin1_aae02_10 (by decide) (fun c2 => absurd c2 (by decide)) (fun c2 => ?_)
  refine z_iconst hx hb dJ0_isLatin1_aae02_13 rfl ?_
  refine lv_goto (tgt := 18) hx hb dJ0_isLatin1_aae02_14 (by decide) ?_
  exact z_reti () [] hx hb hr rfl hlocks hK hP hD hS (rfl) trivial rfl rfl (rfl) (Nat.le_of_ble_eq_true rfl) (Nat.le_of_ble_eq_true rfl) dJ0_isLatin1_aae02_18

set_option maxHeartbeats 4000000 in
set_option maxRecDepth 100000 in
theorem c_J0_length_8abf5 (l : Launch) (g : zG) (a : Nat) (av : Nat) (bs : List Int) (ln : Nat) (hln : bs.length = ln) : zMet l g yJ0_length_8abf5 wsJ0_length_8abf5 1 0 0 [.ref a] (zXS a av bs) [] (qi g (fun (_ : Unit) => ((ln : Nat) : Int)) (fun (_ : Unit) => True) (fun (_ : Unit) => [])) := by
  refine z_ent (cc := cJ0_length_8abf5) (maxL := 1) (ret := (some .int)) (by decide) rfl (Nat.le_of_ble_eq_true rfl) ?_
  intro p e s m below meth c A ls hx hb hr hml hown hts hlocks hin0 hA hK hP hD hS hXX hl
  have hown : s.vm.findClass RJ0 = some m.cls := hown
  have hl : lv_has ls 1 [(0, .ref a)] := hl
  refine lv_aload_n hx hb dJ0_length_8abf5_0 rfl (lv_at hl 0 rfl) ?_
  refine vk_getf hx hb hXX.2.2.2.2.1 hS hown (hts _ (List.mem_of_getElem? (i := 1) rfl)) (fun _ h => h) dJ0_length_8abf5_1 ?_
  refine va_tlen hx hb hXX.2.2.2.2.2 hS (v := Int32.ofInt ((ln : Nat) : Int)) (by rw [hln]; exact Int32.ofInt_eq_ofNat.symm) dJ0_length_8abf5_4 ?_
  refine lv_aload_n hx hb dJ0_length_8abf5_5 rfl (lv_at hl 0 rfl) ?_
  refine z_xRi (As := []) (rest := [vI ((ln : Nat) : Int)]) ⟨hx, hb, hml, hown, hts⟩ hK hP hD hS hA [] [] rfl rfl rfl (c_J0_coder_7d493 l g a av bs ) (cwV 0 hts gJ0_length_8abf5_J0_coder_7d493 rfl rfl rfl (by decide +kernel) ⟨Nat.le_of_ble_eq_true rfl, Nat.le_of_ble_eq_true rfl⟩) (va_Orecv hXX.2.2.1 hS) zXS_b (zXS_s hXX hS) rfl hl.1 (Nat.le_of_ble_eq_true rfl) rfl dJ0_length_8abf5_6 ⟨Nat.le_of_ble_eq_true rfl, Nat.le_of_ble_eq_true rfl⟩ (fun u_1 H locs hwu_1 hP hD hS => ?_)
  try dsimp only at hwu_1
  have hP : zP g [] H := hP
  have hD : zD A [] := hD
  refine z_toI 0 rfl ?_
  refine lv_ishr hx hb dJ0_length_8abf5_9 ?_
  refine z_asI ((ln : Nat) : Int) (shr0 _) ?_
  exact z_reti () [] hx hb hr rfl hlocks hK hP hD hS (rfl) trivial rfl rfl (rfl) (Nat.le_of_ble_eq_true rfl) (Nat.le_of_ble_eq_true rfl) dJ0_length_8abf5_10

set_option maxHeartbeats 4000000 in
set_option maxRecDepth 100000 in
theorem c_J3_cin (l : Launch) (g : zG) (a : Nat) (av : Nat) (bs : List Int) (i : Nat) (ln : Nat) (hi : i < ln) (hln : ln ≤ 1000) : zMet l g yJ3_checkIndex_8e157 wsJ3_checkIndex_8e157 0 0 0 [vI ((i : Nat) : Int), vI ((ln : Nat) : Int), .null] (zXS a av bs) [] (qi g (fun (_ : Unit) => ((i : Nat) : Int)) (fun (_ : Unit) => True) (fun (_ : Unit) => [])) := by
  refine z_ent (cc := cJ3_checkIndex_8e157) (maxL := 3) (ret := (some .int)) (by decide) rfl (Nat.le_of_ble_eq_true rfl) ?_
  intro p e s m below meth c A ls hx hb hr hml hown hts hlocks hin0 hA hK hP hD hS hXX hl
  have hown : s.vm.findClass RJ3 = some m.cls := hown
  have hl : lv_has ls 3 [(0, vI ((i : Nat) : Int)), (1, vI ((ln : Nat) : Int)), (2, .null)] := hl
  refine lv_iload_n hx hb dJ3_checkIndex_8e157_0 rfl (lv_at hl 0 rfl) ?_
  refine z_if_lt (tgt := 9) hx hb (by omega) dJ3_checkIndex_8e157_1 (by decide) (fun c1 => False.elim (by omega)) (fun c1 => ?_)
  refine lv_iload_n hx hb dJ3_checkIndex_8e157_4 rfl (lv_at hl 0 rfl) ?_
  refine lv_iload_n hx hb dJ3_checkIndex_8e157_5 rfl (lv_at hl 1 rfl) ?_
  refine z_icmp_lt (tgt := 16) hx hb (by omega) (by omega) dJ3_checkIndex_8e157_6 (by decide) (fun c2 => ?_) (fun c2 => False.elim (by omega))
  refine lv_iload_n hx hb dJ3_checkIndex_8e157_16 rfl (lv_at hl 0 rfl) ?_
  exact z_reti () [] hx hb hr rfl hlocks hK hP hD hS (rfl) trivial rfl rfl (rfl) (Nat.le_of_ble_eq_true rfl) (Nat.le_of_ble_eq_true rfl) dJ3_checkIndex_8e157_17

set_option maxHeartbeats 4000000 in
set_option maxRecDepth 100000 in
theorem c_J3_cir (l : Launch) (g : zG) (a : Nat) (av : Nat) (bs : List Int) (i : Nat) (ln : Nat) (tt : Nat) (hi : i < ln) (hln : ln ≤ 1000) : zMet l g yJ3_checkIndex_8e157 wsJ3_checkIndex_8e157 0 0 0 [vI ((i : Nat) : Int), vI ((ln : Nat) : Int), .ref tt] (zXS a av bs) [] (qi g (fun (_ : Unit) => ((i : Nat) : Int)) (fun (_ : Unit) => True) (fun (_ : Unit) => [])) := by
  refine z_ent (cc := cJ3_checkIndex_8e157) (maxL := 3) (ret := (some .int)) (by decide) rfl (Nat.le_of_ble_eq_true rfl) ?_
  intro p e s m below meth c A ls hx hb hr hml hown hts hlocks hin0 hA hK hP hD hS hXX hl
  have hown : s.vm.findClass RJ3 = some m.cls := hown
  have hl : lv_has ls 3 [(0, vI ((i : Nat) : Int)), (1, vI ((ln : Nat) : Int)), (2, .ref tt)] := hl
  refine lv_iload_n hx hb dJ3_checkIndex_8e157_0 rfl (lv_at hl 0 rfl) ?_
  refine z_if_lt (tgt := 9) hx hb (by omega) dJ3_checkIndex_8e157_1 (by decide) (fun c1 => False.elim (by omega)) (fun c1 => ?_)
  refine lv_iload_n hx hb dJ3_checkIndex_8e157_4 rfl (lv_at hl 0 rfl) ?_
  refine lv_iload_n hx hb dJ3_checkIndex_8e157_5 rfl (lv_at hl 1 rfl) ?_
  refine z_icmp_lt (tgt := 16) hx hb (by omega) (by omega) dJ3_checkIndex_8e157_6 (by decide) (fun c2 => ?_) (fun c2 => False.elim (by omega))
  refine lv_iload_n hx hb dJ3_checkIndex_8e157_16 rfl (lv_at hl 0 rfl) ?_
  exact z_reti () [] hx hb hr rfl hlocks hK hP hD hS (rfl) trivial rfl rfl (rfl) (Nat.le_of_ble_eq_true rfl) (Nat.le_of_ble_eq_true rfl) dJ3_checkIndex_8e157_17

set_option maxHeartbeats 4000000 in
set_option maxRecDepth 100000 in
theorem c_J0_checkIndex_df160 (l : Launch) (g : zG) (a : Nat) (av : Nat) (bs : List Int) (i : Nat) (ln : Nat) (hi : i < ln) (hln : ln ≤ 1000) : zMet l g yJ0_checkIndex_df160 wsJ0_checkIndex_df160 1 0 0 [vI ((i : Nat) : Int), vI ((ln : Nat) : Int)] (zXS a av bs) [] (qv g (fun (_ : Unit) => True) (fun (_ : Unit) => [])) := by
  refine z_ent (cc := cJ0_checkIndex_df160) (maxL := 2) (ret := none) (by decide) rfl (Nat.le_of_ble_eq_true rfl) ?_
  intro p e s m below meth c A ls hx hb hr hml hown hts hlocks hin0 hA hK hP hD hS hXX hl
  have hown : s.vm.findClass RJ0 = some m.cls := hown
  have hl : lv_has ls 2 [(0, vI ((i : Nat) : Int)), (1, vI ((ln : Nat) : Int))] := hl
  refine lv_iload_n hx hb dJ0_checkIndex_df160_0 rfl (lv_at hl 0 rfl) ?_
  refine lv_iload_n hx hb dJ0_checkIndex_df160_1 rfl (lv_at hl 1 rfl) ?_
  rcases hXX.2.1 with h9 | ⟨t9, h9⟩
  · refine va_gets hx hb h9 hS hown (hts _ (List.mem_of_getElem? (i := 1) rfl)) (fun _ h => h) dJ0_checkIndex_df160_2 ?_
    refine z_xSi (As := [vI ((i : Nat) : Int), vI ((ln : Nat) : Int), .null]) (rest := []) ⟨hx, hb, hml, hown, hts⟩ hK hP hD hS hA [] [] rfl rfl rfl (c_J3_cin l g a av bs i ln (by first | assumption | omega | decide) (by first | assumption | omega | decide)) (va_cwS 3 hts gJ0_checkIndex_df160_J3_checkIndex_8e157 rfl rfl rfl (by decide +kernel) ⟨Nat.le_of_ble_eq_true rfl, Nat.le_of_ble_eq_true rfl⟩) zXS_b (zXS_s hXX hS) rfl hl.1 (Nat.le_of_ble_eq_true rfl) rfl dJ0_checkIndex_df160_5 ⟨Nat.le_of_ble_eq_true rfl, Nat.le_of_ble_eq_true rfl⟩ (fun u_1 H locs hwu_1 hP hD hS => ?_)
    try dsimp only at hwu_1
    have hP : zP g [] H := hP
    have hD : zD A [] := hD
    refine z_toI ((i : Nat) : Int) rfl ?_
    refine lv_pop hx hb dJ0_checkIndex_df160_8 rfl ?_
    exact z_retv () [] hx hb hr hlocks hK hP hD hS trivial rfl rfl (rfl) (Nat.le_of_ble_eq_true rfl) (Nat.le_of_ble_eq_true rfl) dJ0_checkIndex_df160_9
  · refine va_gets hx hb h9 hS hown (hts _ (List.mem_of_getElem? (i := 1) rfl)) (fun _ h => h) dJ0_checkIndex_df160_2 ?_
    refine z_xSi (As := [vI ((i : Nat) : Int), vI ((ln : Nat) : Int), .ref t9]) (rest := []) ⟨hx, hb, hml, hown, hts⟩ hK hP hD hS hA [] [] rfl rfl rfl (c_J3_cir l g a av bs i ln t9 (by first | assumption | omega | decide) (by first | assumption | omega | decide)) (va_cwS 3 hts gJ0_checkIndex_df160_J3_checkIndex_8e157 rfl rfl rfl (by decide +kernel) ⟨Nat.le_of_ble_eq_true rfl, Nat.le_of_ble_eq_true rfl⟩) zXS_b (zXS_s hXX hS) rfl hl.1 (Nat.le_of_ble_eq_true rfl) rfl dJ0_checkIndex_df160_5 ⟨Nat.le_of_ble_eq_true rfl, Nat.le_of_ble_eq_true rfl⟩ (fun u_2 H locs hwu_2 hP hD hS => ?_)
    try dsimp only at hwu_2
    have hP : zP g [] H := hP
    have hD : zD A [] := hD
    refine z_toI ((i : Nat) : Int) rfl ?_
    refine lv_pop hx hb dJ0_checkIndex_df160_8 rfl ?_
    exact z_retv () [] hx hb hr hlocks hK hP hD hS trivial rfl rfl (rfl) (Nat.le_of_ble_eq_true rfl) (Nat.le_of_ble_eq_true rfl) dJ0_checkIndex_df160_9

set_option maxHeartbeats 4000000 in
set_option maxRecDepth 100000 in
theorem c_J1_charAt_3b067 (l : Launch) (g : zG) (a : Nat) (av : Nat) (bs : List Int) (i : Nat) (ch : Fin 128) (hi : i < bs.length) (hln : bs.length ≤ 1000) (hch : bs.getD i 0 = (ch.val : Int)) : zMet l g yJ1_charAt_3b067 wsJ1_charAt_3b067 2 0 0 [.ref av, vI ((i : Nat) : Int)] (zXS a av bs) [] (qi g (fun (_ : Unit) => ((ch.val : Nat) : Int)) (fun (_ : Unit) => True) (fun (_ : Unit) => [])) := by
  refine z_ent (cc := cJ1_charAt_3b067) (maxL := 2) (ret := (some .char)) (by decide) rfl (Nat.le_of_ble_eq_true rfl) ?_
  intro p e s m below meth c A ls hx hb hr hml hown hts hlocks hin0 hA hK hP hD hS hXX hl
  have hown : s.vm.findClass RJ1 = some m.cls := hown
  have hl : lv_has ls 2 [(0, .ref av), (1, vI ((i : Nat) : Int))] := hl
  refine lv_iload_n hx hb dJ1_charAt_3b067_0 rfl (lv_at hl 1 rfl) ?_
  refine lv_aload_n hx hb dJ1_charAt_3b067_1 rfl (lv_at hl 0 rfl) ?_
  refine va_tlen hx hb hXX.2.2.2.2.2 hS (v := Int32.ofInt ((bs.length : Nat) : Int)) Int32.ofInt_eq_ofNat.symm dJ1_charAt_3b067_2 ?_
  refine z_xSv (As := [vI ((i : Nat) : Int), vI ((bs.length : Nat) : Int)]) (rest := []) ⟨hx, hb, hml, hown, hts⟩ hK hP hD hS hA [] [] rfl rfl rfl (c_J0_checkIndex_df160 l g a av bs i bs.length (by first | assumption | omega | decide) (by first | assumption | omega | decide)) (va_cwS 2 hts gJ1_charAt_3b067_J0_checkIndex_df160 rfl rfl rfl (by decide +kernel) ⟨Nat.le_of_ble_eq_true rfl, Nat.le_of_ble_eq_true rfl⟩) zXS_b (zXS_s hXX hS) rfl hl.1 (Nat.le_of_ble_eq_true rfl) rfl dJ1_charAt_3b067_3 ⟨Nat.le_of_ble_eq_true rfl, Nat.le_of_ble_eq_true rfl⟩ (fun u_1 H locs hwu_1 hP hD hS => ?_)
  try dsimp only at hwu_1
  have hP : zP g [] H := hP
  have hD : zD A [] := hD
  refine lv_aload_n hx hb dJ1_charAt_3b067_6 rfl (lv_at hl 0 rfl) ?_
  refine lv_iload_n hx hb dJ1_charAt_3b067_7 rfl (lv_at hl 1 rfl) ?_
  refine va_tb hx hb hXX.2.2.2.2.2 hS (i_in (by omega) (by omega)) (v := vI (ch.val : Int)) (by rw [i_nat (by omega)]; show vI (bs.getD (i : Int).toNat 0) = _; rw [Int.toNat_natCast, hch]) dJ1_charAt_3b067_8 ?_
  refine z_sipush hx hb 255 dJ1_charAt_3b067_9 rfl ?_
  refine lv_iand hx hb dJ1_charAt_3b067_12 ?_
  refine z_asI ((ch.val : Nat) : Int) (ch_and ch) ?_
  refine lv_i2c hx hb dJ1_charAt_3b067_13 (ch_c ch) ?_
  exact z_reti () [] hx hb hr (ch_n ch) hlocks hK hP hD hS (rfl) trivial rfl rfl (rfl) (Nat.le_of_ble_eq_true rfl) (Nat.le_of_ble_eq_true rfl) dJ1_charAt_3b067_14

set_option maxHeartbeats 4000000 in
set_option maxRecDepth 100000 in
theorem c_J0_charAt_5068e (l : Launch) (g : zG) (a : Nat) (av : Nat) (bs : List Int) (i : Nat) (ch : Fin 128) (hi : i < bs.length) (hln : bs.length ≤ 1000) (hch : bs.getD i 0 = (ch.val : Int)) : zMet l g yJ0_charAt_5068e wsJ0_charAt_5068e 3 0 0 [.ref a, vI ((i : Nat) : Int)] (zXS a av bs) [] (qi g (fun (_ : Unit) => ((ch.val : Nat) : Int)) (fun (_ : Unit) => True) (fun (_ : Unit) => [])) := by
  refine z_ent (cc := cJ0_charAt_5068e) (maxL := 2) (ret := (some .char)) (by decide) rfl (Nat.le_of_ble_eq_true rfl) ?_
  intro p e s m below meth c A ls hx hb hr hml hown hts hlocks hin0 hA hK hP hD hS hXX hl
  have hown : s.vm.findClass RJ0 = some m.cls := hown
  have hl : lv_has ls 2 [(0, .ref a), (1, vI ((i : Nat) : Int))] := hl
  refine lv_aload_n hx hb dJ0_charAt_5068e_0 rfl (lv_at hl 0 rfl) ?_
  refine z_xRi (As := []) (rest := []) ⟨hx, hb, hml, hown, hts⟩ hK hP hD hS hA [] [] rfl rfl rfl (c_J0_isLatin1_aae02 l g a av bs ) (cwV 0 hts gJ0_charAt_5068e_J0_isLatin1_aae02 rfl rfl rfl (by decide +kernel) ⟨Nat.le_of_ble_eq_true rfl, Nat.le_of_ble_eq_true rfl⟩) (va_Orecv hXX.2.2.1 hS) zXS_b (zXS_s hXX hS) rfl hl.1 (Nat.le_of_ble_eq_true rfl) rfl dJ0_charAt_5068e_1 ⟨Nat.le_of_ble_eq_true rfl, Nat.le_of_ble_eq_true rfl⟩ (fun u_1 H locs hwu_1 hP hD hS => ?_)
  try dsimp only at hwu_1
  have hP : zP g [] H := hP
  have hD : zD A [] := hD
  refine z_toI 1 rfl ?_
  refine z_if_eq (tgt := 16) hx hb (by decide) dJ0_charAt_5068e_4 (by decide) (fun c2 => absurd c2 (by decide)) (fun c2 => ?_)
  refine lv_aload_n hx hb dJ0_charAt_5068e_7 rfl (lv_at hl 0 rfl) ?_
  refine vk_getf hx hb hXX.2.2.2.2.1 hS hown (hts _ (List.mem_of_getElem? (i := 1) rfl)) (fun _ h => h) dJ0_charAt_5068e_8 ?_
  refine lv_iload_n hx hb dJ0_charAt_5068e_11 rfl (lv_at hl 1 rfl) ?_
  refine z_xSi (As := [.ref av, vI ((i : Nat) : Int)]) (rest := []) ⟨hx, hb, hml, hown, hts⟩ hK hP hD hS hA [] [] rfl rfl rfl (c_J1_charAt_3b067 l g a av bs i ch (by first | assumption | omega | decide) (by first | assumption | omega | decide) (by first | assumption | omega | decide)) (va_cwS 2 hts gJ0_charAt_5068e_J1_charAt_3b067 rfl rfl rfl (by decide +kernel) ⟨Nat.le_of_ble_eq_true rfl, Nat.le_of_ble_eq_true rfl⟩) zXS_b (zXS_s hXX hS) rfl hl.1 (Nat.le_of_ble_eq_true rfl) rfl dJ0_charAt_5068e_12 ⟨Nat.le_of_ble_eq_true rfl, Nat.le_of_ble_eq_true rfl⟩ (fun u_3 H locs hwu_3 hP hD hS => ?_)
  try dsimp only at hwu_3
  have hP : zP g [] H := hP
  have hD : zD A [] := hD
  refine z_toI ((ch.val : Nat) : Int) rfl ?_
  exact z_reti () [] hx hb hr (ch_n ch) hlocks hK hP hD hS (rfl) trivial rfl rfl (rfl) (Nat.le_of_ble_eq_true rfl) (Nat.le_of_ble_eq_true rfl) dJ0_charAt_5068e_15

set_option maxHeartbeats 4000000 in
set_option maxRecDepth 100000 in
theorem c_X7_isWordN (l : Launch) (g : zG) (q : Nat) (x : Nat → Nat) (n : Nat) (c_ : Nat) (k : Nat) (s_ : Nat) (e_ : Nat) (f : Nat → Int) (m_ : Nat → Int) (a : Nat) (av : Nat) (hn : n ≤ 200) (hse : s_ ≤ e_ ∧ e_ ≤ n) (hk : k ≤ 3) (hf : ∀ i, 0 ≤ f i ∧ f i ≤ 255) : zMet l g yX7_isWord wsX7_isWord 4 0 0 [.ref q, .ref a] (zXS a av wNet) [(textW g q x n c_ k s_ e_ f m_)] (qi g (fun (_ : Unit) => (wdN f k s_ e_)) (fun (_ : Unit) => True) (fun (_ : Unit) => [(textW g q x n c_ k s_ e_ f m_)])) := by
  refine z_ent (cc := cX7_isWord) (maxL := 3) (ret := (some .boolean)) (by decide) rfl (Nat.le_of_ble_eq_true rfl) ?_
  intro p e s m below meth c A ls hx hb hr hml hown hts hlocks hin0 hA hK hP hD hS hXX hl
  have hown : s.vm.findClass RX7 = some m.cls := hown
  have hin7_ : ∀ w ∈ wsX70, w ∈ wsX7_isWord := zw_in [54, 55, 56, 57, 58, 59, 60] rfl
  have hl : lv_has ls 3 [(0, .ref q), (1, .ref a)] := hl
  have hP : zP g [[(q, .inr (7, [.ref (x 0), vI ((n : Nat) : Int), vI ((c_ : Nat) : Int), vI ((k : Nat) : Int), vI ((s_ : Nat) : Int), vI ((e_ : Nat) : Int), .ref (x 1)]))], [((x 0), .inl (g.2 0, 200, .inl (aI f)))], [((x 1), .inl (g.2 0, 4, .inl (aI m_)))]] s.heap := hP
  have hD : zD A [[(q, .inr (7, [.ref (x 0), vI ((n : Nat) : Int), vI ((c_ : Nat) : Int), vI ((k : Nat) : Int), vI ((s_ : Nat) : Int), vI ((e_ : Nat) : Int), .ref (x 1)]))], [((x 0), .inl (g.2 0, 200, .inl (aI f)))], [((x 1), .inl (g.2 0, 4, .inl (aI m_)))]] := hD
  refine lv_aload_n hx hb dX7_isWord_0 rfl (lv_at hl 0 rfl) ?_
  refine z_get hx hb hts hin7_ hown hK hP 0 rfl rfl 3 (by decide) (hts _ (List.mem_of_getElem? (i := 1) rfl)) rfl dX7_isWord_1 ?_
  refine z_iconst hx hb dX7_isWord_4 rfl ?_
  refine z_icmp_ne (tgt := 24) hx hb (by omega) (by decide) dX7_isWord_5 (by decide) (fun c1 => ?_) (fun c1 => ?_)
  · refine z_iconst hx hb dX7_isWord_24 rfl ?_
    have hP : zP g [(textW g q x n c_ k s_ e_ f m_)] s.heap := hP
    have hD : zD A [(textW g q x n c_ k s_ e_ f m_)] := hD
    exact z_reti () [0] hx hb hr (nar_z (by first | decide | omega)) hlocks hK hP hD hS (by have := wdN_s f k s_ e_; omega) trivial rfl rfl (rfl) (Nat.le_of_ble_eq_true rfl) (Nat.le_of_ble_eq_true rfl) dX7_isWord_25
  · refine lv_aload_n hx hb dX7_isWord_8 rfl (lv_at hl 0 rfl) ?_
    refine z_get hx hb hts hin7_ hown hK hP 0 rfl rfl 5 (by decide) (hts _ (List.mem_of_getElem? (i := 2) rfl)) rfl dX7_isWord_9 ?_
    refine lv_aload_n hx hb dX7_isWord_12 rfl (lv_at hl 0 rfl) ?_
    refine z_get hx hb hts hin7_ hown hK hP 0 rfl rfl 4 (by decide) (hts _ (List.mem_of_getElem? (i := 3) rfl)) rfl dX7_isWord_13 ?_
    refine z_isub hx hb (((e_ : Nat) : Int) - ((s_ : Nat) : Int)) rfl dX7_isWord_16 ?_
    refine lv_aload_n hx hb dX7_isWord_17 rfl (lv_at hl 1 rfl) ?_
    refine z_xRi (As := []) (rest := [vI (((e_ : Nat) : Int) - ((s_ : Nat) : Int))]) ⟨hx, hb, hml, hown, hts⟩ hK hP hD hS hA [] [0, 1, 2] rfl rfl rfl (c_J0_length_8abf5 l g a av wNet 3 rfl) (cwV 0 hts gX7_isWord_J0_length_8abf5 rfl rfl rfl (by decide +kernel) ⟨Nat.le_of_ble_eq_true rfl, Nat.le_of_ble_eq_true rfl⟩) (va_Orecv hXX.2.2.1 hS) zXS_b (zXS_s hXX hS) rfl hl.1 (Nat.le_of_ble_eq_true rfl) rfl dX7_isWord_18 ⟨Nat.le_of_ble_eq_true rfl, Nat.le_of_ble_eq_true rfl⟩ (fun u_2 H locs hwu_2 hP hD hS => ?_)
    try dsimp only at hwu_2
    have hP : zP g [[(q, .inr (7, [.ref (x 0), vI ((n : Nat) : Int), vI ((c_ : Nat) : Int), vI ((k : Nat) : Int), vI ((s_ : Nat) : Int), vI ((e_ : Nat) : Int), .ref (x 1)]))], [((x 0), .inl (g.2 0, 200, .inl (aI f)))], [((x 1), .inl (g.2 0, 4, .inl (aI m_)))]] H := hP
    have hD : zD A [[(q, .inr (7, [.ref (x 0), vI ((n : Nat) : Int), vI ((c_ : Nat) : Int), vI ((k : Nat) : Int), vI ((s_ : Nat) : Int), vI ((e_ : Nat) : Int), .ref (x 1)]))], [((x 0), .inl (g.2 0, 200, .inl (aI f)))], [((x 1), .inl (g.2 0, 4, .inl (aI m_)))]] := hD
    refine z_toI 3 rfl ?_
    refine z_icmp_eq (tgt := 26) hx hb (by omega) (by decide) dX7_isWord_21 (by decide) (fun c3 => ?_) (fun c3 => ?_)
    · refine z_iconst hx hb dX7_isWord_26 rfl ?_
      refine lv_istore_n (lv' := [(2, vI 0), (0, .ref q), (1, .ref a)]) hx hb dX7_isWord_27 rfl hl (by decide) rfl (fun ls hl => ?_)
      refine lv_iload_n hx hb dX7_isWord_28 rfl (lv_at hl 0 rfl) ?_
      refine lv_aload_n hx hb dX7_isWord_29 rfl (lv_at hl 2 rfl) ?_
      refine z_xRi (As := []) (rest := [vI 0]) ⟨hx, hb, hml, hown, hts⟩ hK hP hD hS hA [] [0, 1, 2] rfl rfl rfl (c_J0_length_8abf5 l g a av wNet 3 rfl) (cwV 0 hts gX7_isWord_J0_length_8abf5 rfl rfl rfl (by decide +kernel) ⟨Nat.le_of_ble_eq_true rfl, Nat.le_of_ble_eq_true rfl⟩) (va_Orecv hXX.2.2.1 hS) zXS_b (zXS_s hXX hS) rfl hl.1 (Nat.le_of_ble_eq_true rfl) rfl dX7_isWord_30 ⟨Nat.le_of_ble_eq_true rfl, Nat.le_of_ble_eq_true rfl⟩ (fun u_4 H locs hwu_4 hP hD hS => ?_)
      try dsimp only at hwu_4
      have hP : zP g [[(q, .inr (7, [.ref (x 0), vI ((n : Nat) : Int), vI ((c_ : Nat) : Int), vI ((k : Nat) : Int), vI ((s_ : Nat) : Int), vI ((e_ : Nat) : Int), .ref (x 1)]))], [((x 0), .inl (g.2 0, 200, .inl (aI f)))], [((x 1), .inl (g.2 0, 4, .inl (aI m_)))]] H := hP
      have hD : zD A [[(q, .inr (7, [.ref (x 0), vI ((n : Nat) : Int), vI ((c_ : Nat) : Int), vI ((k : Nat) : Int), vI ((s_ : Nat) : Int), vI ((e_ : Nat) : Int), .ref (x 1)]))], [((x 0), .inl (g.2 0, 200, .inl (aI f)))], [((x 1), .inl (g.2 0, 4, .inl (aI m_)))]] := hD
      refine z_toI 3 rfl ?_
      refine z_icmp_ge (tgt := 63) hx hb (by decide) (by decide) dX7_isWord_33 (by decide) (fun c5 => absurd c5 (by decide)) (fun c5 => ?_)
      refine lv_aload_n hx hb dX7_isWord_36 rfl (lv_at hl 1 rfl) ?_
      refine z_get hx hb hts hin7_ hown hK hP 0 rfl rfl 0 (by decide) (hts _ (List.mem_of_getElem? (i := 4) rfl)) rfl dX7_isWord_37 ?_
      refine lv_aload_n hx hb dX7_isWord_40 rfl (lv_at hl 1 rfl) ?_
      refine z_get hx hb hts hin7_ hown hK hP 0 rfl rfl 4 (by decide) (hts _ (List.mem_of_getElem? (i := 3) rfl)) rfl dX7_isWord_41 ?_
      refine lv_iload_n hx hb dX7_isWord_44 rfl (lv_at hl 0 rfl) ?_
      refine z_iadd hx hb ((s_ : Nat) : Int) (Int.add_zero _) dX7_isWord_45 ?_
      have hz_6 := hf s_
      refine z_iald hx hb hK hP 1 rfl s_ (by omega) (by omega) (by decide) dX7_isWord_46 ?_
      refine lv_aload_n hx hb dX7_isWord_47 rfl (lv_at hl 2 rfl) ?_
      refine lv_iload_n hx hb dX7_isWord_48 rfl (lv_at hl 0 rfl) ?_
      refine z_xRi (As := [vI 0]) (rest := [vI (f s_)]) ⟨hx, hb, hml, hown, hts⟩ hK hP hD hS hA [] [0, 1, 2] rfl rfl rfl (c_J0_charAt_5068e l g a av wNet 0 110 (by decide) (by decide) rfl) (cwV 1 hts gX7_isWord_J0_charAt_5068e rfl rfl rfl (by decide +kernel) ⟨Nat.le_of_ble_eq_true rfl, Nat.le_of_ble_eq_true rfl⟩) (va_Orecv hXX.2.2.1 hS) zXS_b (zXS_s hXX hS) rfl hl.1 (Nat.le_of_ble_eq_true rfl) rfl dX7_isWord_49 ⟨Nat.le_of_ble_eq_true rfl, Nat.le_of_ble_eq_true rfl⟩ (fun u_7 H locs hwu_7 hP hD hS => ?_)
      try dsimp only at hwu_7
      have hP : zP g [[(q, .inr (7, [.ref (x 0), vI ((n : Nat) : Int), vI ((c_ : Nat) : Int), vI ((k : Nat) : Int), vI ((s_ : Nat) : Int), vI ((e_ : Nat) : Int), .ref (x 1)]))], [((x 0), .inl (g.2 0, 200, .inl (aI f)))], [((x 1), .inl (g.2 0, 4, .inl (aI m_)))]] H := hP
      have hD : zD A [[(q, .inr (7, [.ref (x 0), vI ((n : Nat) : Int), vI ((c_ : Nat) : Int), vI ((k : Nat) : Int), vI ((s_ : Nat) : Int), vI ((e_ : Nat) : Int), .ref (x 1)]))], [((x 0), .inl (g.2 0, 200, .inl (aI f)))], [((x 1), .inl (g.2 0, 4, .inl (aI m_)))]] := hD
      refine z_toI 110 rfl ?_
      refine z_icmp_eq (tgt := 57) hx hb (by omega) (by decide) dX7_isWord_52 (by decide) (fun c8 => ?_) (fun c8 => ?_)
      · refine z_iinc hx hb 1 (lv' := [(2, vI 1), (0, .ref q), (1, .ref a)]) dX7_isWord_57 hl (k := 0) rfl (rfl) (by decide) rfl (fun ls hl => ?_)
        refine lv_goto (tgt := 28) hx hb dX7_isWord_60 (by decide) ?_
        refine lv_iload_n hx hb dX7_isWord_28 rfl (lv_at hl 0 rfl) ?_
        refine lv_aload_n hx hb dX7_isWord_29 rfl (lv_at hl 2 rfl) ?_
        refine z_xRi (As := []) (rest := [vI 1]) ⟨hx, hb, hml, hown, hts⟩ hK hP hD hS hA [] [0, 1, 2] rfl rfl rfl (c_J0_length_8abf5 l g a av wNet 3 rfl) (cwV 0 hts gX7_isWord_J0_length_8abf5 rfl rfl rfl (by decide +kernel) ⟨Nat.le_of_ble_eq_true rfl, Nat.le_of_ble_eq_true rfl⟩) (va_Orecv hXX.2.2.1 hS) zXS_b (zXS_s hXX hS) rfl hl.1 (Nat.le_of_ble_eq_true rfl) rfl dX7_isWord_30 ⟨Nat.le_of_ble_eq_true rfl, Nat.le_of_ble_eq_true rfl⟩ (fun u_9 H locs hwu_9 hP hD hS => ?_)
        try dsimp only at hwu_9
        have hP : zP g [[(q, .inr (7, [.ref (x 0), vI ((n : Nat) : Int), vI ((c_ : Nat) : Int), vI ((k : Nat) : Int), vI ((s_ : Nat) : Int), vI ((e_ : Nat) : Int), .ref (x 1)]))], [((x 0), .inl (g.2 0, 200, .inl (aI f)))], [((x 1), .inl (g.2 0, 4, .inl (aI m_)))]] H := hP
        have hD : zD A [[(q, .inr (7, [.ref (x 0), vI ((n : Nat) : Int), vI ((c_ : Nat) : Int), vI ((k : Nat) : Int), vI ((s_ : Nat) : Int), vI ((e_ : Nat) : Int), .ref (x 1)]))], [((x 0), .inl (g.2 0, 200, .inl (aI f)))], [((x 1), .inl (g.2 0, 4, .inl (aI m_)))]] := hD
        refine z_toI 3 rfl ?_
        refine z_icmp_ge (tgt := 63) hx hb (by decide) (by decide) dX7_isWord_33 (by decide) (fun c10 => absurd c10 (by decide)) (fun c10 => ?_)
        refine lv_aload_n hx hb dX7_isWord_36 rfl (lv_at hl 1 rfl) ?_
        refine z_get hx hb hts hin7_ hown hK hP 0 rfl rfl 0 (by decide) (hts _ (List.mem_of_getElem? (i := 4) rfl)) rfl dX7_isWord_37 ?_
        refine lv_aload_n hx hb dX7_isWord_40 rfl (lv_at hl 1 rfl) ?_
        refine z_get hx hb hts hin7_ hown hK hP 0 rfl rfl 4 (by decide) (hts _ (List.mem_of_getElem? (i := 3) rfl)) rfl dX7_isWord_41 ?_
        refine lv_iload_n hx hb dX7_isWord_44 rfl (lv_at hl 0 rfl) ?_
        refine z_iadd hx hb (((s_ + 1) : Nat) : Int) (by omega) dX7_isWord_45 ?_
        have hz_11 := hf (s_ + 1)
        refine z_iald hx hb hK hP 1 rfl (s_ + 1) (by omega) (by omega) (by decide) dX7_isWord_46 ?_
        refine lv_aload_n hx hb dX7_isWord_47 rfl (lv_at hl 2 rfl) ?_
        refine lv_iload_n hx hb dX7_isWord_48 rfl (lv_at hl 0 rfl) ?_
        refine z_xRi (As := [vI 1]) (rest := [vI (f (s_ + 1))]) ⟨hx, hb, hml, hown, hts⟩ hK hP hD hS hA [] [0, 1, 2] rfl rfl rfl (c_J0_charAt_5068e l g a av wNet 1 101 (by decide) (by decide) rfl) (cwV 1 hts gX7_isWord_J0_charAt_5068e rfl rfl rfl (by decide +kernel) ⟨Nat.le_of_ble_eq_true rfl, Nat.le_of_ble_eq_true rfl⟩) (va_Orecv hXX.2.2.1 hS) zXS_b (zXS_s hXX hS) rfl hl.1 (Nat.le_of_ble_eq_true rfl) rfl dX7_isWord_49 ⟨Nat.le_of_ble_eq_true rfl, Nat.le_of_ble_eq_true rfl⟩ (fun u_12 H locs hwu_12 hP hD hS => ?_)
        try dsimp only at hwu_12
        have hP : zP g [[(q, .inr (7, [.ref (x 0), vI ((n : Nat) : Int), vI ((c_ : Nat) : Int), vI ((k : Nat) : Int), vI ((s_ : Nat) : Int), vI ((e_ : Nat) : Int), .ref (x 1)]))], [((x 0), .inl (g.2 0, 200, .inl (aI f)))], [((x 1), .inl (g.2 0, 4, .inl (aI m_)))]] H := hP
        have hD : zD A [[(q, .inr (7, [.ref (x 0), vI ((n : Nat) : Int), vI ((c_ : Nat) : Int), vI ((k : Nat) : Int), vI ((s_ : Nat) : Int), vI ((e_ : Nat) : Int), .ref (x 1)]))], [((x 0), .inl (g.2 0, 200, .inl (aI f)))], [((x 1), .inl (g.2 0, 4, .inl (aI m_)))]] := hD
        refine z_toI 101 rfl ?_
        refine z_icmp_eq (tgt := 57) hx hb (by omega) (by decide) dX7_isWord_52 (by decide) (fun c13 => ?_) (fun c13 => ?_)
        · refine z_iinc hx hb 2 (lv' := [(2, vI 2), (0, .ref q), (1, .ref a)]) dX7_isWord_57 hl (k := 0) rfl (rfl) (by decide) rfl (fun ls hl => ?_)
          refine lv_goto (tgt := 28) hx hb dX7_isWord_60 (by decide) ?_
          refine lv_iload_n hx hb dX7_isWord_28 rfl (lv_at hl 0 rfl) ?_
          refine lv_aload_n hx hb dX7_isWord_29 rfl (lv_at hl 2 rfl) ?_
          refine z_xRi (As := []) (rest := [vI 2]) ⟨hx, hb, hml, hown, hts⟩ hK hP hD hS hA [] [0, 1, 2] rfl rfl rfl (c_J0_length_8abf5 l g a av wNet 3 rfl) (cwV 0 hts gX7_isWord_J0_length_8abf5 rfl rfl rfl (by decide +kernel) ⟨Nat.le_of_ble_eq_true rfl, Nat.le_of_ble_eq_true rfl⟩) (va_Orecv hXX.2.2.1 hS) zXS_b (zXS_s hXX hS) rfl hl.1 (Nat.le_of_ble_eq_true rfl) rfl dX7_isWord_30 ⟨Nat.le_of_ble_eq_true rfl, Nat.le_of_ble_eq_true rfl⟩ (fun u_14 H locs hwu_14 hP hD hS => ?_)
          try dsimp only at hwu_14
          have hP : zP g [[(q, .inr (7, [.ref (x 0), vI ((n : Nat) : Int), vI ((c_ : Nat) : Int), vI ((k : Nat) : Int), vI ((s_ : Nat) : Int), vI ((e_ : Nat) : Int), .ref (x 1)]))], [((x 0), .inl (g.2 0, 200, .inl (aI f)))], [((x 1), .inl (g.2 0, 4, .inl (aI m_)))]] H := hP
          have hD : zD A [[(q, .inr (7, [.ref (x 0), vI ((n : Nat) : Int), vI ((c_ : Nat) : Int), vI ((k : Nat) : Int), vI ((s_ : Nat) : Int), vI ((e_ : Nat) : Int), .ref (x 1)]))], [((x 0), .inl (g.2 0, 200, .inl (aI f)))], [((x 1), .inl (g.2 0, 4, .inl (aI m_)))]] := hD
          refine z_toI 3 rfl ?_
          refine z_icmp_ge (tgt := 63) hx hb (by decide) (by decide) dX7_isWord_33 (by decide) (fun c15 => absurd c15 (by decide)) (fun c15 => ?_)
          refine lv_aload_n hx hb dX7_isWord_36 rfl (lv_at hl 1 rfl) ?_
          refine z_get hx hb hts hin7_ hown hK hP 0 rfl rfl 0 (by decide) (hts _ (List.mem_of_getElem? (i := 4) rfl)) rfl dX7_isWord_37 ?_
          refine lv_aload_n hx hb dX7_isWord_40 rfl (lv_at hl 1 rfl) ?_
          refine z_get hx hb hts hin7_ hown hK hP 0 rfl rfl 4 (by decide) (hts _ (List.mem_of_getElem? (i := 3) rfl)) rfl dX7_isWord_41 ?_
          refine lv_iload_n hx hb dX7_isWord_44 rfl (lv_at hl 0 rfl) ?_
          refine z_iadd hx hb (((s_ + 2) : Nat) : Int) (by omega) dX7_isWord_45 ?_
          have hz_16 := hf (s_ + 2)
          refine z_iald hx hb hK hP 1 rfl (s_ + 2) (by omega) (by omega) (by decide) dX7_isWord_46 ?_
          refine lv_aload_n hx hb dX7_isWord_47 rfl (lv_at hl 2 rfl) ?_
          refine lv_iload_n hx hb dX7_isWord_48 rfl (lv_at hl 0 rfl) ?_
          refine z_xRi (As := [vI 2]) (rest := [vI (f (s_ + 2))]) ⟨hx, hb, hml, hown, hts⟩ hK hP hD hS hA [] [0, 1, 2] rfl rfl rfl (c_J0_charAt_5068e l g a av wNet 2 116 (by decide) (by decide) rfl) (cwV 1 hts gX7_isWord_J0_charAt_5068e rfl rfl rfl (by decide +kernel) ⟨Nat.le_of_ble_eq_true rfl, Nat.le_of_ble_eq_true rfl⟩) (va_Orecv hXX.2.2.1 hS) zXS_b (zXS_s hXX hS) rfl hl.1 (Nat.le_of_ble_eq_true rfl) rfl dX7_isWord_49 ⟨Nat.le_of_ble_eq_true rfl, Nat.le_of_ble_eq_true rfl⟩ (fun u_17 H locs hwu_17 hP hD hS => ?_)
          try dsimp only at hwu_17
          have hP : zP g [[(q, .inr (7, [.ref (x 0), vI ((n : Nat) : Int), vI ((c_ : Nat) : Int), vI ((k : Nat) : Int), vI ((s_ : Nat) : Int), vI ((e_ : Nat) : Int), .ref (x 1)]))], [((x 0), .inl (g.2 0, 200, .inl (aI f)))], [((x 1), .inl (g.2 0, 4, .inl (aI m_)))]] H := hP
          have hD : zD A [[(q, .inr (7, [.ref (x 0), vI ((n : Nat) : Int), vI ((c_ : Nat) : Int), vI ((k : Nat) : Int), vI ((s_ : Nat) : Int), vI ((e_ : Nat) : Int), .ref (x 1)]))], [((x 0), .inl (g.2 0, 200, .inl (aI f)))], [((x 1), .inl (g.2 0, 4, .inl (aI m_)))]] := hD
          refine z_toI 116 rfl ?_
          refine z_icmp_eq (tgt := 57) hx hb (by omega) (by decide) dX7_isWord_52 (by decide) (fun c18 => ?_) (fun c18 => ?_)
          · refine z_iinc hx hb 3 (lv' := [(2, vI 3), (0, .ref q), (1, .ref a)]) dX7_isWord_57 hl (k := 0) rfl (rfl) (by decide) rfl (fun ls hl => ?_)
            refine lv_goto (tgt := 28) hx hb dX7_isWord_60 (by decide) ?_
            refine lv_iload_n hx hb dX7_isWord_28 rfl (lv_at hl 0 rfl) ?_
            refine lv_aload_n hx hb dX7_isWord_29 rfl (lv_at hl 2 rfl) ?_
            refine z_xRi (As := []) (rest := [vI 3]) ⟨hx, hb, hml, hown, hts⟩ hK hP hD hS hA [] [0, 1, 2] rfl rfl rfl (c_J0_length_8abf5 l g a av wNet 3 rfl) (cwV 0 hts gX7_isWord_J0_length_8abf5 rfl rfl rfl (by decide +kernel) ⟨Nat.le_of_ble_eq_true rfl, Nat.le_of_ble_eq_true rfl⟩) (va_Orecv hXX.2.2.1 hS) zXS_b (zXS_s hXX hS) rfl hl.1 (Nat.le_of_ble_eq_true rfl) rfl dX7_isWord_30 ⟨Nat.le_of_ble_eq_true rfl, Nat.le_of_ble_eq_true rfl⟩ (fun u_19 H locs hwu_19 hP hD hS => ?_)
            try dsimp only at hwu_19
            have hP : zP g [[(q, .inr (7, [.ref (x 0), vI ((n : Nat) : Int), vI ((c_ : Nat) : Int), vI ((k : Nat) : Int), vI ((s_ : Nat) : Int), vI ((e_ : Nat) : Int), .ref (x 1)]))], [((x 0), .inl (g.2 0, 200, .inl (aI f)))], [((x 1), .inl (g.2 0, 4, .inl (aI m_)))]] H := hP
            have hD : zD A [[(q, .inr (7, [.ref (x 0), vI ((n : Nat) : Int), vI ((c_ : Nat) : Int), vI ((k : Nat) : Int), vI ((s_ : Nat) : Int), vI ((e_ : Nat) : Int), .ref (x 1)]))], [((x 0), .inl (g.2 0, 200, .inl (aI f)))], [((x 1), .inl (g.2 0, 4, .inl (aI m_)))]] := hD
            refine z_toI 3 rfl ?_
            refine z_icmp_ge (tgt := 63) hx hb (by decide) (by decide) dX7_isWord_33 (by decide) (fun c20 => ?_) (fun c20 => absurd (by decide) c20)
            refine z_iconst hx hb dX7_isWord_63 rfl ?_
            have hP : zP g [(textW g q x n c_ k s_ e_ f m_)] H := hP
            have hD : zD A [(textW g q x n c_ k s_ e_ f m_)] := hD
            exact z_reti () [0] hx hb hr (nar_z (by first | decide | omega)) hlocks hK hP hD hS (by have := wdN_s f k s_ e_; omega) trivial rfl rfl (rfl) (Nat.le_of_ble_eq_true rfl) (Nat.le_of_ble_eq_true rfl) dX7_isWord_64
          · refine z_iconst hx hb dX7_isWord_55 rfl ?_
            have hP : zP g [(textW g q x n c_ k s_ e_ f m_)] H := hP
            have hD : zD A [(textW g q x n c_ k s_ e_ f m_)] := hD
            exact z_reti () [0] hx hb hr (nar_z (by first | decide | omega)) hlocks hK hP hD hS (by have := wdN_s f k s_ e_; omega) trivial rfl rfl (rfl) (Nat.le_of_ble_eq_true rfl) (Nat.le_of_ble_eq_true rfl) dX7_isWord_56
        · refine z_iconst hx hb dX7_isWord_55 rfl ?_
          have hP : zP g [(textW g q x n c_ k s_ e_ f m_)] H := hP
          have hD : zD A [(textW g q x n c_ k s_ e_ f m_)] := hD
          exact z_reti () [0] hx hb hr (nar_z (by first | decide | omega)) hlocks hK hP hD hS (by have := wdN_s f k s_ e_; omega) trivial rfl rfl (rfl) (Nat.le_of_ble_eq_true rfl) (Nat.le_of_ble_eq_true rfl) dX7_isWord_56
      · refine z_iconst hx hb dX7_isWord_55 rfl ?_
        have hP : zP g [(textW g q x n c_ k s_ e_ f m_)] H := hP
        have hD : zD A [(textW g q x n c_ k s_ e_ f m_)] := hD
        exact z_reti () [0] hx hb hr (nar_z (by first | decide | omega)) hlocks hK hP hD hS (by have := wdN_s f k s_ e_; omega) trivial rfl rfl (rfl) (Nat.le_of_ble_eq_true rfl) (Nat.le_of_ble_eq_true rfl) dX7_isWord_56
    · refine z_iconst hx hb dX7_isWord_24 rfl ?_
      have hP : zP g [(textW g q x n c_ k s_ e_ f m_)] H := hP
      have hD : zD A [(textW g q x n c_ k s_ e_ f m_)] := hD
      exact z_reti () [0] hx hb hr (nar_z (by first | decide | omega)) hlocks hK hP hD hS (by have := wdN_s f k s_ e_; omega) trivial rfl rfl (rfl) (Nat.le_of_ble_eq_true rfl) (Nat.le_of_ble_eq_true rfl) dX7_isWord_25

set_option maxHeartbeats 4000000 in
set_option maxRecDepth 100000 in
theorem c_X7_isWordS (l : Launch) (g : zG) (q : Nat) (x : Nat → Nat) (n : Nat) (c_ : Nat) (k : Nat) (s_ : Nat) (e_ : Nat) (f : Nat → Int) (m_ : Nat → Int) (a : Nat) (av : Nat) (hn : n ≤ 200) (hse : s_ ≤ e_ ∧ e_ ≤ n) (hk : k ≤ 3) (hf : ∀ i, 0 ≤ f i ∧ f i ≤ 255) : zMet l g yX7_isWord wsX7_isWord 4 0 0 [.ref q, .ref a] (zXS a av wSou) [(textW g q x n c_ k s_ e_ f m_)] (qi g (fun (_ : Unit) => (wdS f k s_ e_)) (fun (_ : Unit) => True) (fun (_ : Unit) => [(textW g q x n c_ k s_ e_ f m_)])) := by
  refine z_ent (cc := cX7_isWord) (maxL := 3) (ret := (some .boolean)) (by decide) rfl (Nat.le_of_ble_eq_true rfl) ?_
  intro p e s m below meth c A ls hx hb hr hml hown hts hlocks hin0 hA hK hP hD hS hXX hl
  have hown : s.vm.findClass RX7 = some m.cls := hown
  have hin7_ : ∀ w ∈ wsX70, w ∈ wsX7_isWord := zw_in [54, 55, 56, 57, 58, 59, 60] rfl
  have hl : lv_has ls 3 [(0, .ref q), (1, .ref a)] := hl
  have hP : zP g [[(q, .inr (7, [.ref (x 0), vI ((n : Nat) : Int), vI ((c_ : Nat) : Int), vI ((k : Nat) : Int), vI ((s_ : Nat) : Int), vI ((e_ : Nat) : Int), .ref (x 1)]))], [((x 0), .inl (g.2 0, 200, .inl (aI f)))], [((x 1), .inl (g.2 0, 4, .inl (aI m_)))]] s.heap := hP
  have hD : zD A [[(q, .inr (7, [.ref (x 0), vI ((n : Nat) : Int), vI ((c_ : Nat) : Int), vI ((k : Nat) : Int), vI ((s_ : Nat) : Int), vI ((e_ : Nat) : Int), .ref (x 1)]))], [((x 0), .inl (g.2 0, 200, .inl (aI f)))], [((x 1), .inl (g.2 0, 4, .inl (aI m_)))]] := hD
  refine lv_aload_n hx hb dX7_isWord_0 rfl (lv_at hl 0 rfl) ?_
  refine z_get hx hb hts hin7_ hown hK hP 0 rfl rfl 3 (by decide) (hts _ (List.mem_of_getElem? (i := 1) rfl)) rfl dX7_isWord_1 ?_
  refine z_iconst hx hb dX7_isWord_4 rfl ?_
  refine z_icmp_ne (tgt := 24) hx hb (by omega) (by decide) dX7_isWord_5 (by decide) (fun c1 => ?_) (fun c1 => ?_)
  · refine z_iconst hx hb dX7_isWord_24 rfl ?_
    have hP : zP g [(textW g q x n c_ k s_ e_ f m_)] s.heap := hP
    have hD : zD A [(textW g q x n c_ k s_ e_ f m_)] := hD
    exact z_reti () [0] hx hb hr (nar_z (by first | decide | omega)) hlocks hK hP hD hS (by have := wdS_s f k s_ e_; omega) trivial rfl rfl (rfl) (Nat.le_of_ble_eq_true rfl) (Nat.le_of_ble_eq_true rfl) dX7_isWord_25
  · refine lv_aload_n hx hb dX7_isWord_8 rfl (lv_at hl 0 rfl) ?_
    refine z_get hx hb hts hin7_ hown hK hP 0 rfl rfl 5 (by decide) (hts _ (List.mem_of_getElem? (i := 2) rfl)) rfl dX7_isWord_9 ?_
    refine lv_aload_n hx hb dX7_isWord_12 rfl (lv_at hl 0 rfl) ?_
    refine z_get hx hb hts hin7_ hown hK hP 0 rfl rfl 4 (by decide) (hts _ (List.mem_of_getElem? (i := 3) rfl)) rfl dX7_isWord_13 ?_
    refine z_isub hx hb (((e_ : Nat) : Int) - ((s_ : Nat) : Int)) rfl dX7_isWord_16 ?_
    refine lv_aload_n hx hb dX7_isWord_17 rfl (lv_at hl 1 rfl) ?_
    refine z_xRi (As := []) (rest := [vI (((e_ : Nat) : Int) - ((s_ : Nat) : Int))]) ⟨hx, hb, hml, hown, hts⟩ hK hP hD hS hA [] [0, 1, 2] rfl rfl rfl (c_J0_length_8abf5 l g a av wSou 6 rfl) (cwV 0 hts gX7_isWord_J0_length_8abf5 rfl rfl rfl (by decide +kernel) ⟨Nat.le_of_ble_eq_true rfl, Nat.le_of_ble_eq_true rfl⟩) (va_Orecv hXX.2.2.1 hS) zXS_b (zXS_s hXX hS) rfl hl.1 (Nat.le_of_ble_eq_true rfl) rfl dX7_isWord_18 ⟨Nat.le_of_ble_eq_true rfl, Nat.le_of_ble_eq_true rfl⟩ (fun u_2 H locs hwu_2 hP hD hS => ?_)
    try dsimp only at hwu_2
    have hP : zP g [[(q, .inr (7, [.ref (x 0), vI ((n : Nat) : Int), vI ((c_ : Nat) : Int), vI ((k : Nat) : Int), vI ((s_ : Nat) : Int), vI ((e_ : Nat) : Int), .ref (x 1)]))], [((x 0), .inl (g.2 0, 200, .inl (aI f)))], [((x 1), .inl (g.2 0, 4, .inl (aI m_)))]] H := hP
    have hD : zD A [[(q, .inr (7, [.ref (x 0), vI ((n : Nat) : Int), vI ((c_ : Nat) : Int), vI ((k : Nat) : Int), vI ((s_ : Nat) : Int), vI ((e_ : Nat) : Int), .ref (x 1)]))], [((x 0), .inl (g.2 0, 200, .inl (aI f)))], [((x 1), .inl (g.2 0, 4, .inl (aI m_)))]] := hD
    refine z_toI 6 rfl ?_
    refine z_icmp_eq (tgt := 26) hx hb (by omega) (by decide) dX7_isWord_21 (by decide) (fun c3 => ?_) (fun c3 => ?_)
    · refine z_iconst hx hb dX7_isWord_26 rfl ?_
      refine lv_istore_n (lv' := [(2, vI 0), (0, .ref q), (1, .ref a)]) hx hb dX7_isWord_27 rfl hl (by decide) rfl (fun ls hl => ?_)
      refine lv_iload_n hx hb dX7_isWord_28 rfl (lv_at hl 0 rfl) ?_
      refine lv_aload_n hx hb dX7_isWord_29 rfl (lv_at hl 2 rfl) ?_
      refine z_xRi (As := []) (rest := [vI 0]) ⟨hx, hb, hml, hown, hts⟩ hK hP hD hS hA [] [0, 1, 2] rfl rfl rfl (c_J0_length_8abf5 l g a av wSou 6 rfl) (cwV 0 hts gX7_isWord_J0_length_8abf5 rfl rfl rfl (by decide +kernel) ⟨Nat.le_of_ble_eq_true rfl, Nat.le_of_ble_eq_true rfl⟩) (va_Orecv hXX.2.2.1 hS) zXS_b (zXS_s hXX hS) rfl hl.1 (Nat.le_of_ble_eq_true rfl) rfl dX7_isWord_30 ⟨Nat.le_of_ble_eq_true rfl, Nat.le_of_ble_eq_true rfl⟩ (fun u_4 H locs hwu_4 hP hD hS => ?_)
      try dsimp only at hwu_4
      have hP : zP g [[(q, .inr (7, [.ref (x 0), vI ((n : Nat) : Int), vI ((c_ : Nat) : Int), vI ((k : Nat) : Int), vI ((s_ : Nat) : Int), vI ((e_ : Nat) : Int), .ref (x 1)]))], [((x 0), .inl (g.2 0, 200, .inl (aI f)))], [((x 1), .inl (g.2 0, 4, .inl (aI m_)))]] H := hP
      have hD : zD A [[(q, .inr (7, [.ref (x 0), vI ((n : Nat) : Int), vI ((c_ : Nat) : Int), vI ((k : Nat) : Int), vI ((s_ : Nat) : Int), vI ((e_ : Nat) : Int), .ref (x 1)]))], [((x 0), .inl (g.2 0, 200, .inl (aI f)))], [((x 1), .inl (g.2 0, 4, .inl (aI m_)))]] := hD
      refine z_toI 6 rfl ?_
      refine z_icmp_ge (tgt := 63) hx hb (by decide) (by decide) dX7_isWord_33 (by decide) (fun c5 => absurd c5 (by decide)) (fun c5 => ?_)
      refine lv_aload_n hx hb dX7_isWord_36 rfl (lv_at hl 1 rfl) ?_
      refine z_get hx hb hts hin7_ hown hK hP 0 rfl rfl 0 (by decide) (hts _ (List.mem_of_getElem? (i := 4) rfl)) rfl dX7_isWord_37 ?_
      refine lv_aload_n hx hb dX7_isWord_40 rfl (lv_at hl 1 rfl) ?_
      refine z_get hx hb hts hin7_ hown hK hP 0 rfl rfl 4 (by decide) (hts _ (List.mem_of_getElem? (i := 3) rfl)) rfl dX7_isWord_41 ?_
      refine lv_iload_n hx hb dX7_isWord_44 rfl (lv_at hl 0 rfl) ?_
      refine z_iadd hx hb ((s_ : Nat) : Int) (Int.add_zero _) dX7_isWord_45 ?_
      have hz_6 := hf s_
      refine z_iald hx hb hK hP 1 rfl s_ (by omega) (by omega) (by decide) dX7_isWord_46 ?_
      refine lv_aload_n hx hb dX7_isWord_47 rfl (lv_at hl 2 rfl) ?_
      refine lv_iload_n hx hb dX7_isWord_48 rfl (lv_at hl 0 rfl) ?_
      refine z_xRi (As := [vI 0]) (rest := [vI (f s_)]) ⟨hx, hb, hml, hown, hts⟩ hK hP hD hS hA [] [0, 1, 2] rfl rfl rfl (c_J0_charAt_5068e l g a av wSou 0 115 (by decide) (by decide) rfl) (cwV 1 hts gX7_isWord_J0_charAt_5068e rfl rfl rfl (by decide +kernel) ⟨Nat.le_of_ble_eq_true rfl, Nat.le_of_ble_eq_true rfl⟩) (va_Orecv hXX.2.2.1 hS) zXS_b (zXS_s hXX hS) rfl hl.1 (Nat.le_of_ble_eq_true rfl) rfl dX7_isWord_49 ⟨Nat.le_of_ble_eq_true rfl, Nat.le_of_ble_eq_true rfl⟩ (fun u_7 H locs hwu_7 hP hD hS => ?_)
      try dsimp only at hwu_7
      have hP : zP g [[(q, .inr (7, [.ref (x 0), vI ((n : Nat) : Int), vI ((c_ : Nat) : Int), vI ((k : Nat) : Int), vI ((s_ : Nat) : Int), vI ((e_ : Nat) : Int), .ref (x 1)]))], [((x 0), .inl (g.2 0, 200, .inl (aI f)))], [((x 1), .inl (g.2 0, 4, .inl (aI m_)))]] H := hP
      have hD : zD A [[(q, .inr (7, [.ref (x 0), vI ((n : Nat) : Int), vI ((c_ : Nat) : Int), vI ((k : Nat) : Int), vI ((s_ : Nat) : Int), vI ((e_ : Nat) : Int), .ref (x 1)]))], [((x 0), .inl (g.2 0, 200, .inl (aI f)))], [((x 1), .inl (g.2 0, 4, .inl (aI m_)))]] := hD
      refine z_toI 115 rfl ?_
      refine z_icmp_eq (tgt := 57) hx hb (by omega) (by decide) dX7_isWord_52 (by decide) (fun c8 => ?_) (fun c8 => ?_)
      · refine z_iinc hx hb 1 (lv' := [(2, vI 1), (0, .ref q), (1, .ref a)]) dX7_isWord_57 hl (k := 0) rfl (rfl) (by decide) rfl (fun ls hl => ?_)
        refine lv_goto (tgt := 28) hx hb dX7_isWord_60 (by decide) ?_
        refine lv_iload_n hx hb dX7_isWord_28 rfl (lv_at hl 0 rfl) ?_
        refine lv_aload_n hx hb dX7_isWord_29 rfl (lv_at hl 2 rfl) ?_
        refine z_xRi (As := []) (rest := [vI 1]) ⟨hx, hb, hml, hown, hts⟩ hK hP hD hS hA [] [0, 1, 2] rfl rfl rfl (c_J0_length_8abf5 l g a av wSou 6 rfl) (cwV 0 hts gX7_isWord_J0_length_8abf5 rfl rfl rfl (by decide +kernel) ⟨Nat.le_of_ble_eq_true rfl, Nat.le_of_ble_eq_true rfl⟩) (va_Orecv hXX.2.2.1 hS) zXS_b (zXS_s hXX hS) rfl hl.1 (Nat.le_of_ble_eq_true rfl) rfl dX7_isWord_30 ⟨Nat.le_of_ble_eq_true rfl, Nat.le_of_ble_eq_true rfl⟩ (fun u_9 H locs hwu_9 hP hD hS => ?_)
        try dsimp only at hwu_9
        have hP : zP g [[(q, .inr (7, [.ref (x 0), vI ((n : Nat) : Int), vI ((c_ : Nat) : Int), vI ((k : Nat) : Int), vI ((s_ : Nat) : Int), vI ((e_ : Nat) : Int), .ref (x 1)]))], [((x 0), .inl (g.2 0, 200, .inl (aI f)))], [((x 1), .inl (g.2 0, 4, .inl (aI m_)))]] H := hP
        have hD : zD A [[(q, .inr (7, [.ref (x 0), vI ((n : Nat) : Int), vI ((c_ : Nat) : Int), vI ((k : Nat) : Int), vI ((s_ : Nat) : Int), vI ((e_ : Nat) : Int), .ref (x 1)]))], [((x 0), .inl (g.2 0, 200, .inl (aI f)))], [((x 1), .inl (g.2 0, 4, .inl (aI m_)))]] := hD
        refine z_toI 6 rfl ?_
        refine z_icmp_ge (tgt := 63) hx hb (by decide) (by decide) dX7_isWord_33 (by decide) (fun c10 => absurd c10 (by decide)) (fun c10 => ?_)
        refine lv_aload_n hx hb dX7_isWord_36 rfl (lv_at hl 1 rfl) ?_
        refine z_get hx hb hts hin7_ hown hK hP 0 rfl rfl 0 (by decide) (hts _ (List.mem_of_getElem? (i := 4) rfl)) rfl dX7_isWord_37 ?_
        refine lv_aload_n hx hb dX7_isWord_40 rfl (lv_at hl 1 rfl) ?_
        refine z_get hx hb hts hin7_ hown hK hP 0 rfl rfl 4 (by decide) (hts _ (List.mem_of_getElem? (i := 3) rfl)) rfl dX7_isWord_41 ?_
        refine lv_iload_n hx hb dX7_isWord_44 rfl (lv_at hl 0 rfl) ?_
        refine z_iadd hx hb (((s_ + 1) : Nat) : Int) (by omega) dX7_isWord_45 ?_
        have hz_11 := hf (s_ + 1)
        refine z_iald hx hb hK hP 1 rfl (s_ + 1) (by omega) (by omega) (by decide) dX7_isWord_46 ?_
        refine lv_aload_n hx hb dX7_isWord_47 rfl (lv_at hl 2 rfl) ?_
        refine lv_iload_n hx hb dX7_isWord_48 rfl (lv_at hl 0 rfl) ?_
        refine z_xRi (As := [vI 1]) (rest := [vI (f (s_ + 1))]) ⟨hx, hb, hml, hown, hts⟩ hK hP hD hS hA [] [0, 1, 2] rfl rfl rfl (c_J0_charAt_5068e l g a av wSou 1 111 (by decide) (by decide) rfl) (cwV 1 hts gX7_isWord_J0_charAt_5068e rfl rfl rfl (by decide +kernel) ⟨Nat.le_of_ble_eq_true rfl, Nat.le_of_ble_eq_true rfl⟩) (va_Orecv hXX.2.2.1 hS) zXS_b (zXS_s hXX hS) rfl hl.1 (Nat.le_of_ble_eq_true rfl) rfl dX7_isWord_49 ⟨Nat.le_of_ble_eq_true rfl, Nat.le_of_ble_eq_true rfl⟩ (fun u_12 H locs hwu_12 hP hD hS => ?_)
        try dsimp only at hwu_12
        have hP : zP g [[(q, .inr (7, [.ref (x 0), vI ((n : Nat) : Int), vI ((c_ : Nat) : Int), vI ((k : Nat) : Int), vI ((s_ : Nat) : Int), vI ((e_ : Nat) : Int), .ref (x 1)]))], [((x 0), .inl (g.2 0, 200, .inl (aI f)))], [((x 1), .inl (g.2 0, 4, .inl (aI m_)))]] H := hP
        have hD : zD A [[(q, .inr (7, [.ref (x 0), vI ((n : Nat) : Int), vI ((c_ : Nat) : Int), vI ((k : Nat) : Int), vI ((s_ : Nat) : Int), vI ((e_ : Nat) : Int), .ref (x 1)]))], [((x 0), .inl (g.2 0, 200, .inl (aI f)))], [((x 1), .inl (g.2 0, 4, .inl (aI m_)))]] := hD
        refine z_toI 111 rfl ?_
        refine z_icmp_eq (tgt := 57) hx hb (by omega) (by decide) dX7_isWord_52 (by decide) (fun c13 => ?_) (fun c13 => ?_)
        · refine z_iinc hx hb 2 (lv' := [(2, vI 2), (0, .ref q), (1, .ref a)]) dX7_isWord_57 hl (k := 0) rfl (rfl) (by decide) rfl (fun ls hl => ?_)
          refine lv_goto (tgt := 28) hx hb dX7_isWord_60 (by decide) ?_
          refine lv_iload_n hx hb dX7_isWord_28 rfl (lv_at hl 0 rfl) ?_
          refine lv_aload_n hx hb dX7_isWord_29 rfl (lv_at hl 2 rfl) ?_
          refine z_xRi (As := []) (rest := [vI 2]) ⟨hx, hb, hml, hown, hts⟩ hK hP hD hS hA [] [0, 1, 2] rfl rfl rfl (c_J0_length_8abf5 l g a av wSou 6 rfl) (cwV 0 hts gX7_isWord_J0_length_8abf5 rfl rfl rfl (by decide +kernel) ⟨Nat.le_of_ble_eq_true rfl, Nat.le_of_ble_eq_true rfl⟩) (va_Orecv hXX.2.2.1 hS) zXS_b (zXS_s hXX hS) rfl hl.1 (Nat.le_of_ble_eq_true rfl) rfl dX7_isWord_30 ⟨Nat.le_of_ble_eq_true rfl, Nat.le_of_ble_eq_true rfl⟩ (fun u_14 H locs hwu_14 hP hD hS => ?_)
          try dsimp only at hwu_14
          have hP : zP g [[(q, .inr (7, [.ref (x 0), vI ((n : Nat) : Int), vI ((c_ : Nat) : Int), vI ((k : Nat) : Int), vI ((s_ : Nat) : Int), vI ((e_ : Nat) : Int), .ref (x 1)]))], [((x 0), .inl (g.2 0, 200, .inl (aI f)))], [((x 1), .inl (g.2 0, 4, .inl (aI m_)))]] H := hP
          have hD : zD A [[(q, .inr (7, [.ref (x 0), vI ((n : Nat) : Int), vI ((c_ : Nat) : Int), vI ((k : Nat) : Int), vI ((s_ : Nat) : Int), vI ((e_ : Nat) : Int), .ref (x 1)]))], [((x 0), .inl (g.2 0, 200, .inl (aI f)))], [((x 1), .inl (g.2 0, 4, .inl (aI m_)))]] := hD
          refine z_toI 6 rfl ?_
          refine z_icmp_ge (tgt := 63) hx hb (by decide) (by decide) dX7_isWord_33 (by decide) (fun c15 => absurd c15 (by decide)) (fun c15 => ?_)
          refine lv_aload_n hx hb dX7_isWord_36 rfl (lv_at hl 1 rfl) ?_
          refine z_get hx hb hts hin7_ hown hK hP 0 rfl rfl 0 (by decide) (hts _ (List.mem_of_getElem? (i := 4) rfl)) rfl dX7_isWord_37 ?_
          refine lv_aload_n hx hb dX7_isWord_40 rfl (lv_at hl 1 rfl) ?_
          refine z_get hx hb hts hin7_ hown hK hP 0 rfl rfl 4 (by decide) (hts _ (List.mem_of_getElem? (i := 3) rfl)) rfl dX7_isWord_41 ?_
          refine lv_iload_n hx hb dX7_isWord_44 rfl (lv_at hl 0 rfl) ?_
          refine z_iadd hx hb (((s_ + 2) : Nat) : Int) (by omega) dX7_isWord_45 ?_
          have hz_16 := hf (s_ + 2)
          refine z_iald hx hb hK hP 1 rfl (s_ + 2) (by omega) (by omega) (by decide) dX7_isWord_46 ?_
          refine lv_aload_n hx hb dX7_isWord_47 rfl (lv_at hl 2 rfl) ?_
          refine lv_iload_n hx hb dX7_isWord_48 rfl (lv_at hl 0 rfl) ?_
          refine z_xRi (As := [vI 2]) (rest := [vI (f (s_ + 2))]) ⟨hx, hb, hml, hown, hts⟩ hK hP hD hS hA [] [0, 1, 2] rfl rfl rfl (c_J0_charAt_5068e l g a av wSou 2 117 (by decide) (by decide) rfl) (cwV 1 hts gX7_isWord_J0_charAt_5068e rfl rfl rfl (by decide +kernel) ⟨Nat.le_of_ble_eq_true rfl, Nat.le_of_ble_eq_true rfl⟩) (va_Orecv hXX.2.2.1 hS) zXS_b (zXS_s hXX hS) rfl hl.1 (Nat.le_of_ble_eq_true rfl) rfl dX7_isWord_49 ⟨Nat.le_of_ble_eq_true rfl, Nat.le_of_ble_eq_true rfl⟩ (fun u_17 H locs hwu_17 hP hD hS => ?_)
          try dsimp only at hwu_17
          have hP : zP g [[(q, .inr (7, [.ref (x 0), vI ((n : Nat) : Int), vI ((c_ : Nat) : Int), vI ((k : Nat) : Int), vI ((s_ : Nat) : Int), vI ((e_ : Nat) : Int), .ref (x 1)]))], [((x 0), .inl (g.2 0, 200, .inl (aI f)))], [((x 1), .inl (g.2 0, 4, .inl (aI m_)))]] H := hP
          have hD : zD A [[(q, .inr (7, [.ref (x 0), vI ((n : Nat) : Int), vI ((c_ : Nat) : Int), vI ((k : Nat) : Int), vI ((s_ : Nat) : Int), vI ((e_ : Nat) : Int), .ref (x 1)]))], [((x 0), .inl (g.2 0, 200, .inl (aI f)))], [((x 1), .inl (g.2 0, 4, .inl (aI m_)))]] := hD
          refine z_toI 117 rfl ?_
          refine z_icmp_eq (tgt := 57) hx hb (by omega) (by decide) dX7_isWord_52 (by decide) (fun c18 => ?_) (fun c18 => ?_)
          · refine z_iinc hx hb 3 (lv' := [(2, vI 3), (0, .ref q), (1, .ref a)]) dX7_isWord_57 hl (k := 0) rfl (rfl) (by decide) rfl (fun ls hl => ?_)
            refine lv_goto (tgt := 28) hx hb dX7_isWord_60 (by decide) ?_
            refine lv_iload_n hx hb dX7_isWord_28 rfl (lv_at hl 0 rfl) ?_
            refine lv_aload_n hx hb dX7_isWord_29 rfl (lv_at hl 2 rfl) ?_
            refine z_xRi (As := []) (rest := [vI 3]) ⟨hx, hb, hml, hown, hts⟩ hK hP hD hS hA [] [0, 1, 2] rfl rfl rfl (c_J0_length_8abf5 l g a av wSou 6 rfl) (cwV 0 hts gX7_isWord_J0_length_8abf5 rfl rfl rfl (by decide +kernel) ⟨Nat.le_of_ble_eq_true rfl, Nat.le_of_ble_eq_true rfl⟩) (va_Orecv hXX.2.2.1 hS) zXS_b (zXS_s hXX hS) rfl hl.1 (Nat.le_of_ble_eq_true rfl) rfl dX7_isWord_30 ⟨Nat.le_of_ble_eq_true rfl, Nat.le_of_ble_eq_true rfl⟩ (fun u_19 H locs hwu_19 hP hD hS => ?_)
            try dsimp only at hwu_19
            have hP : zP g [[(q, .inr (7, [.ref (x 0), vI ((n : Nat) : Int), vI ((c_ : Nat) : Int), vI ((k : Nat) : Int), vI ((s_ : Nat) : Int), vI ((e_ : Nat) : Int), .ref (x 1)]))], [((x 0), .inl (g.2 0, 200, .inl (aI f)))], [((x 1), .inl (g.2 0, 4, .inl (aI m_)))]] H := hP
            have hD : zD A [[(q, .inr (7, [.ref (x 0), vI ((n : Nat) : Int), vI ((c_ : Nat) : Int), vI ((k : Nat) : Int), vI ((s_ : Nat) : Int), vI ((e_ : Nat) : Int), .ref (x 1)]))], [((x 0), .inl (g.2 0, 200, .inl (aI f)))], [((x 1), .inl (g.2 0, 4, .inl (aI m_)))]] := hD
            refine z_toI 6 rfl ?_
            refine z_icmp_ge (tgt := 63) hx hb (by decide) (by decide) dX7_isWord_33 (by decide) (fun c20 => absurd c20 (by decide)) (fun c20 => ?_)
            refine lv_aload_n hx hb dX7_isWord_36 rfl (lv_at hl 1 rfl) ?_
            refine z_get hx hb hts hin7_ hown hK hP 0 rfl rfl 0 (by decide) (hts _ (List.mem_of_getElem? (i := 4) rfl)) rfl dX7_isWord_37 ?_
            refine lv_aload_n hx hb dX7_isWord_40 rfl (lv_at hl 1 rfl) ?_
            refine z_get hx hb hts hin7_ hown hK hP 0 rfl rfl 4 (by decide) (hts _ (List.mem_of_getElem? (i := 3) rfl)) rfl dX7_isWord_41 ?_
            refine lv_iload_n hx hb dX7_isWord_44 rfl (lv_at hl 0 rfl) ?_
            refine z_iadd hx hb (((s_ + 3) : Nat) : Int) (by omega) dX7_isWord_45 ?_
            have hz_21 := hf (s_ + 3)
            refine z_iald hx hb hK hP 1 rfl (s_ + 3) (by omega) (by omega) (by decide) dX7_isWord_46 ?_
            refine lv_aload_n hx hb dX7_isWord_47 rfl (lv_at hl 2 rfl) ?_
            refine lv_iload_n hx hb dX7_isWord_48 rfl (lv_at hl 0 rfl) ?_
            refine z_xRi (As := [vI 3]) (rest := [vI (f (s_ + 3))]) ⟨hx, hb, hml, hown, hts⟩ hK hP hD hS hA [] [0, 1, 2] rfl rfl rfl (c_J0_charAt_5068e l g a av wSou 3 114 (by decide) (by decide) rfl) (cwV 1 hts gX7_isWord_J0_charAt_5068e rfl rfl rfl (by decide +kernel) ⟨Nat.le_of_ble_eq_true rfl, Nat.le_of_ble_eq_true rfl⟩) (va_Orecv hXX.2.2.1 hS) zXS_b (zXS_s hXX hS) rfl hl.1 (Nat.le_of_ble_eq_true rfl) rfl dX7_isWord_49 ⟨Nat.le_of_ble_eq_true rfl, Nat.le_of_ble_eq_true rfl⟩ (fun u_22 H locs hwu_22 hP hD hS => ?_)
            try dsimp only at hwu_22
            have hP : zP g [[(q, .inr (7, [.ref (x 0), vI ((n : Nat) : Int), vI ((c_ : Nat) : Int), vI ((k : Nat) : Int), vI ((s_ : Nat) : Int), vI ((e_ : Nat) : Int), .ref (x 1)]))], [((x 0), .inl (g.2 0, 200, .inl (aI f)))], [((x 1), .inl (g.2 0, 4, .inl (aI m_)))]] H := hP
            have hD : zD A [[(q, .inr (7, [.ref (x 0), vI ((n : Nat) : Int), vI ((c_ : Nat) : Int), vI ((k : Nat) : Int), vI ((s_ : Nat) : Int), vI ((e_ : Nat) : Int), .ref (x 1)]))], [((x 0), .inl (g.2 0, 200, .inl (aI f)))], [((x 1), .inl (g.2 0, 4, .inl (aI m_)))]] := hD
            refine z_toI 114 rfl ?_
            refine z_icmp_eq (tgt := 57) hx hb (by omega) (by decide) dX7_isWord_52 (by decide) (fun c23 => ?_) (fun c23 => ?_)
            · refine z_iinc hx hb 4 (lv' := [(2, vI 4), (0, .ref q), (1, .ref a)]) dX7_isWord_57 hl (k := 0) rfl (rfl) (by decide) rfl (fun ls hl => ?_)
              refine lv_goto (tgt := 28) hx hb dX7_isWord_60 (by decide) ?_
              refine lv_iload_n hx hb dX7_isWord_28 rfl (lv_at hl 0 rfl) ?_
              refine lv_aload_n hx hb dX7_isWord_29 rfl (lv_at hl 2 rfl) ?_
              refine z_xRi (As := []) (rest := [vI 4]) ⟨hx, hb, hml, hown, hts⟩ hK hP hD hS hA [] [0, 1, 2] rfl rfl rfl (c_J0_length_8abf5 l g a av wSou 6 rfl) (cwV 0 hts gX7_isWord_J0_length_8abf5 rfl rfl rfl (by decide +kernel) ⟨Nat.le_of_ble_eq_true rfl, Nat.le_of_ble_eq_true rfl⟩) (va_Orecv hXX.2.2.1 hS) zXS_b (zXS_s hXX hS) rfl hl.1 (Nat.le_of_ble_eq_true rfl) rfl dX7_isWord_30 ⟨Nat.le_of_ble_eq_true rfl, Nat.le_of_ble_eq_true rfl⟩ (fun u_24 H locs hwu_24 hP hD hS => ?_)
              try dsimp only at hwu_24
              have hP : zP g [[(q, .inr (7, [.ref (x 0), vI ((n : Nat) : Int), vI ((c_ : Nat) : Int), vI ((k : Nat) : Int), vI ((s_ : Nat) : Int), vI ((e_ : Nat) : Int), .ref (x 1)]))], [((x 0), .inl (g.2 0, 200, .inl (aI f)))], [((x 1), .inl (g.2 0, 4, .inl (aI m_)))]] H := hP
              have hD : zD A [[(q, .inr (7, [.ref (x 0), vI ((n : Nat) : Int), vI ((c_ : Nat) : Int), vI ((k : Nat) : Int), vI ((s_ : Nat) : Int), vI ((e_ : Nat) : Int), .ref (x 1)]))], [((x 0), .inl (g.2 0, 200, .inl (aI f)))], [((x 1), .inl (g.2 0, 4, .inl (aI m_)))]] := hD
              refine z_toI 6 rfl ?_
              refine z_icmp_ge (tgt := 63) hx hb (by decide) (by decide) dX7_isWord_33 (by decide) (fun c25 => absurd c25 (by decide)) (fun c25 => ?_)
              refine lv_aload_n hx hb dX7_isWord_36 rfl (lv_at hl 1 rfl) ?_
              refine z_get hx hb hts hin7_ hown hK hP 0 rfl rfl 0 (by decide) (hts _ (List.mem_of_getElem? (i := 4) rfl)) rfl dX7_isWord_37 ?_
              refine lv_aload_n hx hb dX7_isWord_40 rfl (lv_at hl 1 rfl) ?_
              refine z_get hx hb hts hin7_ hown hK hP 0 rfl rfl 4 (by decide) (hts _ (List.mem_of_getElem? (i := 3) rfl)) rfl dX7_isWord_41 ?_
              refine lv_iload_n hx hb dX7_isWord_44 rfl (lv_at hl 0 rfl) ?_
              refine z_iadd hx hb (((s_ + 4) : Nat) : Int) (by omega) dX7_isWord_45 ?_
              have hz_26 := hf (s_ + 4)
              refine z_iald hx hb hK hP 1 rfl (s_ + 4) (by omega) (by omega) (by decide) dX7_isWord_46 ?_
              refine lv_aload_n hx hb dX7_isWord_47 rfl (lv_at hl 2 rfl) ?_
              refine lv_iload_n hx hb dX7_isWord_48 rfl (lv_at hl 0 rfl) ?_
              refine z_xRi (As := [vI 4]) (rest := [vI (f (s_ + 4))]) ⟨hx, hb, hml, hown, hts⟩ hK hP hD hS hA [] [0, 1, 2] rfl rfl rfl (c_J0_charAt_5068e l g a av wSou 4 99 (by decide) (by decide) rfl) (cwV 1 hts gX7_isWord_J0_charAt_5068e rfl rfl rfl (by decide +kernel) ⟨Nat.le_of_ble_eq_true rfl, Nat.le_of_ble_eq_true rfl⟩) (va_Orecv hXX.2.2.1 hS) zXS_b (zXS_s hXX hS) rfl hl.1 (Nat.le_of_ble_eq_true rfl) rfl dX7_isWord_49 ⟨Nat.le_of_ble_eq_true rfl, Nat.le_of_ble_eq_true rfl⟩ (fun u_27 H locs hwu_27 hP hD hS => ?_)
              try dsimp only at hwu_27
              have hP : zP g [[(q, .inr (7, [.ref (x 0), vI ((n : Nat) : Int), vI ((c_ : Nat) : Int), vI ((k : Nat) : Int), vI ((s_ : Nat) : Int), vI ((e_ : Nat) : Int), .ref (x 1)]))], [((x 0), .inl (g.2 0, 200, .inl (aI f)))], [((x 1), .inl (g.2 0, 4, .inl (aI m_)))]] H := hP
              have hD : zD A [[(q, .inr (7, [.ref (x 0), vI ((n : Nat) : Int), vI ((c_ : Nat) : Int), vI ((k : Nat) : Int), vI ((s_ : Nat) : Int), vI ((e_ : Nat) : Int), .ref (x 1)]))], [((x 0), .inl (g.2 0, 200, .inl (aI f)))], [((x 1), .inl (g.2 0, 4, .inl (aI m_)))]] := hD
              refine z_toI 99 rfl ?_
              refine z_icmp_eq (tgt := 57) hx hb (by omega) (by decide) dX7_isWord_52 (by decide) (fun c28 => ?_) (fun c28 => ?_)
              · refine z_iinc hx hb 5 (lv' := [(2, vI 5), (0, .ref q), (1, .ref a)]) dX7_isWord_57 hl (k := 0) rfl (rfl) (by decide) rfl (fun ls hl => ?_)
                refine lv_goto (tgt := 28) hx hb dX7_isWord_60 (by decide) ?_
                refine lv_iload_n hx hb dX7_isWord_28 rfl (lv_at hl 0 rfl) ?_
                refine lv_aload_n hx hb dX7_isWord_29 rfl (lv_at hl 2 rfl) ?_
                refine z_xRi (As := []) (rest := [vI 5]) ⟨hx, hb, hml, hown, hts⟩ hK hP hD hS hA [] [0, 1, 2] rfl rfl rfl (c_J0_length_8abf5 l g a av wSou 6 rfl) (cwV 0 hts gX7_isWord_J0_length_8abf5 rfl rfl rfl (by decide +kernel) ⟨Nat.le_of_ble_eq_true rfl, Nat.le_of_ble_eq_true rfl⟩) (va_Orecv hXX.2.2.1 hS) zXS_b (zXS_s hXX hS) rfl hl.1 (Nat.le_of_ble_eq_true rfl) rfl dX7_isWord_30 ⟨Nat.le_of_ble_eq_true rfl, Nat.le_of_ble_eq_true rfl⟩ (fun u_29 H locs hwu_29 hP hD hS => ?_)
                try dsimp only at hwu_29
                have hP : zP g [[(q, .inr (7, [.ref (x 0), vI ((n : Nat) : Int), vI ((c_ : Nat) : Int), vI ((k : Nat) : Int), vI ((s_ : Nat) : Int), vI ((e_ : Nat) : Int), .ref (x 1)]))], [((x 0), .inl (g.2 0, 200, .inl (aI f)))], [((x 1), .inl (g.2 0, 4, .inl (aI m_)))]] H := hP
                have hD : zD A [[(q, .inr (7, [.ref (x 0), vI ((n : Nat) : Int), vI ((c_ : Nat) : Int), vI ((k : Nat) : Int), vI ((s_ : Nat) : Int), vI ((e_ : Nat) : Int), .ref (x 1)]))], [((x 0), .inl (g.2 0, 200, .inl (aI f)))], [((x 1), .inl (g.2 0, 4, .inl (aI m_)))]] := hD
                refine z_toI 6 rfl ?_
                refine z_icmp_ge (tgt := 63) hx hb (by decide) (by decide) dX7_isWord_33 (by decide) (fun c30 => absurd c30 (by decide)) (fun c30 => ?_)
                refine lv_aload_n hx hb dX7_isWord_36 rfl (lv_at hl 1 rfl) ?_
                refine z_get hx hb hts hin7_ hown hK hP 0 rfl rfl 0 (by decide) (hts _ (List.mem_of_getElem? (i := 4) rfl)) rfl dX7_isWord_37 ?_
                refine lv_aload_n hx hb dX7_isWord_40 rfl (lv_at hl 1 rfl) ?_
                refine z_get hx hb hts hin7_ hown hK hP 0 rfl rfl 4 (by decide) (hts _ (List.mem_of_getElem? (i := 3) rfl)) rfl dX7_isWord_41 ?_
                refine lv_iload_n hx hb dX7_isWord_44 rfl (lv_at hl 0 rfl) ?_
                refine z_iadd hx hb (((s_ + 5) : Nat) : Int) (by omega) dX7_isWord_45 ?_
                have hz_31 := hf (s_ + 5)
                refine z_iald hx hb hK hP 1 rfl (s_ + 5) (by omega) (by omega) (by decide) dX7_isWord_46 ?_
                refine lv_aload_n hx hb dX7_isWord_47 rfl (lv_at hl 2 rfl) ?_
                refine lv_iload_n hx hb dX7_isWord_48 rfl (lv_at hl 0 rfl) ?_
                refine z_xRi (As := [vI 5]) (rest := [vI (f (s_ + 5))]) ⟨hx, hb, hml, hown, hts⟩ hK hP hD hS hA [] [0, 1, 2] rfl rfl rfl (c_J0_charAt_5068e l g a av wSou 5 101 (by decide) (by decide) rfl) (cwV 1 hts gX7_isWord_J0_charAt_5068e rfl rfl rfl (by decide +kernel) ⟨Nat.le_of_ble_eq_true rfl, Nat.le_of_ble_eq_true rfl⟩) (va_Orecv hXX.2.2.1 hS) zXS_b (zXS_s hXX hS) rfl hl.1 (Nat.le_of_ble_eq_true rfl) rfl dX7_isWord_49 ⟨Nat.le_of_ble_eq_true rfl, Nat.le_of_ble_eq_true rfl⟩ (fun u_32 H locs hwu_32 hP hD hS => ?_)
                try dsimp only at hwu_32
                have hP : zP g [[(q, .inr (7, [.ref (x 0), vI ((n : Nat) : Int), vI ((c_ : Nat) : Int), vI ((k : Nat) : Int), vI ((s_ : Nat) : Int), vI ((e_ : Nat) : Int), .ref (x 1)]))], [((x 0), .inl (g.2 0, 200, .inl (aI f)))], [((x 1), .inl (g.2 0, 4, .inl (aI m_)))]] H := hP
                have hD : zD A [[(q, .inr (7, [.ref (x 0), vI ((n : Nat) : Int), vI ((c_ : Nat) : Int), vI ((k : Nat) : Int), vI ((s_ : Nat) : Int), vI ((e_ : Nat) : Int), .ref (x 1)]))], [((x 0), .inl (g.2 0, 200, .inl (aI f)))], [((x 1), .inl (g.2 0, 4, .inl (aI m_)))]] := hD
                refine z_toI 101 rfl ?_
                refine z_icmp_eq (tgt := 57) hx hb (by omega) (by decide) dX7_isWord_52 (by decide) (fun c33 => ?_) (fun c33 => ?_)
                · refine z_iinc hx hb 6 (lv' := [(2, vI 6), (0, .ref q), (1, .ref a)]) dX7_isWord_57 hl (k := 0) rfl (rfl) (by decide) rfl (fun ls hl => ?_)
                  refine lv_goto (tgt := 28) hx hb dX7_isWord_60 (by decide) ?_
                  refine lv_iload_n hx hb dX7_isWord_28 rfl (lv_at hl 0 rfl) ?_
                  refine lv_aload_n hx hb dX7_isWord_29 rfl (lv_at hl 2 rfl) ?_
                  refine z_xRi (As := []) (rest := [vI 6]) ⟨hx, hb, hml, hown, hts⟩ hK hP hD hS hA [] [0, 1, 2] rfl rfl rfl (c_J0_length_8abf5 l g a av wSou 6 rfl) (cwV 0 hts gX7_isWord_J0_length_8abf5 rfl rfl rfl (by decide +kernel) ⟨Nat.le_of_ble_eq_true rfl, Nat.le_of_ble_eq_true rfl⟩) (va_Orecv hXX.2.2.1 hS) zXS_b (zXS_s hXX hS) rfl hl.1 (Nat.le_of_ble_eq_true rfl) rfl dX7_isWord_30 ⟨Nat.le_of_ble_eq_true rfl, Nat.le_of_ble_eq_true rfl⟩ (fun u_34 H locs hwu_34 hP hD hS => ?_)
                  try dsimp only at hwu_34
                  have hP : zP g [[(q, .inr (7, [.ref (x 0), vI ((n : Nat) : Int), vI ((c_ : Nat) : Int), vI ((k : Nat) : Int), vI ((s_ : Nat) : Int), vI ((e_ : Nat) : Int), .ref (x 1)]))], [((x 0), .inl (g.2 0, 200, .inl (aI f)))], [((x 1), .inl (g.2 0, 4, .inl (aI m_)))]] H := hP
                  have hD : zD A [[(q, .inr (7, [.ref (x 0), vI ((n : Nat) : Int), vI ((c_ : Nat) : Int), vI ((k : Nat) : Int), vI ((s_ : Nat) : Int), vI ((e_ : Nat) : Int), .ref (x 1)]))], [((x 0), .inl (g.2 0, 200, .inl (aI f)))], [((x 1), .inl (g.2 0, 4, .inl (aI m_)))]] := hD
                  refine z_toI 6 rfl ?_
                  refine z_icmp_ge (tgt := 63) hx hb (by decide) (by decide) dX7_isWord_33 (by decide) (fun c35 => ?_) (fun c35 => absurd (by decide) c35)
                  refine z_iconst hx hb dX7_isWord_63 rfl ?_
                  have hP : zP g [(textW g q x n c_ k s_ e_ f m_)] H := hP
                  have hD : zD A [(textW g q x n c_ k s_ e_ f m_)] := hD
                  exact z_reti () [0] hx hb hr (nar_z (by first | decide | omega)) hlocks hK hP hD hS (by have := wdS_s f k s_ e_; omega) trivial rfl rfl (rfl) (Nat.le_of_ble_eq_true rfl) (Nat.le_of_ble_eq_true rfl) dX7_isWord_64
                · refine z_iconst hx hb dX7_isWord_55 rfl ?_
                  have hP : zP g [(textW g q x n c_ k s_ e_ f m_)] H := hP
                  have hD : zD A [(textW g q x n c_ k s_ e_ f m_)] := hD
                  exact z_reti () [0] hx hb hr (nar_z (by first | decide | omega)) hlocks hK hP hD hS (by have := wdS_s f k s_ e_; omega) trivial rfl rfl (rfl) (Nat.le_of_ble_eq_true rfl) (Nat.le_of_ble_eq_true rfl) dX7_isWord_56
              · refine z_iconst hx hb dX7_isWord_55 rfl ?_
                have hP : zP g [(textW g q x n c_ k s_ e_ f m_)] H := hP
                have hD : zD A [(textW g q x n c_ k s_ e_ f m_)] := hD
                exact z_reti () [0] hx hb hr (nar_z (by first | decide | omega)) hlocks hK hP hD hS (by have := wdS_s f k s_ e_; omega) trivial rfl rfl (rfl) (Nat.le_of_ble_eq_true rfl) (Nat.le_of_ble_eq_true rfl) dX7_isWord_56
            · refine z_iconst hx hb dX7_isWord_55 rfl ?_
              have hP : zP g [(textW g q x n c_ k s_ e_ f m_)] H := hP
              have hD : zD A [(textW g q x n c_ k s_ e_ f m_)] := hD
              exact z_reti () [0] hx hb hr (nar_z (by first | decide | omega)) hlocks hK hP hD hS (by have := wdS_s f k s_ e_; omega) trivial rfl rfl (rfl) (Nat.le_of_ble_eq_true rfl) (Nat.le_of_ble_eq_true rfl) dX7_isWord_56
          · refine z_iconst hx hb dX7_isWord_55 rfl ?_
            have hP : zP g [(textW g q x n c_ k s_ e_ f m_)] H := hP
            have hD : zD A [(textW g q x n c_ k s_ e_ f m_)] := hD
            exact z_reti () [0] hx hb hr (nar_z (by first | decide | omega)) hlocks hK hP hD hS (by have := wdS_s f k s_ e_; omega) trivial rfl rfl (rfl) (Nat.le_of_ble_eq_true rfl) (Nat.le_of_ble_eq_true rfl) dX7_isWord_56
        · refine z_iconst hx hb dX7_isWord_55 rfl ?_
          have hP : zP g [(textW g q x n c_ k s_ e_ f m_)] H := hP
          have hD : zD A [(textW g q x n c_ k s_ e_ f m_)] := hD
          exact z_reti () [0] hx hb hr (nar_z (by first | decide | omega)) hlocks hK hP hD hS (by have := wdS_s f k s_ e_; omega) trivial rfl rfl (rfl) (Nat.le_of_ble_eq_true rfl) (Nat.le_of_ble_eq_true rfl) dX7_isWord_56
      · refine z_iconst hx hb dX7_isWord_55 rfl ?_
        have hP : zP g [(textW g q x n c_ k s_ e_ f m_)] H := hP
        have hD : zD A [(textW g q x n c_ k s_ e_ f m_)] := hD
        exact z_reti () [0] hx hb hr (nar_z (by first | decide | omega)) hlocks hK hP hD hS (by have := wdS_s f k s_ e_; omega) trivial rfl rfl (rfl) (Nat.le_of_ble_eq_true rfl) (Nat.le_of_ble_eq_true rfl) dX7_isWord_56
    · refine z_iconst hx hb dX7_isWord_24 rfl ?_
      have hP : zP g [(textW g q x n c_ k s_ e_ f m_)] H := hP
      have hD : zD A [(textW g q x n c_ k s_ e_ f m_)] := hD
      exact z_reti () [0] hx hb hr (nar_z (by first | decide | omega)) hlocks hK hP hD hS (by have := wdS_s f k s_ e_; omega) trivial rfl rfl (rfl) (Nat.le_of_ble_eq_true rfl) (Nat.le_of_ble_eq_true rfl) dX7_isWord_25

set_option maxHeartbeats 4000000 in
set_option maxRecDepth 100000 in
theorem c_X7_isWordB (l : Launch) (g : zG) (q : Nat) (x : Nat → Nat) (n : Nat) (c_ : Nat) (k : Nat) (s_ : Nat) (e_ : Nat) (f : Nat → Int) (m_ : Nat → Int) (a : Nat) (av : Nat) (hn : n ≤ 200) (hse : s_ ≤ e_ ∧ e_ ≤ n) (hk : k ≤ 3) (hf : ∀ i, 0 ≤ f i ∧ f i ≤ 255) : zMet l g yX7_isWord wsX7_isWord 4 0 0 [.ref q, .ref a] (zXS a av wBus) [(textW g q x n c_ k s_ e_ f m_)] (qi g (fun (_ : Unit) => (wdB f k s_ e_)) (fun (_ : Unit) => True) (fun (_ : Unit) => [(textW g q x n c_ k s_ e_ f m_)])) := by
  refine z_ent (cc := cX7_isWord) (maxL := 3) (ret := (some .boolean)) (by decide) rfl (Nat.le_of_ble_eq_true rfl) ?_
  intro p e s m below meth c A ls hx hb hr hml hown hts hlocks hin0 hA hK hP hD hS hXX hl
  have hown : s.vm.findClass RX7 = some m.cls := hown
  have hin7_ : ∀ w ∈ wsX70, w ∈ wsX7_isWord := zw_in [54, 55, 56, 57, 58, 59, 60] rfl
  have hl : lv_has ls 3 [(0, .ref q), (1, .ref a)] := hl
  have hP : zP g [[(q, .inr (7, [.ref (x 0), vI ((n : Nat) : Int), vI ((c_ : Nat) : Int), vI ((k : Nat) : Int), vI ((s_ : Nat) : Int), vI ((e_ : Nat) : Int), .ref (x 1)]))], [((x 0), .inl (g.2 0, 200, .inl (aI f)))], [((x 1), .inl (g.2 0, 4, .inl (aI m_)))]] s.heap := hP
  have hD : zD A [[(q, .inr (7, [.ref (x 0), vI ((n : Nat) : Int), vI ((c_ : Nat) : Int), vI ((k : Nat) : Int), vI ((s_ : Nat) : Int), vI ((e_ : Nat) : Int), .ref (x 1)]))], [((x 0), .inl (g.2 0, 200, .inl (aI f)))], [((x 1), .inl (g.2 0, 4, .inl (aI m_)))]] := hD
  refine lv_aload_n hx hb dX7_isWord_0 rfl (lv_at hl 0 rfl) ?_
  refine z_get hx hb hts hin7_ hown hK hP 0 rfl rfl 3 (by decide) (hts _ (List.mem_of_getElem? (i := 1) rfl)) rfl dX7_isWord_1 ?_
  refine z_iconst hx hb dX7_isWord_4 rfl ?_
  refine z_icmp_ne (tgt := 24) hx hb (by omega) (by decide) dX7_isWord_5 (by decide) (fun c1 => ?_) (fun c1 => ?_)
  · refine z_iconst hx hb dX7_isWord_24 rfl ?_
    have hP : zP g [(textW g q x n c_ k s_ e_ f m_)] s.heap := hP
    have hD : zD A [(textW g q x n c_ k s_ e_ f m_)] := hD
    exact z_reti () [0] hx hb hr (nar_z (by first | decide | omega)) hlocks hK hP hD hS (by have := wdB_s f k s_ e_; omega) trivial rfl rfl (rfl) (Nat.le_of_ble_eq_true rfl) (Nat.le_of_ble_eq_true rfl) dX7_isWord_25
  · refine lv_aload_n hx hb dX7_isWord_8 rfl (lv_at hl 0 rfl) ?_
    refine z_get hx hb hts hin7_ hown hK hP 0 rfl rfl 5 (by decide) (hts _ (List.mem_of_getElem? (i := 2) rfl)) rfl dX7_isWord_9 ?_
    refine lv_aload_n hx hb dX7_isWord_12 rfl (lv_at hl 0 rfl) ?_
    refine z_get hx hb hts hin7_ hown hK hP 0 rfl rfl 4 (by decide) (hts _ (List.mem_of_getElem? (i := 3) rfl)) rfl dX7_isWord_13 ?_
    refine z_isub hx hb (((e_ : Nat) : Int) - ((s_ : Nat) : Int)) rfl dX7_isWord_16 ?_
    refine lv_aload_n hx hb dX7_isWord_17 rfl (lv_at hl 1 rfl) ?_
    refine z_xRi (As := []) (rest := [vI (((e_ : Nat) : Int) - ((s_ : Nat) : Int))]) ⟨hx, hb, hml, hown, hts⟩ hK hP hD hS hA [] [0, 1, 2] rfl rfl rfl (c_J0_length_8abf5 l g a av wBus 3 rfl) (cwV 0 hts gX7_isWord_J0_length_8abf5 rfl rfl rfl (by decide +kernel) ⟨Nat.le_of_ble_eq_true rfl, Nat.le_of_ble_eq_true rfl⟩) (va_Orecv hXX.2.2.1 hS) zXS_b (zXS_s hXX hS) rfl hl.1 (Nat.le_of_ble_eq_true rfl) rfl dX7_isWord_18 ⟨Nat.le_of_ble_eq_true rfl, Nat.le_of_ble_eq_true rfl⟩ (fun u_2 H locs hwu_2 hP hD hS => ?_)
    try dsimp only at hwu_2
    have hP : zP g [[(q, .inr (7, [.ref (x 0), vI ((n : Nat) : Int), vI ((c_ : Nat) : Int), vI ((k : Nat) : Int), vI ((s_ : Nat) : Int), vI ((e_ : Nat) : Int), .ref (x 1)]))], [((x 0), .inl (g.2 0, 200, .inl (aI f)))], [((x 1), .inl (g.2 0, 4, .inl (aI m_)))]] H := hP
    have hD : zD A [[(q, .inr (7, [.ref (x 0), vI ((n : Nat) : Int), vI ((c_ : Nat) : Int), vI ((k : Nat) : Int), vI ((s_ : Nat) : Int), vI ((e_ : Nat) : Int), .ref (x 1)]))], [((x 0), .inl (g.2 0, 200, .inl (aI f)))], [((x 1), .inl (g.2 0, 4, .inl (aI m_)))]] := hD
    refine z_toI 3 rfl ?_
    refine z_icmp_eq (tgt := 26) hx hb (by omega) (by decide) dX7_isWord_21 (by decide) (fun c3 => ?_) (fun c3 => ?_)
    · refine z_iconst hx hb dX7_isWord_26 rfl ?_
      refine lv_istore_n (lv' := [(2, vI 0), (0, .ref q), (1, .ref a)]) hx hb dX7_isWord_27 rfl hl (by decide) rfl (fun ls hl => ?_)
      refine lv_iload_n hx hb dX7_isWord_28 rfl (lv_at hl 0 rfl) ?_
      refine lv_aload_n hx hb dX7_isWord_29 rfl (lv_at hl 2 rfl) ?_
      refine z_xRi (As := []) (rest := [vI 0]) ⟨hx, hb, hml, hown, hts⟩ hK hP hD hS hA [] [0, 1, 2] rfl rfl rfl (c_J0_length_8abf5 l g a av wBus 3 rfl) (cwV 0 hts gX7_isWord_J0_length_8abf5 rfl rfl rfl (by decide +kernel) ⟨Nat.le_of_ble_eq_true rfl, Nat.le_of_ble_eq_true rfl⟩) (va_Orecv hXX.2.2.1 hS) zXS_b (zXS_s hXX hS) rfl hl.1 (Nat.le_of_ble_eq_true rfl) rfl dX7_isWord_30 ⟨Nat.le_of_ble_eq_true rfl, Nat.le_of_ble_eq_true rfl⟩ (fun u_4 H locs hwu_4 hP hD hS => ?_)
      try dsimp only at hwu_4
      have hP : zP g [[(q, .inr (7, [.ref (x 0), vI ((n : Nat) : Int), vI ((c_ : Nat) : Int), vI ((k : Nat) : Int), vI ((s_ : Nat) : Int), vI ((e_ : Nat) : Int), .ref (x 1)]))], [((x 0), .inl (g.2 0, 200, .inl (aI f)))], [((x 1), .inl (g.2 0, 4, .inl (aI m_)))]] H := hP
      have hD : zD A [[(q, .inr (7, [.ref (x 0), vI ((n : Nat) : Int), vI ((c_ : Nat) : Int), vI ((k : Nat) : Int), vI ((s_ : Nat) : Int), vI ((e_ : Nat) : Int), .ref (x 1)]))], [((x 0), .inl (g.2 0, 200, .inl (aI f)))], [((x 1), .inl (g.2 0, 4, .inl (aI m_)))]] := hD
      refine z_toI 3 rfl ?_
      refine z_icmp_ge (tgt := 63) hx hb (by decide) (by decide) dX7_isWord_33 (by decide) (fun c5 => absurd c5 (by decide)) (fun c5 => ?_)
      refine lv_aload_n hx hb dX7_isWord_36 rfl (lv_at hl 1 rfl) ?_
      refine z_get hx hb hts hin7_ hown hK hP 0 rfl rfl 0 (by decide) (hts _ (List.mem_of_getElem? (i := 4) rfl)) rfl dX7_isWord_37 ?_
      refine lv_aload_n hx hb dX7_isWord_40 rfl (lv_at hl 1 rfl) ?_
      refine z_get hx hb hts hin7_ hown hK hP 0 rfl rfl 4 (by decide) (hts _ (List.mem_of_getElem? (i := 3) rfl)) rfl dX7_isWord_41 ?_
      refine lv_iload_n hx hb dX7_isWord_44 rfl (lv_at hl 0 rfl) ?_
      refine z_iadd hx hb ((s_ : Nat) : Int) (Int.add_zero _) dX7_isWord_45 ?_
      have hz_6 := hf s_
      refine z_iald hx hb hK hP 1 rfl s_ (by omega) (by omega) (by decide) dX7_isWord_46 ?_
      refine lv_aload_n hx hb dX7_isWord_47 rfl (lv_at hl 2 rfl) ?_
      refine lv_iload_n hx hb dX7_isWord_48 rfl (lv_at hl 0 rfl) ?_
      refine z_xRi (As := [vI 0]) (rest := [vI (f s_)]) ⟨hx, hb, hml, hown, hts⟩ hK hP hD hS hA [] [0, 1, 2] rfl rfl rfl (c_J0_charAt_5068e l g a av wBus 0 98 (by decide) (by decide) rfl) (cwV 1 hts gX7_isWord_J0_charAt_5068e rfl rfl rfl (by decide +kernel) ⟨Nat.le_of_ble_eq_true rfl, Nat.le_of_ble_eq_true rfl⟩) (va_Orecv hXX.2.2.1 hS) zXS_b (zXS_s hXX hS) rfl hl.1 (Nat.le_of_ble_eq_true rfl) rfl dX7_isWord_49 ⟨Nat.le_of_ble_eq_true rfl, Nat.le_of_ble_eq_true rfl⟩ (fun u_7 H locs hwu_7 hP hD hS => ?_)
      try dsimp only at hwu_7
      have hP : zP g [[(q, .inr (7, [.ref (x 0), vI ((n : Nat) : Int), vI ((c_ : Nat) : Int), vI ((k : Nat) : Int), vI ((s_ : Nat) : Int), vI ((e_ : Nat) : Int), .ref (x 1)]))], [((x 0), .inl (g.2 0, 200, .inl (aI f)))], [((x 1), .inl (g.2 0, 4, .inl (aI m_)))]] H := hP
      have hD : zD A [[(q, .inr (7, [.ref (x 0), vI ((n : Nat) : Int), vI ((c_ : Nat) : Int), vI ((k : Nat) : Int), vI ((s_ : Nat) : Int), vI ((e_ : Nat) : Int), .ref (x 1)]))], [((x 0), .inl (g.2 0, 200, .inl (aI f)))], [((x 1), .inl (g.2 0, 4, .inl (aI m_)))]] := hD
      refine z_toI 98 rfl ?_
      refine z_icmp_eq (tgt := 57) hx hb (by omega) (by decide) dX7_isWord_52 (by decide) (fun c8 => ?_) (fun c8 => ?_)
      · refine z_iinc hx hb 1 (lv' := [(2, vI 1), (0, .ref q), (1, .ref a)]) dX7_isWord_57 hl (k := 0) rfl (rfl) (by decide) rfl (fun ls hl => ?_)
        refine lv_goto (tgt := 28) hx hb dX7_isWord_60 (by decide) ?_
        refine lv_iload_n hx hb dX7_isWord_28 rfl (lv_at hl 0 rfl) ?_
        refine lv_aload_n hx hb dX7_isWord_29 rfl (lv_at hl 2 rfl) ?_
        refine z_xRi (As := []) (rest := [vI 1]) ⟨hx, hb, hml, hown, hts⟩ hK hP hD hS hA [] [0, 1, 2] rfl rfl rfl (c_J0_length_8abf5 l g a av wBus 3 rfl) (cwV 0 hts gX7_isWord_J0_length_8abf5 rfl rfl rfl (by decide +kernel) ⟨Nat.le_of_ble_eq_true rfl, Nat.le_of_ble_eq_true rfl⟩) (va_Orecv hXX.2.2.1 hS) zXS_b (zXS_s hXX hS) rfl hl.1 (Nat.le_of_ble_eq_true rfl) rfl dX7_isWord_30 ⟨Nat.le_of_ble_eq_true rfl, Nat.le_of_ble_eq_true rfl⟩ (fun u_9 H locs hwu_9 hP hD hS => ?_)
        try dsimp only at hwu_9
        have hP : zP g [[(q, .inr (7, [.ref (x 0), vI ((n : Nat) : Int), vI ((c_ : Nat) : Int), vI ((k : Nat) : Int), vI ((s_ : Nat) : Int), vI ((e_ : Nat) : Int), .ref (x 1)]))], [((x 0), .inl (g.2 0, 200, .inl (aI f)))], [((x 1), .inl (g.2 0, 4, .inl (aI m_)))]] H := hP
        have hD : zD A [[(q, .inr (7, [.ref (x 0), vI ((n : Nat) : Int), vI ((c_ : Nat) : Int), vI ((k : Nat) : Int), vI ((s_ : Nat) : Int), vI ((e_ : Nat) : Int), .ref (x 1)]))], [((x 0), .inl (g.2 0, 200, .inl (aI f)))], [((x 1), .inl (g.2 0, 4, .inl (aI m_)))]] := hD
        refine z_toI 3 rfl ?_
        refine z_icmp_ge (tgt := 63) hx hb (by decide) (by decide) dX7_isWord_33 (by decide) (fun c10 => absurd c10 (by decide)) (fun c10 => ?_)
        refine lv_aload_n hx hb dX7_isWord_36 rfl (lv_at hl 1 rfl) ?_
        refine z_get hx hb hts hin7_ hown hK hP 0 rfl rfl 0 (by decide) (hts _ (List.mem_of_getElem? (i := 4) rfl)) rfl dX7_isWord_37 ?_
        refine lv_aload_n hx hb dX7_isWord_40 rfl (lv_at hl 1 rfl) ?_
        refine z_get hx hb hts hin7_ hown hK hP 0 rfl rfl 4 (by decide) (hts _ (List.mem_of_getElem? (i := 3) rfl)) rfl dX7_isWord_41 ?_
        refine lv_iload_n hx hb dX7_isWord_44 rfl (lv_at hl 0 rfl) ?_
        refine z_iadd hx hb (((s_ + 1) : Nat) : Int) (by omega) dX7_isWord_45 ?_
        have hz_11 := hf (s_ + 1)
        refine z_iald hx hb hK hP 1 rfl (s_ + 1) (by omega) (by omega) (by decide) dX7_isWord_46 ?_
        refine lv_aload_n hx hb dX7_isWord_47 rfl (lv_at hl 2 rfl) ?_
        refine lv_iload_n hx hb dX7_isWord_48 rfl (lv_at hl 0 rfl) ?_
        refine z_xRi (As := [vI 1]) (rest := [vI (f (s_ + 1))]) ⟨hx, hb, hml, hown, hts⟩ hK hP hD hS hA [] [0, 1, 2] rfl rfl rfl (c_J0_charAt_5068e l g a av wBus 1 117 (by decide) (by decide) rfl) (cwV 1 hts gX7_isWord_J0_charAt_5068e rfl rfl rfl (by decide +kernel) ⟨Nat.le_of_ble_eq_true rfl, Nat.le_of_ble_eq_true rfl⟩) (va_Orecv hXX.2.2.1 hS) zXS_b (zXS_s hXX hS) rfl hl.1 (Nat.le_of_ble_eq_true rfl) rfl dX7_isWord_49 ⟨Nat.le_of_ble_eq_true rfl, Nat.le_of_ble_eq_true rfl⟩ (fun u_12 H locs hwu_12 hP hD hS => ?_)
        try dsimp only at hwu_12
        have hP : zP g [[(q, .inr (7, [.ref (x 0), vI ((n : Nat) : Int), vI ((c_ : Nat) : Int), vI ((k : Nat) : Int), vI ((s_ : Nat) : Int), vI ((e_ : Nat) : Int), .ref (x 1)]))], [((x 0), .inl (g.2 0, 200, .inl (aI f)))], [((x 1), .inl (g.2 0, 4, .inl (aI m_)))]] H := hP
        have hD : zD A [[(q, .inr (7, [.ref (x 0), vI ((n : Nat) : Int), vI ((c_ : Nat) : Int), vI ((k : Nat) : Int), vI ((s_ : Nat) : Int), vI ((e_ : Nat) : Int), .ref (x 1)]))], [((x 0), .inl (g.2 0, 200, .inl (aI f)))], [((x 1), .inl (g.2 0, 4, .inl (aI m_)))]] := hD
        refine z_toI 117 rfl ?_
        refine z_icmp_eq (tgt := 57) hx hb (by omega) (by decide) dX7_isWord_52 (by decide) (fun c13 => ?_) (fun c13 => ?_)
        · refine z_iinc hx hb 2 (lv' := [(2, vI 2), (0, .ref q), (1, .ref a)]) dX7_isWord_57 hl (k := 0) rfl (rfl) (by decide) rfl (fun ls hl => ?_)
          refine lv_goto (tgt := 28) hx hb dX7_isWord_60 (by decide) ?_
          refine lv_iload_n hx hb dX7_isWord_28 rfl (lv_at hl 0 rfl) ?_
          refine lv_aload_n hx hb dX7_isWord_29 rfl (lv_at hl 2 rfl) ?_
          refine z_xRi (As := []) (rest := [vI 2]) ⟨hx, hb, hml, hown, hts⟩ hK hP hD hS hA [] [0, 1, 2] rfl rfl rfl (c_J0_length_8abf5 l g a av wBus 3 rfl) (cwV 0 hts gX7_isWord_J0_length_8abf5 rfl rfl rfl (by decide +kernel) ⟨Nat.le_of_ble_eq_true rfl, Nat.le_of_ble_eq_true rfl⟩) (va_Orecv hXX.2.2.1 hS) zXS_b (zXS_s hXX hS) rfl hl.1 (Nat.le_of_ble_eq_true rfl) rfl dX7_isWord_30 ⟨Nat.le_of_ble_eq_true rfl, Nat.le_of_ble_eq_true rfl⟩ (fun u_14 H locs hwu_14 hP hD hS => ?_)
          try dsimp only at hwu_14
          have hP : zP g [[(q, .inr (7, [.ref (x 0), vI ((n : Nat) : Int), vI ((c_ : Nat) : Int), vI ((k : Nat) : Int), vI ((s_ : Nat) : Int), vI ((e_ : Nat) : Int), .ref (x 1)]))], [((x 0), .inl (g.2 0, 200, .inl (aI f)))], [((x 1), .inl (g.2 0, 4, .inl (aI m_)))]] H := hP
          have hD : zD A [[(q, .inr (7, [.ref (x 0), vI ((n : Nat) : Int), vI ((c_ : Nat) : Int), vI ((k : Nat) : Int), vI ((s_ : Nat) : Int), vI ((e_ : Nat) : Int), .ref (x 1)]))], [((x 0), .inl (g.2 0, 200, .inl (aI f)))], [((x 1), .inl (g.2 0, 4, .inl (aI m_)))]] := hD
          refine z_toI 3 rfl ?_
          refine z_icmp_ge (tgt := 63) hx hb (by decide) (by decide) dX7_isWord_33 (by decide) (fun c15 => absurd c15 (by decide)) (fun c15 => ?_)
          refine lv_aload_n hx hb dX7_isWord_36 rfl (lv_at hl 1 rfl) ?_
          refine z_get hx hb hts hin7_ hown hK hP 0 rfl rfl 0 (by decide) (hts _ (List.mem_of_getElem? (i := 4) rfl)) rfl dX7_isWord_37 ?_
          refine lv_aload_n hx hb dX7_isWord_40 rfl (lv_at hl 1 rfl) ?_
          refine z_get hx hb hts hin7_ hown hK hP 0 rfl rfl 4 (by decide) (hts _ (List.mem_of_getElem? (i := 3) rfl)) rfl dX7_isWord_41 ?_
          refine lv_iload_n hx hb dX7_isWord_44 rfl (lv_at hl 0 rfl) ?_
          refine z_iadd hx hb (((s_ + 2) : Nat) : Int) (by omega) dX7_isWord_45 ?_
          have hz_16 := hf (s_ + 2)
          refine z_iald hx hb hK hP 1 rfl (s_ + 2) (by omega) (by omega) (by decide) dX7_isWord_46 ?_
          refine lv_aload_n hx hb dX7_isWord_47 rfl (lv_at hl 2 rfl) ?_
          refine lv_iload_n hx hb dX7_isWord_48 rfl (lv_at hl 0 rfl) ?_
          refine z_xRi (As := [vI 2]) (rest := [vI (f (s_ + 2))]) ⟨hx, hb, hml, hown, hts⟩ hK hP hD hS hA [] [0, 1, 2] rfl rfl rfl (c_J0_charAt_5068e l g a av wBus 2 115 (by decide) (by decide) rfl) (cwV 1 hts gX7_isWord_J0_charAt_5068e rfl rfl rfl (by decide +kernel) ⟨Nat.le_of_ble_eq_true rfl, Nat.le_of_ble_eq_true rfl⟩) (va_Orecv hXX.2.2.1 hS) zXS_b (zXS_s hXX hS) rfl hl.1 (Nat.le_of_ble_eq_true rfl) rfl dX7_isWord_49 ⟨Nat.le_of_ble_eq_true rfl, Nat.le_of_ble_eq_true rfl⟩ (fun u_17 H locs hwu_17 hP hD hS => ?_)
          try dsimp only at hwu_17
          have hP : zP g [[(q, .inr (7, [.ref (x 0), vI ((n : Nat) : Int), vI ((c_ : Nat) : Int), vI ((k : Nat) : Int), vI ((s_ : Nat) : Int), vI ((e_ : Nat) : Int), .ref (x 1)]))], [((x 0), .inl (g.2 0, 200, .inl (aI f)))], [((x 1), .inl (g.2 0, 4, .inl (aI m_)))]] H := hP
          have hD : zD A [[(q, .inr (7, [.ref (x 0), vI ((n : Nat) : Int), vI ((c_ : Nat) : Int), vI ((k : Nat) : Int), vI ((s_ : Nat) : Int), vI ((e_ : Nat) : Int), .ref (x 1)]))], [((x 0), .inl (g.2 0, 200, .inl (aI f)))], [((x 1), .inl (g.2 0, 4, .inl (aI m_)))]] := hD
          refine z_toI 115 rfl ?_
          refine z_icmp_eq (tgt := 57) hx hb (by omega) (by decide) dX7_isWord_52 (by decide) (fun c18 => ?_) (fun c18 => ?_)
          · refine z_iinc hx hb 3 (lv' := [(2, vI 3), (0, .ref q), (1, .ref a)]) dX7_isWord_57 hl (k := 0) rfl (rfl) (by decide) rfl (fun ls hl => ?_)
            refine lv_goto (tgt := 28) hx hb dX7_isWord_60 (by decide) ?_
            refine lv_iload_n hx hb dX7_isWord_28 rfl (lv_at hl 0 rfl) ?_
            refine lv_aload_n hx hb dX7_isWord_29 rfl (lv_at hl 2 rfl) ?_
            refine z_xRi (As := []) (rest := [vI 3]) ⟨hx, hb, hml, hown, hts⟩ hK hP hD hS hA [] [0, 1, 2] rfl rfl rfl (c_J0_length_8abf5 l g a av wBus 3 rfl) (cwV 0 hts gX7_isWord_J0_length_8abf5 rfl rfl rfl (by decide +kernel) ⟨Nat.le_of_ble_eq_true rfl, Nat.le_of_ble_eq_true rfl⟩) (va_Orecv hXX.2.2.1 hS) zXS_b (zXS_s hXX hS) rfl hl.1 (Nat.le_of_ble_eq_true rfl) rfl dX7_isWord_30 ⟨Nat.le_of_ble_eq_true rfl, Nat.le_of_ble_eq_true rfl⟩ (fun u_19 H locs hwu_19 hP hD hS => ?_)
            try dsimp only at hwu_19
            have hP : zP g [[(q, .inr (7, [.ref (x 0), vI ((n : Nat) : Int), vI ((c_ : Nat) : Int), vI ((k : Nat) : Int), vI ((s_ : Nat) : Int), vI ((e_ : Nat) : Int), .ref (x 1)]))], [((x 0), .inl (g.2 0, 200, .inl (aI f)))], [((x 1), .inl (g.2 0, 4, .inl (aI m_)))]] H := hP
            have hD : zD A [[(q, .inr (7, [.ref (x 0), vI ((n : Nat) : Int), vI ((c_ : Nat) : Int), vI ((k : Nat) : Int), vI ((s_ : Nat) : Int), vI ((e_ : Nat) : Int), .ref (x 1)]))], [((x 0), .inl (g.2 0, 200, .inl (aI f)))], [((x 1), .inl (g.2 0, 4, .inl (aI m_)))]] := hD
            refine z_toI 3 rfl ?_
            refine z_icmp_ge (tgt := 63) hx hb (by decide) (by decide) dX7_isWord_33 (by decide) (fun c20 => ?_) (fun c20 => absurd (by decide) c20)
            refine z_iconst hx hb dX7_isWord_63 rfl ?_
            have hP : zP g [(textW g q x n c_ k s_ e_ f m_)] H := hP
            have hD : zD A [(textW g q x n c_ k s_ e_ f m_)] := hD
            exact z_reti () [0] hx hb hr (nar_z (by first | decide | omega)) hlocks hK hP hD hS (by have := wdB_s f k s_ e_; omega) trivial rfl rfl (rfl) (Nat.le_of_ble_eq_true rfl) (Nat.le_of_ble_eq_true rfl) dX7_isWord_64
          · refine z_iconst hx hb dX7_isWord_55 rfl ?_
            have hP : zP g [(textW g q x n c_ k s_ e_ f m_)] H := hP
            have hD : zD A [(textW g q x n c_ k s_ e_ f m_)] := hD
            exact z_reti () [0] hx hb hr (nar_z (by first | decide | omega)) hlocks hK hP hD hS (by have := wdB_s f k s_ e_; omega) trivial rfl rfl (rfl) (Nat.le_of_ble_eq_true rfl) (Nat.le_of_ble_eq_true rfl) dX7_isWord_56
        · refine z_iconst hx hb dX7_isWord_55 rfl ?_
          have hP : zP g [(textW g q x n c_ k s_ e_ f m_)] H := hP
          have hD : zD A [(textW g q x n c_ k s_ e_ f m_)] := hD
          exact z_reti () [0] hx hb hr (nar_z (by first | decide | omega)) hlocks hK hP hD hS (by have := wdB_s f k s_ e_; omega) trivial rfl rfl (rfl) (Nat.le_of_ble_eq_true rfl) (Nat.le_of_ble_eq_true rfl) dX7_isWord_56
      · refine z_iconst hx hb dX7_isWord_55 rfl ?_
        have hP : zP g [(textW g q x n c_ k s_ e_ f m_)] H := hP
        have hD : zD A [(textW g q x n c_ k s_ e_ f m_)] := hD
        exact z_reti () [0] hx hb hr (nar_z (by first | decide | omega)) hlocks hK hP hD hS (by have := wdB_s f k s_ e_; omega) trivial rfl rfl (rfl) (Nat.le_of_ble_eq_true rfl) (Nat.le_of_ble_eq_true rfl) dX7_isWord_56
    · refine z_iconst hx hb dX7_isWord_24 rfl ?_
      have hP : zP g [(textW g q x n c_ k s_ e_ f m_)] H := hP
      have hD : zD A [(textW g q x n c_ k s_ e_ f m_)] := hD
      exact z_reti () [0] hx hb hr (nar_z (by first | decide | omega)) hlocks hK hP hD hS (by have := wdB_s f k s_ e_; omega) trivial rfl rfl (rfl) (Nat.le_of_ble_eq_true rfl) (Nat.le_of_ble_eq_true rfl) dX7_isWord_25

set_option maxHeartbeats 4000000 in
set_option maxRecDepth 100000 in
theorem c_X7_isWordR (l : Launch) (g : zG) (q : Nat) (x : Nat → Nat) (n : Nat) (c_ : Nat) (k : Nat) (s_ : Nat) (e_ : Nat) (f : Nat → Int) (m_ : Nat → Int) (a : Nat) (av : Nat) (hn : n ≤ 200) (hse : s_ ≤ e_ ∧ e_ ≤ n) (hk : k ≤ 3) (hf : ∀ i, 0 ≤ f i ∧ f i ≤ 255) : zMet l g yX7_isWord wsX7_isWord 4 0 0 [.ref q, .ref a] (zXS a av wRel) [(textW g q x n c_ k s_ e_ f m_)] (qi g (fun (_ : Unit) => (wdR f k s_ e_)) (fun (_ : Unit) => True) (fun (_ : Unit) => [(textW g q x n c_ k s_ e_ f m_)])) := by
  refine z_ent (cc := cX7_isWord) (maxL := 3) (ret := (some .boolean)) (by decide) rfl (Nat.le_of_ble_eq_true rfl) ?_
  intro p e s m below meth c A ls hx hb hr hml hown hts hlocks hin0 hA hK hP hD hS hXX hl
  have hown : s.vm.findClass RX7 = some m.cls := hown
  have hin7_ : ∀ w ∈ wsX70, w ∈ wsX7_isWord := zw_in [54, 55, 56, 57, 58, 59, 60] rfl
  have hl : lv_has ls 3 [(0, .ref q), (1, .ref a)] := hl
  have hP : zP g [[(q, .inr (7, [.ref (x 0), vI ((n : Nat) : Int), vI ((c_ : Nat) : Int), vI ((k : Nat) : Int), vI ((s_ : Nat) : Int), vI ((e_ : Nat) : Int), .ref (x 1)]))], [((x 0), .inl (g.2 0, 200, .inl (aI f)))], [((x 1), .inl (g.2 0, 4, .inl (aI m_)))]] s.heap := hP
  have hD : zD A [[(q, .inr (7, [.ref (x 0), vI ((n : Nat) : Int), vI ((c_ : Nat) : Int), vI ((k : Nat) : Int), vI ((s_ : Nat) : Int), vI ((e_ : Nat) : Int), .ref (x 1)]))], [((x 0), .inl (g.2 0, 200, .inl (aI f)))], [((x 1), .inl (g.2 0, 4, .inl (aI m_)))]] := hD
  refine lv_aload_n hx hb dX7_isWord_0 rfl (lv_at hl 0 rfl) ?_
  refine z_get hx hb hts hin7_ hown hK hP 0 rfl rfl 3 (by decide) (hts _ (List.mem_of_getElem? (i := 1) rfl)) rfl dX7_isWord_1 ?_
  refine z_iconst hx hb dX7_isWord_4 rfl ?_
  refine z_icmp_ne (tgt := 24) hx hb (by omega) (by decide) dX7_isWord_5 (by decide) (fun c1 => ?_) (fun c1 => ?_)
  · refine z_iconst hx hb dX7_isWord_24 rfl ?_
    have hP : zP g [(textW g q x n c_ k s_ e_ f m_)] s.heap := hP
    have hD : zD A [(textW g q x n c_ k s_ e_ f m_)] := hD
    exact z_reti () [0] hx hb hr (nar_z (by first | decide | omega)) hlocks hK hP hD hS (by have := wdR_s f k s_ e_; omega) trivial rfl rfl (rfl) (Nat.le_of_ble_eq_true rfl) (Nat.le_of_ble_eq_true rfl) dX7_isWord_25
  · refine lv_aload_n hx hb dX7_isWord_8 rfl (lv_at hl 0 rfl) ?_
    refine z_get hx hb hts hin7_ hown hK hP 0 rfl rfl 5 (by decide) (hts _ (List.mem_of_getElem? (i := 2) rfl)) rfl dX7_isWord_9 ?_
    refine lv_aload_n hx hb dX7_isWord_12 rfl (lv_at hl 0 rfl) ?_
    refine z_get hx hb hts hin7_ hown hK hP 0 rfl rfl 4 (by decide) (hts _ (List.mem_of_getElem? (i := 3) rfl)) rfl dX7_isWord_13 ?_
    refine z_isub hx hb (((e_ : Nat) : Int) - ((s_ : Nat) : Int)) rfl dX7_isWord_16 ?_
    refine lv_aload_n hx hb dX7_isWord_17 rfl (lv_at hl 1 rfl) ?_
    refine z_xRi (As := []) (rest := [vI (((e_ : Nat) : Int) - ((s_ : Nat) : Int))]) ⟨hx, hb, hml, hown, hts⟩ hK hP hD hS hA [] [0, 1, 2] rfl rfl rfl (c_J0_length_8abf5 l g a av wRel 5 rfl) (cwV 0 hts gX7_isWord_J0_length_8abf5 rfl rfl rfl (by decide +kernel) ⟨Nat.le_of_ble_eq_true rfl, Nat.le_of_ble_eq_true rfl⟩) (va_Orecv hXX.2.2.1 hS) zXS_b (zXS_s hXX hS) rfl hl.1 (Nat.le_of_ble_eq_true rfl) rfl dX7_isWord_18 ⟨Nat.le_of_ble_eq_true rfl, Nat.le_of_ble_eq_true rfl⟩ (fun u_2 H locs hwu_2 hP hD hS => ?_)
    try dsimp only at hwu_2
    have hP : zP g [[(q, .inr (7, [.ref (x 0), vI ((n : Nat) : Int), vI ((c_ : Nat) : Int), vI ((k : Nat) : Int), vI ((s_ : Nat) : Int), vI ((e_ : Nat) : Int), .ref (x 1)]))], [((x 0), .inl (g.2 0, 200, .inl (aI f)))], [((x 1), .inl (g.2 0, 4, .inl (aI m_)))]] H := hP
    have hD : zD A [[(q, .inr (7, [.ref (x 0), vI ((n : Nat) : Int), vI ((c_ : Nat) : Int), vI ((k : Nat) : Int), vI ((s_ : Nat) : Int), vI ((e_ : Nat) : Int), .ref (x 1)]))], [((x 0), .inl (g.2 0, 200, .inl (aI f)))], [((x 1), .inl (g.2 0, 4, .inl (aI m_)))]] := hD
    refine z_toI 5 rfl ?_
    refine z_icmp_eq (tgt := 26) hx hb (by omega) (by decide) dX7_isWord_21 (by decide) (fun c3 => ?_) (fun c3 => ?_)
    · refine z_iconst hx hb dX7_isWord_26 rfl ?_
      refine lv_istore_n (lv' := [(2, vI 0), (0, .ref q), (1, .ref a)]) hx hb dX7_isWord_27 rfl hl (by decide) rfl (fun ls hl => ?_)
      refine lv_iload_n hx hb dX7_isWord_28 rfl (lv_at hl 0 rfl) ?_
      refine lv_aload_n hx hb dX7_isWord_29 rfl (lv_at hl 2 rfl) ?_
      refine z_xRi (As := []) (rest := [vI 0]) ⟨hx, hb, hml, hown, hts⟩ hK hP hD hS hA [] [0, 1, 2] rfl rfl rfl (c_J0_length_8abf5 l g a av wRel 5 rfl) (cwV 0 hts gX7_isWord_J0_length_8abf5 rfl rfl rfl (by decide +kernel) ⟨Nat.le_of_ble_eq_true rfl, Nat.le_of_ble_eq_true rfl⟩) (va_Orecv hXX.2.2.1 hS) zXS_b (zXS_s hXX hS) rfl hl.1 (Nat.le_of_ble_eq_true rfl) rfl dX7_isWord_30 ⟨Nat.le_of_ble_eq_true rfl, Nat.le_of_ble_eq_true rfl⟩ (fun u_4 H locs hwu_4 hP hD hS => ?_)
      try dsimp only at hwu_4
      have hP : zP g [[(q, .inr (7, [.ref (x 0), vI ((n : Nat) : Int), vI ((c_ : Nat) : Int), vI ((k : Nat) : Int), vI ((s_ : Nat) : Int), vI ((e_ : Nat) : Int), .ref (x 1)]))], [((x 0), .inl (g.2 0, 200, .inl (aI f)))], [((x 1), .inl (g.2 0, 4, .inl (aI m_)))]] H := hP
      have hD : zD A [[(q, .inr (7, [.ref (x 0), vI ((n : Nat) : Int), vI ((c_ : Nat) : Int), vI ((k : Nat) : Int), vI ((s_ : Nat) : Int), vI ((e_ : Nat) : Int), .ref (x 1)]))], [((x 0), .inl (g.2 0, 200, .inl (aI f)))], [((x 1), .inl (g.2 0, 4, .inl (aI m_)))]] := hD
      refine z_toI 5 rfl ?_
      refine z_icmp_ge (tgt := 63) hx hb (by decide) (by decide) dX7_isWord_33 (by decide) (fun c5 => absurd c5 (by decide)) (fun c5 => ?_)
      refine lv_aload_n hx hb dX7_isWord_36 rfl (lv_at hl 1 rfl) ?_
      refine z_get hx hb hts hin7_ hown hK hP 0 rfl rfl 0 (by decide) (hts _ (List.mem_of_getElem? (i := 4) rfl)) rfl dX7_isWord_37 ?_
      refine lv_aload_n hx hb dX7_isWord_40 rfl (lv_at hl 1 rfl) ?_
      refine z_get hx hb hts hin7_ hown hK hP 0 rfl rfl 4 (by decide) (hts _ (List.mem_of_getElem? (i := 3) rfl)) rfl dX7_isWord_41 ?_
      refine lv_iload_n hx hb dX7_isWord_44 rfl (lv_at hl 0 rfl) ?_
      refine z_iadd hx hb ((s_ : Nat) : Int) (Int.add_zero _) dX7_isWord_45 ?_
      have hz_6 := hf s_
      refine z_iald hx hb hK hP 1 rfl s_ (by omega) (by omega) (by decide) dX7_isWord_46 ?_
      refine lv_aload_n hx hb dX7_isWord_47 rfl (lv_at hl 2 rfl) ?_
      refine lv_iload_n hx hb dX7_isWord_48 rfl (lv_at hl 0 rfl) ?_
      refine z_xRi (As := [vI 0]) (rest := [vI (f s_)]) ⟨hx, hb, hml, hown, hts⟩ hK hP hD hS hA [] [0, 1, 2] rfl rfl rfl (c_J0_charAt_5068e l g a av wRel 0 114 (by decide) (by decide) rfl) (cwV 1 hts gX7_isWord_J0_charAt_5068e rfl rfl rfl (by decide +kernel) ⟨Nat.le_of_ble_eq_true rfl, Nat.le_of_ble_eq_true rfl⟩) (va_Orecv hXX.2.2.1 hS) zXS_b (zXS_s hXX hS) rfl hl.1 (Nat.le_of_ble_eq_true rfl) rfl dX7_isWord_49 ⟨Nat.le_of_ble_eq_true rfl, Nat.le_of_ble_eq_true rfl⟩ (fun u_7 H locs hwu_7 hP hD hS => ?_)
      try dsimp only at hwu_7
      have hP : zP g [[(q, .inr (7, [.ref (x 0), vI ((n : Nat) : Int), vI ((c_ : Nat) : Int), vI ((k : Nat) : Int), vI ((s_ : Nat) : Int), vI ((e_ : Nat) : Int), .ref (x 1)]))], [((x 0), .inl (g.2 0, 200, .inl (aI f)))], [((x 1), .inl (g.2 0, 4, .inl (aI m_)))]] H := hP
      have hD : zD A [[(q, .inr (7, [.ref (x 0), vI ((n : Nat) : Int), vI ((c_ : Nat) : Int), vI ((k : Nat) : Int), vI ((s_ : Nat) : Int), vI ((e_ : Nat) : Int), .ref (x 1)]))], [((x 0), .inl (g.2 0, 200, .inl (aI f)))], [((x 1), .inl (g.2 0, 4, .inl (aI m_)))]] := hD
      refine z_toI 114 rfl ?_
      refine z_icmp_eq (tgt := 57) hx hb (by omega) (by decide) dX7_isWord_52 (by decide) (fun c8 => ?_) (fun c8 => ?_)
      · refine z_iinc hx hb 1 (lv' := [(2, vI 1), (0, .ref q), (1, .ref a)]) dX7_isWord_57 hl (k := 0) rfl (rfl) (by decide) rfl (fun ls hl => ?_)
        refine lv_goto (tgt := 28) hx hb dX7_isWord_60 (by decide) ?_
        refine lv_iload_n hx hb dX7_isWord_28 rfl (lv_at hl 0 rfl) ?_
        refine lv_aload_n hx hb dX7_isWord_29 rfl (lv_at hl 2 rfl) ?_
        refine z_xRi (As := []) (rest := [vI 1]) ⟨hx, hb, hml, hown, hts⟩ hK hP hD hS hA [] [0, 1, 2] rfl rfl rfl (c_J0_length_8abf5 l g a av wRel 5 rfl) (cwV 0 hts gX7_isWord_J0_length_8abf5 rfl rfl rfl (by decide +kernel) ⟨Nat.le_of_ble_eq_true rfl, Nat.le_of_ble_eq_true rfl⟩) (va_Orecv hXX.2.2.1 hS) zXS_b (zXS_s hXX hS) rfl hl.1 (Nat.le_of_ble_eq_true rfl) rfl dX7_isWord_30 ⟨Nat.le_of_ble_eq_true rfl, Nat.le_of_ble_eq_true rfl⟩ (fun u_9 H locs hwu_9 hP hD hS => ?_)
        try dsimp only at hwu_9
        have hP : zP g [[(q, .inr (7, [.ref (x 0), vI ((n : Nat) : Int), vI ((c_ : Nat) : Int), vI ((k : Nat) : Int), vI ((s_ : Nat) : Int), vI ((e_ : Nat) : Int), .ref (x 1)]))], [((x 0), .inl (g.2 0, 200, .inl (aI f)))], [((x 1), .inl (g.2 0, 4, .inl (aI m_)))]] H := hP
        have hD : zD A [[(q, .inr (7, [.ref (x 0), vI ((n : Nat) : Int), vI ((c_ : Nat) : Int), vI ((k : Nat) : Int), vI ((s_ : Nat) : Int), vI ((e_ : Nat) : Int), .ref (x 1)]))], [((x 0), .inl (g.2 0, 200, .inl (aI f)))], [((x 1), .inl (g.2 0, 4, .inl (aI m_)))]] := hD
        refine z_toI 5 rfl ?_
        refine z_icmp_ge (tgt := 63) hx hb (by decide) (by decide) dX7_isWord_33 (by decide) (fun c10 => absurd c10 (by decide)) (fun c10 => ?_)
        refine lv_aload_n hx hb dX7_isWord_36 rfl (lv_at hl 1 rfl) ?_
        refine z_get hx hb hts hin7_ hown hK hP 0 rfl rfl 0 (by decide) (hts _ (List.mem_of_getElem? (i := 4) rfl)) rfl dX7_isWord_37 ?_
        refine lv_aload_n hx hb dX7_isWord_40 rfl (lv_at hl 1 rfl) ?_
        refine z_get hx hb hts hin7_ hown hK hP 0 rfl rfl 4 (by decide) (hts _ (List.mem_of_getElem? (i := 3) rfl)) rfl dX7_isWord_41 ?_
        refine lv_iload_n hx hb dX7_isWord_44 rfl (lv_at hl 0 rfl) ?_
        refine z_iadd hx hb (((s_ + 1) : Nat) : Int) (by omega) dX7_isWord_45 ?_
        have hz_11 := hf (s_ + 1)
        refine z_iald hx hb hK hP 1 rfl (s_ + 1) (by omega) (by omega) (by decide) dX7_isWord_46 ?_
        refine lv_aload_n hx hb dX7_isWord_47 rfl (lv_at hl 2 rfl) ?_
        refine lv_iload_n hx hb dX7_isWord_48 rfl (lv_at hl 0 rfl) ?_
        refine z_xRi (As := [vI 1]) (rest := [vI (f (s_ + 1))]) ⟨hx, hb, hml, hown, hts⟩ hK hP hD hS hA [] [0, 1, 2] rfl rfl rfl (c_J0_charAt_5068e l g a av wRel 1 101 (by decide) (by decide) rfl) (cwV 1 hts gX7_isWord_J0_charAt_5068e rfl rfl rfl (by decide +kernel) ⟨Nat.le_of_ble_eq_true rfl, Nat.le_of_ble_eq_true rfl⟩) (va_Orecv hXX.2.2.1 hS) zXS_b (zXS_s hXX hS) rfl hl.1 (Nat.le_of_ble_eq_true rfl) rfl dX7_isWord_49 ⟨Nat.le_of_ble_eq_true rfl, Nat.le_of_ble_eq_true rfl⟩ (fun u_12 H locs hwu_12 hP hD hS => ?_)
        try dsimp only at hwu_12
        have hP : zP g [[(q, .inr (7, [.ref (x 0), vI ((n : Nat) : Int), vI ((c_ : Nat) : Int), vI ((k : Nat) : Int), vI ((s_ : Nat) : Int), vI ((e_ : Nat) : Int), .ref (x 1)]))], [((x 0), .inl (g.2 0, 200, .inl (aI f)))], [((x 1), .inl (g.2 0, 4, .inl (aI m_)))]] H := hP
        have hD : zD A [[(q, .inr (7, [.ref (x 0), vI ((n : Nat) : Int), vI ((c_ : Nat) : Int), vI ((k : Nat) : Int), vI ((s_ : Nat) : Int), vI ((e_ : Nat) : Int), .ref (x 1)]))], [((x 0), .inl (g.2 0, 200, .inl (aI f)))], [((x 1), .inl (g.2 0, 4, .inl (aI m_)))]] := hD
        refine z_toI 101 rfl ?_
        refine z_icmp_eq (tgt := 57) hx hb (by omega) (by decide) dX7_isWord_52 (by decide) (fun c13 => ?_) (fun c13 => ?_)
        · refine z_iinc hx hb 2 (lv' := [(2, vI 2), (0, .ref q), (1, .ref a)]) dX7_isWord_57 hl (k := 0) rfl (rfl) (by decide) rfl (fun ls hl => ?_)
          refine lv_goto (tgt := 28) hx hb dX7_isWord_60 (by decide) ?_
          refine lv_iload_n hx hb dX7_isWord_28 rfl (lv_at hl 0 rfl) ?_
          refine lv_aload_n hx hb dX7_isWord_29 rfl (lv_at hl 2 rfl) ?_
          refine z_xRi (As := []) (rest := [vI 2]) ⟨hx, hb, hml, hown, hts⟩ hK hP hD hS hA [] [0, 1, 2] rfl rfl rfl (c_J0_length_8abf5 l g a av wRel 5 rfl) (cwV 0 hts gX7_isWord_J0_length_8abf5 rfl rfl rfl (by decide +kernel) ⟨Nat.le_of_ble_eq_true rfl, Nat.le_of_ble_eq_true rfl⟩) (va_Orecv hXX.2.2.1 hS) zXS_b (zXS_s hXX hS) rfl hl.1 (Nat.le_of_ble_eq_true rfl) rfl dX7_isWord_30 ⟨Nat.le_of_ble_eq_true rfl, Nat.le_of_ble_eq_true rfl⟩ (fun u_14 H locs hwu_14 hP hD hS => ?_)
          try dsimp only at hwu_14
          have hP : zP g [[(q, .inr (7, [.ref (x 0), vI ((n : Nat) : Int), vI ((c_ : Nat) : Int), vI ((k : Nat) : Int), vI ((s_ : Nat) : Int), vI ((e_ : Nat) : Int), .ref (x 1)]))], [((x 0), .inl (g.2 0, 200, .inl (aI f)))], [((x 1), .inl (g.2 0, 4, .inl (aI m_)))]] H := hP
          have hD : zD A [[(q, .inr (7, [.ref (x 0), vI ((n : Nat) : Int), vI ((c_ : Nat) : Int), vI ((k : Nat) : Int), vI ((s_ : Nat) : Int), vI ((e_ : Nat) : Int), .ref (x 1)]))], [((x 0), .inl (g.2 0, 200, .inl (aI f)))], [((x 1), .inl (g.2 0, 4, .inl (aI m_)))]] := hD
          refine z_toI 5 rfl ?_
          refine z_icmp_ge (tgt := 63) hx hb (by decide) (by decide) dX7_isWord_33 (by decide) (fun c15 => absurd c15 (by decide)) (fun c15 => ?_)
          refine lv_aload_n hx hb dX7_isWord_36 rfl (lv_at hl 1 rfl) ?_
          refine z_get hx hb hts hin7_ hown hK hP 0 rfl rfl 0 (by decide) (hts _ (List.mem_of_getElem? (i := 4) rfl)) rfl dX7_isWord_37 ?_
          refine lv_aload_n hx hb dX7_isWord_40 rfl (lv_at hl 1 rfl) ?_
          refine z_get hx hb hts hin7_ hown hK hP 0 rfl rfl 4 (by decide) (hts _ (List.mem_of_getElem? (i := 3) rfl)) rfl dX7_isWord_41 ?_
          refine lv_iload_n hx hb dX7_isWord_44 rfl (lv_at hl 0 rfl) ?_
          refine z_iadd hx hb (((s_ + 2) : Nat) : Int) (by omega) dX7_isWord_45 ?_
          have hz_16 := hf (s_ + 2)
          refine z_iald hx hb hK hP 1 rfl (s_ + 2) (by omega) (by omega) (by decide) dX7_isWord_46 ?_
          refine lv_aload_n hx hb dX7_isWord_47 rfl (lv_at hl 2 rfl) ?_
          refine lv_iload_n hx hb dX7_isWord_48 rfl (lv_at hl 0 rfl) ?_
          refine z_xRi (As := [vI 2]) (rest := [vI (f (s_ + 2))]) ⟨hx, hb, hml, hown, hts⟩ hK hP hD hS hA [] [0, 1, 2] rfl rfl rfl (c_J0_charAt_5068e l g a av wRel 2 108 (by decide) (by decide) rfl) (cwV 1 hts gX7_isWord_J0_charAt_5068e rfl rfl rfl (by decide +kernel) ⟨Nat.le_of_ble_eq_true rfl, Nat.le_of_ble_eq_true rfl⟩) (va_Orecv hXX.2.2.1 hS) zXS_b (zXS_s hXX hS) rfl hl.1 (Nat.le_of_ble_eq_true rfl) rfl dX7_isWord_49 ⟨Nat.le_of_ble_eq_true rfl, Nat.le_of_ble_eq_true rfl⟩ (fun u_17 H locs hwu_17 hP hD hS => ?_)
          try dsimp only at hwu_17
          have hP : zP g [[(q, .inr (7, [.ref (x 0), vI ((n : Nat) : Int), vI ((c_ : Nat) : Int), vI ((k : Nat) : Int), vI ((s_ : Nat) : Int), vI ((e_ : Nat) : Int), .ref (x 1)]))], [((x 0), .inl (g.2 0, 200, .inl (aI f)))], [((x 1), .inl (g.2 0, 4, .inl (aI m_)))]] H := hP
          have hD : zD A [[(q, .inr (7, [.ref (x 0), vI ((n : Nat) : Int), vI ((c_ : Nat) : Int), vI ((k : Nat) : Int), vI ((s_ : Nat) : Int), vI ((e_ : Nat) : Int), .ref (x 1)]))], [((x 0), .inl (g.2 0, 200, .inl (aI f)))], [((x 1), .inl (g.2 0, 4, .inl (aI m_)))]] := hD
          refine z_toI 108 rfl ?_
          refine z_icmp_eq (tgt := 57) hx hb (by omega) (by decide) dX7_isWord_52 (by decide) (fun c18 => ?_) (fun c18 => ?_)
          · refine z_iinc hx hb 3 (lv' := [(2, vI 3), (0, .ref q), (1, .ref a)]) dX7_isWord_57 hl (k := 0) rfl (rfl) (by decide) rfl (fun ls hl => ?_)
            refine lv_goto (tgt := 28) hx hb dX7_isWord_60 (by decide) ?_
            refine lv_iload_n hx hb dX7_isWord_28 rfl (lv_at hl 0 rfl) ?_
            refine lv_aload_n hx hb dX7_isWord_29 rfl (lv_at hl 2 rfl) ?_
            refine z_xRi (As := []) (rest := [vI 3]) ⟨hx, hb, hml, hown, hts⟩ hK hP hD hS hA [] [0, 1, 2] rfl rfl rfl (c_J0_length_8abf5 l g a av wRel 5 rfl) (cwV 0 hts gX7_isWord_J0_length_8abf5 rfl rfl rfl (by decide +kernel) ⟨Nat.le_of_ble_eq_true rfl, Nat.le_of_ble_eq_true rfl⟩) (va_Orecv hXX.2.2.1 hS) zXS_b (zXS_s hXX hS) rfl hl.1 (Nat.le_of_ble_eq_true rfl) rfl dX7_isWord_30 ⟨Nat.le_of_ble_eq_true rfl, Nat.le_of_ble_eq_true rfl⟩ (fun u_19 H locs hwu_19 hP hD hS => ?_)
            try dsimp only at hwu_19
            have hP : zP g [[(q, .inr (7, [.ref (x 0), vI ((n : Nat) : Int), vI ((c_ : Nat) : Int), vI ((k : Nat) : Int), vI ((s_ : Nat) : Int), vI ((e_ : Nat) : Int), .ref (x 1)]))], [((x 0), .inl (g.2 0, 200, .inl (aI f)))], [((x 1), .inl (g.2 0, 4, .inl (aI m_)))]] H := hP
            have hD : zD A [[(q, .inr (7, [.ref (x 0), vI ((n : Nat) : Int), vI ((c_ : Nat) : Int), vI ((k : Nat) : Int), vI ((s_ : Nat) : Int), vI ((e_ : Nat) : Int), .ref (x 1)]))], [((x 0), .inl (g.2 0, 200, .inl (aI f)))], [((x 1), .inl (g.2 0, 4, .inl (aI m_)))]] := hD
            refine z_toI 5 rfl ?_
            refine z_icmp_ge (tgt := 63) hx hb (by decide) (by decide) dX7_isWord_33 (by decide) (fun c20 => absurd c20 (by decide)) (fun c20 => ?_)
            refine lv_aload_n hx hb dX7_isWord_36 rfl (lv_at hl 1 rfl) ?_
            refine z_get hx hb hts hin7_ hown hK hP 0 rfl rfl 0 (by decide) (hts _ (List.mem_of_getElem? (i := 4) rfl)) rfl dX7_isWord_37 ?_
            refine lv_aload_n hx hb dX7_isWord_40 rfl (lv_at hl 1 rfl) ?_
            refine z_get hx hb hts hin7_ hown hK hP 0 rfl rfl 4 (by decide) (hts _ (List.mem_of_getElem? (i := 3) rfl)) rfl dX7_isWord_41 ?_
            refine lv_iload_n hx hb dX7_isWord_44 rfl (lv_at hl 0 rfl) ?_
            refine z_iadd hx hb (((s_ + 3) : Nat) : Int) (by omega) dX7_isWord_45 ?_
            have hz_21 := hf (s_ + 3)
            refine z_iald hx hb hK hP 1 rfl (s_ + 3) (by omega) (by omega) (by decide) dX7_isWord_46 ?_
            refine lv_aload_n hx hb dX7_isWord_47 rfl (lv_at hl 2 rfl) ?_
            refine lv_iload_n hx hb dX7_isWord_48 rfl (lv_at hl 0 rfl) ?_
            refine z_xRi (As := [vI 3]) (rest := [vI (f (s_ + 3))]) ⟨hx, hb, hml, hown, hts⟩ hK hP hD hS hA [] [0, 1, 2] rfl rfl rfl (c_J0_charAt_5068e l g a av wRel 3 97 (by decide) (by decide) rfl) (cwV 1 hts gX7_isWord_J0_charAt_5068e rfl rfl rfl (by decide +kernel) ⟨Nat.le_of_ble_eq_true rfl, Nat.le_of_ble_eq_true rfl⟩) (va_Orecv hXX.2.2.1 hS) zXS_b (zXS_s hXX hS) rfl hl.1 (Nat.le_of_ble_eq_true rfl) rfl dX7_isWord_49 ⟨Nat.le_of_ble_eq_true rfl, Nat.le_of_ble_eq_true rfl⟩ (fun u_22 H locs hwu_22 hP hD hS => ?_)
            try dsimp only at hwu_22
            have hP : zP g [[(q, .inr (7, [.ref (x 0), vI ((n : Nat) : Int), vI ((c_ : Nat) : Int), vI ((k : Nat) : Int), vI ((s_ : Nat) : Int), vI ((e_ : Nat) : Int), .ref (x 1)]))], [((x 0), .inl (g.2 0, 200, .inl (aI f)))], [((x 1), .inl (g.2 0, 4, .inl (aI m_)))]] H := hP
            have hD : zD A [[(q, .inr (7, [.ref (x 0), vI ((n : Nat) : Int), vI ((c_ : Nat) : Int), vI ((k : Nat) : Int), vI ((s_ : Nat) : Int), vI ((e_ : Nat) : Int), .ref (x 1)]))], [((x 0), .inl (g.2 0, 200, .inl (aI f)))], [((x 1), .inl (g.2 0, 4, .inl (aI m_)))]] := hD
            refine z_toI 97 rfl ?_
            refine z_icmp_eq (tgt := 57) hx hb (by omega) (by decide) dX7_isWord_52 (by decide) (fun c23 => ?_) (fun c23 => ?_)
            · refine z_iinc hx hb 4 (lv' := [(2, vI 4), (0, .ref q), (1, .ref a)]) dX7_isWord_57 hl (k := 0) rfl (rfl) (by decide) rfl (fun ls hl => ?_)
              refine lv_goto (tgt := 28) hx hb dX7_isWord_60 (by decide) ?_
              refine lv_iload_n hx hb dX7_isWord_28 rfl (lv_at hl 0 rfl) ?_
              refine lv_aload_n hx hb dX7_isWord_29 rfl (lv_at hl 2 rfl) ?_
              refine z_xRi (As := []) (rest := [vI 4]) ⟨hx, hb, hml, hown, hts⟩ hK hP hD hS hA [] [0, 1, 2] rfl rfl rfl (c_J0_length_8abf5 l g a av wRel 5 rfl) (cwV 0 hts gX7_isWord_J0_length_8abf5 rfl rfl rfl (by decide +kernel) ⟨Nat.le_of_ble_eq_true rfl, Nat.le_of_ble_eq_true rfl⟩) (va_Orecv hXX.2.2.1 hS) zXS_b (zXS_s hXX hS) rfl hl.1 (Nat.le_of_ble_eq_true rfl) rfl dX7_isWord_30 ⟨Nat.le_of_ble_eq_true rfl, Nat.le_of_ble_eq_true rfl⟩ (fun u_24 H locs hwu_24 hP hD hS => ?_)
              try dsimp only at hwu_24
              have hP : zP g [[(q, .inr (7, [.ref (x 0), vI ((n : Nat) : Int), vI ((c_ : Nat) : Int), vI ((k : Nat) : Int), vI ((s_ : Nat) : Int), vI ((e_ : Nat) : Int), .ref (x 1)]))], [((x 0), .inl (g.2 0, 200, .inl (aI f)))], [((x 1), .inl (g.2 0, 4, .inl (aI m_)))]] H := hP
              have hD : zD A [[(q, .inr (7, [.ref (x 0), vI ((n : Nat) : Int), vI ((c_ : Nat) : Int), vI ((k : Nat) : Int), vI ((s_ : Nat) : Int), vI ((e_ : Nat) : Int), .ref (x 1)]))], [((x 0), .inl (g.2 0, 200, .inl (aI f)))], [((x 1), .inl (g.2 0, 4, .inl (aI m_)))]] := hD
              refine z_toI 5 rfl ?_
              refine z_icmp_ge (tgt := 63) hx hb (by decide) (by decide) dX7_isWord_33 (by decide) (fun c25 => absurd c25 (by decide)) (fun c25 => ?_)
              refine lv_aload_n hx hb dX7_isWord_36 rfl (lv_at hl 1 rfl) ?_
              refine z_get hx hb hts hin7_ hown hK hP 0 rfl rfl 0 (by decide) (hts _ (List.mem_of_getElem? (i := 4) rfl)) rfl dX7_isWord_37 ?_
              refine lv_aload_n hx hb dX7_isWord_40 rfl (lv_at hl 1 rfl) ?_
              refine z_get hx hb hts hin7_ hown hK hP 0 rfl rfl 4 (by decide) (hts _ (List.mem_of_getElem? (i := 3) rfl)) rfl dX7_isWord_41 ?_
              refine lv_iload_n hx hb dX7_isWord_44 rfl (lv_at hl 0 rfl) ?_
              refine z_iadd hx hb (((s_ + 4) : Nat) : Int) (by omega) dX7_isWord_45 ?_
              have hz_26 := hf (s_ + 4)
              refine z_iald hx hb hK hP 1 rfl (s_ + 4) (by omega) (by omega) (by decide) dX7_isWord_46 ?_
              refine lv_aload_n hx hb dX7_isWord_47 rfl (lv_at hl 2 rfl) ?_
              refine lv_iload_n hx hb dX7_isWord_48 rfl (lv_at hl 0 rfl) ?_
              refine z_xRi (As := [vI 4]) (rest := [vI (f (s_ + 4))]) ⟨hx, hb, hml, hown, hts⟩ hK hP hD hS hA [] [0, 1, 2] rfl rfl rfl (c_J0_charAt_5068e l g a av wRel 4 121 (by decide) (by decide) rfl) (cwV 1 hts gX7_isWord_J0_charAt_5068e rfl rfl rfl (by decide +kernel) ⟨Nat.le_of_ble_eq_true rfl, Nat.le_of_ble_eq_true rfl⟩) (va_Orecv hXX.2.2.1 hS) zXS_b (zXS_s hXX hS) rfl hl.1 (Nat.le_of_ble_eq_true rfl) rfl dX7_isWord_49 ⟨Nat.le_of_ble_eq_true rfl, Nat.le_of_ble_eq_true rfl⟩ (fun u_27 H locs hwu_27 hP hD hS => ?_)
              try dsimp only at hwu_27
              have hP : zP g [[(q, .inr (7, [.ref (x 0), vI ((n : Nat) : Int), vI ((c_ : Nat) : Int), vI ((k : Nat) : Int), vI ((s_ : Nat) : Int), vI ((e_ : Nat) : Int), .ref (x 1)]))], [((x 0), .inl (g.2 0, 200, .inl (aI f)))], [((x 1), .inl (g.2 0, 4, .inl (aI m_)))]] H := hP
              have hD : zD A [[(q, .inr (7, [.ref (x 0), vI ((n : Nat) : Int), vI ((c_ : Nat) : Int), vI ((k : Nat) : Int), vI ((s_ : Nat) : Int), vI ((e_ : Nat) : Int), .ref (x 1)]))], [((x 0), .inl (g.2 0, 200, .inl (aI f)))], [((x 1), .inl (g.2 0, 4, .inl (aI m_)))]] := hD
              refine z_toI 121 rfl ?_
              refine z_icmp_eq (tgt := 57) hx hb (by omega) (by decide) dX7_isWord_52 (by decide) (fun c28 => ?_) (fun c28 => ?_)
              · refine z_iinc hx hb 5 (lv' := [(2, vI 5), (0, .ref q), (1, .ref a)]) dX7_isWord_57 hl (k := 0) rfl (rfl) (by decide) rfl (fun ls hl => ?_)
                refine lv_goto (tgt := 28) hx hb dX7_isWord_60 (by decide) ?_
                refine lv_iload_n hx hb dX7_isWord_28 rfl (lv_at hl 0 rfl) ?_
                refine lv_aload_n hx hb dX7_isWord_29 rfl (lv_at hl 2 rfl) ?_
                refine z_xRi (As := []) (rest := [vI 5]) ⟨hx, hb, hml, hown, hts⟩ hK hP hD hS hA [] [0, 1, 2] rfl rfl rfl (c_J0_length_8abf5 l g a av wRel 5 rfl) (cwV 0 hts gX7_isWord_J0_length_8abf5 rfl rfl rfl (by decide +kernel) ⟨Nat.le_of_ble_eq_true rfl, Nat.le_of_ble_eq_true rfl⟩) (va_Orecv hXX.2.2.1 hS) zXS_b (zXS_s hXX hS) rfl hl.1 (Nat.le_of_ble_eq_true rfl) rfl dX7_isWord_30 ⟨Nat.le_of_ble_eq_true rfl, Nat.le_of_ble_eq_true rfl⟩ (fun u_29 H locs hwu_29 hP hD hS => ?_)
                try dsimp only at hwu_29
                have hP : zP g [[(q, .inr (7, [.ref (x 0), vI ((n : Nat) : Int), vI ((c_ : Nat) : Int), vI ((k : Nat) : Int), vI ((s_ : Nat) : Int), vI ((e_ : Nat) : Int), .ref (x 1)]))], [((x 0), .inl (g.2 0, 200, .inl (aI f)))], [((x 1), .inl (g.2 0, 4, .inl (aI m_)))]] H := hP
                have hD : zD A [[(q, .inr (7, [.ref (x 0), vI ((n : Nat) : Int), vI ((c_ : Nat) : Int), vI ((k : Nat) : Int), vI ((s_ : Nat) : Int), vI ((e_ : Nat) : Int), .ref (x 1)]))], [((x 0), .inl (g.2 0, 200, .inl (aI f)))], [((x 1), .inl (g.2 0, 4, .inl (aI m_)))]] := hD
                refine z_toI 5 rfl ?_
                refine z_icmp_ge (tgt := 63) hx hb (by decide) (by decide) dX7_isWord_33 (by decide) (fun c30 => ?_) (fun c30 => absurd (by decide) c30)
                refine z_iconst hx hb dX7_isWord_63 rfl ?_
                have hP : zP g [(textW g q x n c_ k s_ e_ f m_)] H := hP
                have hD : zD A [(textW g q x n c_ k s_ e_ f m_)] := hD
                exact z_reti () [0] hx hb hr (nar_z (by first | decide | omega)) hlocks hK hP hD hS (by have := wdR_s f k s_ e_; omega) trivial rfl rfl (rfl) (Nat.le_of_ble_eq_true rfl) (Nat.le_of_ble_eq_true rfl) dX7_isWord_64
              · refine z_iconst hx hb dX7_isWord_55 rfl ?_
                have hP : zP g [(textW g q x n c_ k s_ e_ f m_)] H := hP
                have hD : zD A [(textW g q x n c_ k s_ e_ f m_)] := hD
                exact z_reti () [0] hx hb hr (nar_z (by first | decide | omega)) hlocks hK hP hD hS (by have := wdR_s f k s_ e_; omega) trivial rfl rfl (rfl) (Nat.le_of_ble_eq_true rfl) (Nat.le_of_ble_eq_true rfl) dX7_isWord_56
            · refine z_iconst hx hb dX7_isWord_55 rfl ?_
              have hP : zP g [(textW g q x n c_ k s_ e_ f m_)] H := hP
              have hD : zD A [(textW g q x n c_ k s_ e_ f m_)] := hD
              exact z_reti () [0] hx hb hr (nar_z (by first | decide | omega)) hlocks hK hP hD hS (by have := wdR_s f k s_ e_; omega) trivial rfl rfl (rfl) (Nat.le_of_ble_eq_true rfl) (Nat.le_of_ble_eq_true rfl) dX7_isWord_56
          · refine z_iconst hx hb dX7_isWord_55 rfl ?_
            have hP : zP g [(textW g q x n c_ k s_ e_ f m_)] H := hP
            have hD : zD A [(textW g q x n c_ k s_ e_ f m_)] := hD
            exact z_reti () [0] hx hb hr (nar_z (by first | decide | omega)) hlocks hK hP hD hS (by have := wdR_s f k s_ e_; omega) trivial rfl rfl (rfl) (Nat.le_of_ble_eq_true rfl) (Nat.le_of_ble_eq_true rfl) dX7_isWord_56
        · refine z_iconst hx hb dX7_isWord_55 rfl ?_
          have hP : zP g [(textW g q x n c_ k s_ e_ f m_)] H := hP
          have hD : zD A [(textW g q x n c_ k s_ e_ f m_)] := hD
          exact z_reti () [0] hx hb hr (nar_z (by first | decide | omega)) hlocks hK hP hD hS (by have := wdR_s f k s_ e_; omega) trivial rfl rfl (rfl) (Nat.le_of_ble_eq_true rfl) (Nat.le_of_ble_eq_true rfl) dX7_isWord_56
      · refine z_iconst hx hb dX7_isWord_55 rfl ?_
        have hP : zP g [(textW g q x n c_ k s_ e_ f m_)] H := hP
        have hD : zD A [(textW g q x n c_ k s_ e_ f m_)] := hD
        exact z_reti () [0] hx hb hr (nar_z (by first | decide | omega)) hlocks hK hP hD hS (by have := wdR_s f k s_ e_; omega) trivial rfl rfl (rfl) (Nat.le_of_ble_eq_true rfl) (Nat.le_of_ble_eq_true rfl) dX7_isWord_56
    · refine z_iconst hx hb dX7_isWord_24 rfl ?_
      have hP : zP g [(textW g q x n c_ k s_ e_ f m_)] H := hP
      have hD : zD A [(textW g q x n c_ k s_ e_ f m_)] := hD
      exact z_reti () [0] hx hb hr (nar_z (by first | decide | omega)) hlocks hK hP hD hS (by have := wdR_s f k s_ e_; omega) trivial rfl rfl (rfl) (Nat.le_of_ble_eq_true rfl) (Nat.le_of_ble_eq_true rfl) dX7_isWord_25
