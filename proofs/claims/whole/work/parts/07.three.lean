set_option maxHeartbeats 4000000 in
set_option maxRecDepth 100000 in
theorem c_X4_become (l : Launch) (g : zG) (n : Nat) (na : Nat) (nb : Nat) (v0 : FO) (v1 : FO) (o : Nat) (oa : Nat) (ob : Nat) (w0 : FO) (w1 : FO) (h0 : fok w0) (h1 : fok w1) : zMet l g yX4_become wsX4_become 1 0 0 [.ref n, .ref o] zX0 [[(n, .inr (4, [.ref na, .ref nb]))], [fr na v0], [fr nb v1], [(o, .inr (4, [.ref oa, .ref ob]))], [fr oa w0], [fr ob w1]] (qv g (fun (_ : Unit) => True) (fun (_ : Unit) => [[(n, .inr (4, [.ref na, .ref nb]))], [fr na w0], [fr nb w1], [(o, .inr (4, [.ref oa, .ref ob]))], [fr oa w0], [fr ob w1]])) := by
  refine z_ent (cc := cX4_become) (maxL := 2) (ret := none) (by decide) rfl (Nat.le_of_ble_eq_true rfl) ?_
  intro p e s m below meth c A ls hx hb hr hml hown hts hlocks hin0 hA hK hP hD hS hXX hl
  have hown : s.vm.findClass RX4 = some m.cls := hown
  have hin4_ : ∀ w ∈ wsX40, w ∈ wsX4_become := zw_in [11, 12] rfl
  have hl : lv_has ls 2 [(0, .ref n), (1, .ref o)] := hl
  refine lv_aload_n hx hb dX4_become_0 rfl (lv_at hl 0 rfl) ?_
  refine z_get hx hb hts hin4_ hown hK hP 0 rfl rfl 0 (by decide) (hts _ (List.mem_of_getElem? (i := 1) rfl)) rfl dX4_become_1 ?_
  refine lv_aload_n hx hb dX4_become_4 rfl (lv_at hl 1 rfl) ?_
  refine z_get hx hb hts hin4_ hown hK hP 3 rfl rfl 0 (by decide) (hts _ (List.mem_of_getElem? (i := 1) rfl)) rfl dX4_become_5 ?_
  refine z_cVv (As := [.ref oa]) (rest := []) ⟨hx, hb, hml, hown, hts⟩ hK hP hD hS hA [1, 4] [0, 2, 3, 5] rfl rfl rfl (c_X1_become l g na v0 oa w0 (by first | assumption | (repeat (first | assumption | exact ht _ | exact hu _ | refine fok_fadd ?_ ?_ | refine fok_fneg ?_ | refine fok_fmul ?_ ?_ | refine fok_fthird ?_ | exact fok_none)))) (cwV 1 hts gX4_become_X1_become rfl rfl rfl (by decide +kernel) ⟨Nat.le_of_ble_eq_true rfl, Nat.le_of_ble_eq_true rfl⟩) 1 0 rfl rfl rfl (fun _ _ _ _ _ _ => trivial) (fun _ _ _ => trivial) rfl hl.1 (Nat.le_of_ble_eq_true rfl) rfl dX4_become_8 ⟨Nat.le_of_ble_eq_true rfl, Nat.le_of_ble_eq_true rfl⟩ (fun u_1 H locs hwu_1 hP hD hS => ?_)
  try dsimp only at hwu_1
  have hP : zP g [[(n, .inr (4, [.ref na, .ref nb]))], [fr nb v1], [(o, .inr (4, [.ref oa, .ref ob]))], [fr ob w1], [fr na w0], [fr oa w0]] H := hP
  have hD : zD A [[(n, .inr (4, [.ref na, .ref nb]))], [fr nb v1], [(o, .inr (4, [.ref oa, .ref ob]))], [fr ob w1], [fr na w0], [fr oa w0]] := hD
  refine lv_aload_n hx hb dX4_become_11 rfl (lv_at hl 0 rfl) ?_
  refine z_get hx hb hts hin4_ hown hK hP 0 rfl rfl 1 (by decide) (hts _ (List.mem_of_getElem? (i := 2) rfl)) rfl dX4_become_12 ?_
  refine lv_aload_n hx hb dX4_become_15 rfl (lv_at hl 1 rfl) ?_
  refine z_get hx hb hts hin4_ hown hK hP 2 rfl rfl 1 (by decide) (hts _ (List.mem_of_getElem? (i := 2) rfl)) rfl dX4_become_16 ?_
  refine z_cVv (As := [.ref ob]) (rest := []) ⟨hx, hb, hml, hown, hts⟩ hK hP hD hS hA [1, 3] [0, 2, 4, 5] rfl rfl rfl (c_X1_become l g nb v1 ob w1 (by first | assumption | (repeat (first | assumption | exact ht _ | exact hu _ | refine fok_fadd ?_ ?_ | refine fok_fneg ?_ | refine fok_fmul ?_ ?_ | refine fok_fthird ?_ | exact fok_none)))) (cwV 1 hts gX4_become_X1_become rfl rfl rfl (by decide +kernel) ⟨Nat.le_of_ble_eq_true rfl, Nat.le_of_ble_eq_true rfl⟩) 1 0 rfl rfl rfl (fun _ _ _ _ _ _ => trivial) (fun _ _ _ => trivial) rfl hl.1 (Nat.le_of_ble_eq_true rfl) rfl dX4_become_19 ⟨Nat.le_of_ble_eq_true rfl, Nat.le_of_ble_eq_true rfl⟩ (fun u_2 H locs hwu_2 hP hD hS => ?_)
  try dsimp only at hwu_2
  have hP : zP g [[(n, .inr (4, [.ref na, .ref nb]))], [(o, .inr (4, [.ref oa, .ref ob]))], [fr na w0], [fr oa w0], [fr nb w1], [fr ob w1]] H := hP
  have hD : zD A [[(n, .inr (4, [.ref na, .ref nb]))], [(o, .inr (4, [.ref oa, .ref ob]))], [fr na w0], [fr oa w0], [fr nb w1], [fr ob w1]] := hD
  exact z_retv () [0, 2, 4, 1, 3, 5] hx hb hr hlocks hK hP hD hS trivial rfl rfl (rfl) (Nat.le_of_ble_eq_true rfl) (Nat.le_of_ble_eq_true rfl) dX4_become_22

set_option maxHeartbeats 4000000 in
set_option maxRecDepth 100000 in
theorem c_X4_clear (l : Launch) (g : zG) (n : Nat) (na : Nat) (nb : Nat) (v0 : FO) (v1 : FO)  : zMet l g yX4_clear wsX4_clear 2 0 0 [.ref n] zX0 [[(n, .inr (4, [.ref na, .ref nb]))], [fr na v0], [fr nb v1]] (qv g (fun (_ : Unit) => True) (fun (_ : Unit) => [[(n, .inr (4, [.ref na, .ref nb]))], [fr na (some (0, 1))], [fr nb (some (0, 1))]])) := by
  refine z_ent (cc := cX4_clear) (maxL := 1) (ret := none) (by decide) rfl (Nat.le_of_ble_eq_true rfl) ?_
  intro p e s m below meth c A ls hx hb hr hml hown hts hlocks hin0 hA hK hP hD hS hXX hl
  have hown : s.vm.findClass RX4 = some m.cls := hown
  have hin4_ : ∀ w ∈ wsX40, w ∈ wsX4_clear := zw_in [20, 21] rfl
  have hl : lv_has ls 1 [(0, .ref n)] := hl
  refine lv_aload_n hx hb dX4_clear_0 rfl (lv_at hl 0 rfl) ?_
  refine z_get hx hb hts hin4_ hown hK hP 0 rfl rfl 0 (by decide) (hts _ (List.mem_of_getElem? (i := 1) rfl)) rfl dX4_clear_1 ?_
  refine z_lconst hx hb 0 dX4_clear_4 rfl ?_
  refine z_lconst hx hb 1 dX4_clear_5 rfl ?_
  refine z_cVv (As := [vL 0, vL 1]) (rest := []) ⟨hx, hb, hml, hown, hts⟩ hK hP hD hS hA [1] [0, 2] rfl rfl rfl (c_X1_become_ l g na v0 0 1 (by first | assumption | omega | decide) (by first | assumption | omega | decide)) (cwV 2 hts gX4_clear_X1_become_ rfl rfl rfl (by decide +kernel) ⟨Nat.le_of_ble_eq_true rfl, Nat.le_of_ble_eq_true rfl⟩) 1 0 rfl rfl rfl (fun _ _ _ _ _ _ => trivial) (fun _ _ _ => trivial) rfl hl.1 (Nat.le_of_ble_eq_true rfl) rfl dX4_clear_6 ⟨Nat.le_of_ble_eq_true rfl, Nat.le_of_ble_eq_true rfl⟩ (fun u_1 H locs hwu_1 hP hD hS => ?_)
  try dsimp only at hwu_1
  have hP : zP g [[(n, .inr (4, [.ref na, .ref nb]))], [fr nb v1], [fr na (fmk 0 1)]] H := hP
  have hD : zD A [[(n, .inr (4, [.ref na, .ref nb]))], [fr nb v1], [fr na (fmk 0 1)]] := hD
  refine lv_aload_n hx hb dX4_clear_9 rfl (lv_at hl 0 rfl) ?_
  refine z_get hx hb hts hin4_ hown hK hP 0 rfl rfl 1 (by decide) (hts _ (List.mem_of_getElem? (i := 2) rfl)) rfl dX4_clear_10 ?_
  refine z_lconst hx hb 0 dX4_clear_13 rfl ?_
  refine z_lconst hx hb 1 dX4_clear_14 rfl ?_
  refine z_cVv (As := [vL 0, vL 1]) (rest := []) ⟨hx, hb, hml, hown, hts⟩ hK hP hD hS hA [1] [0, 2] rfl rfl rfl (c_X1_become_ l g nb v1 0 1 (by first | assumption | omega | decide) (by first | assumption | omega | decide)) (cwV 2 hts gX4_clear_X1_become_ rfl rfl rfl (by decide +kernel) ⟨Nat.le_of_ble_eq_true rfl, Nat.le_of_ble_eq_true rfl⟩) 1 0 rfl rfl rfl (fun _ _ _ _ _ _ => trivial) (fun _ _ _ => trivial) rfl hl.1 (Nat.le_of_ble_eq_true rfl) rfl dX4_clear_15 ⟨Nat.le_of_ble_eq_true rfl, Nat.le_of_ble_eq_true rfl⟩ (fun u_2 H locs hwu_2 hP hD hS => ?_)
  try dsimp only at hwu_2
  have hP : zP g [[(n, .inr (4, [.ref na, .ref nb]))], [fr na (fmk 0 1)], [fr nb (fmk 0 1)]] H := hP
  have hD : zD A [[(n, .inr (4, [.ref na, .ref nb]))], [fr na (fmk 0 1)], [fr nb (fmk 0 1)]] := hD
  exact z_retv () [0, 1, 2] hx hb hr hlocks hK hP hD hS trivial rfl rfl (by rw [← fmk01]; rfl) (Nat.le_of_ble_eq_true rfl) (Nat.le_of_ble_eq_true rfl) dX4_clear_18

set_option maxHeartbeats 4000000 in
set_option maxRecDepth 100000 in
theorem c_X4_add (l : Launch) (g : zG) (n : Nat) (na : Nat) (nb : Nat) (v0 : FO) (v1 : FO) (o : Nat) (oa : Nat) (ob : Nat) (w0 : FO) (w1 : FO) (k : Int) (h0 : fok v0) (h1 : fok v1) (h2 : fok w0) (h3 : fok w1) (hk : k = 1 ∨ k = -1) : zMet l g yX4_add wsX4_add 3 0 0 [.ref n, .ref o, vI k] zX0 [[(n, .inr (4, [.ref na, .ref nb]))], [fr na v0], [fr nb v1], [(o, .inr (4, [.ref oa, .ref ob]))], [fr oa w0], [fr ob w1]] (qv g (fun (_ : Unit) => True) (fun (_ : Unit) => [[(n, .inr (4, [.ref na, .ref nb]))], [fr na (fadd k v0 w0)], [fr nb (fadd k v1 w1)], [(o, .inr (4, [.ref oa, .ref ob]))], [fr oa w0], [fr ob w1]])) := by
  refine z_ent (cc := cX4_add) (maxL := 3) (ret := none) (by decide) rfl (Nat.le_of_ble_eq_true rfl) ?_
  intro p e s m below meth c A ls hx hb hr hml hown hts hlocks hin0 hA hK hP hD hS hXX hl
  have hown : s.vm.findClass RX4 = some m.cls := hown
  have hin4_ : ∀ w ∈ wsX40, w ∈ wsX4_add := zw_in [24, 25] rfl
  have hl : lv_has ls 3 [(0, .ref n), (1, .ref o), (2, vI k)] := hl
  refine lv_aload_n hx hb dX4_add_0 rfl (lv_at hl 0 rfl) ?_
  refine z_get hx hb hts hin4_ hown hK hP 0 rfl rfl 0 (by decide) (hts _ (List.mem_of_getElem? (i := 1) rfl)) rfl dX4_add_1 ?_
  refine lv_aload_n hx hb dX4_add_4 rfl (lv_at hl 1 rfl) ?_
  refine z_get hx hb hts hin4_ hown hK hP 3 rfl rfl 0 (by decide) (hts _ (List.mem_of_getElem? (i := 1) rfl)) rfl dX4_add_5 ?_
  refine lv_iload_n hx hb dX4_add_8 rfl (lv_at hl 2 rfl) ?_
  refine z_cVv (As := [.ref oa, vI k]) (rest := []) ⟨hx, hb, hml, hown, hts⟩ hK hP hD hS hA [1, 4] [0, 2, 3, 5] rfl rfl rfl (c_X1_add l g na v0 oa w0 k (by first | assumption | (repeat (first | assumption | exact ht _ | exact hu _ | refine fok_fadd ?_ ?_ | refine fok_fneg ?_ | refine fok_fmul ?_ ?_ | refine fok_fthird ?_ | exact fok_none))) (by first | assumption | (repeat (first | assumption | exact ht _ | exact hu _ | refine fok_fadd ?_ ?_ | refine fok_fneg ?_ | refine fok_fmul ?_ ?_ | refine fok_fthird ?_ | exact fok_none))) (by first | assumption | omega | decide)) (cwV 2 hts gX4_add_X1_add rfl rfl rfl (by decide +kernel) ⟨Nat.le_of_ble_eq_true rfl, Nat.le_of_ble_eq_true rfl⟩) 1 0 rfl rfl rfl (fun _ _ _ _ _ _ => trivial) (fun _ _ _ => trivial) rfl hl.1 (Nat.le_of_ble_eq_true rfl) rfl dX4_add_9 ⟨Nat.le_of_ble_eq_true rfl, Nat.le_of_ble_eq_true rfl⟩ (fun u_1 H locs hwu_1 hP hD hS => ?_)
  try dsimp only at hwu_1
  have hP : zP g [[(n, .inr (4, [.ref na, .ref nb]))], [fr nb v1], [(o, .inr (4, [.ref oa, .ref ob]))], [fr ob w1], [fr na (fadd k v0 w0)], [fr oa w0]] H := hP
  have hD : zD A [[(n, .inr (4, [.ref na, .ref nb]))], [fr nb v1], [(o, .inr (4, [.ref oa, .ref ob]))], [fr ob w1], [fr na (fadd k v0 w0)], [fr oa w0]] := hD
  refine lv_aload_n hx hb dX4_add_12 rfl (lv_at hl 0 rfl) ?_
  refine z_get hx hb hts hin4_ hown hK hP 0 rfl rfl 1 (by decide) (hts _ (List.mem_of_getElem? (i := 2) rfl)) rfl dX4_add_13 ?_
  refine lv_aload_n hx hb dX4_add_16 rfl (lv_at hl 1 rfl) ?_
  refine z_get hx hb hts hin4_ hown hK hP 2 rfl rfl 1 (by decide) (hts _ (List.mem_of_getElem? (i := 2) rfl)) rfl dX4_add_17 ?_
  refine lv_iload_n hx hb dX4_add_20 rfl (lv_at hl 2 rfl) ?_
  refine z_cVv (As := [.ref ob, vI k]) (rest := []) ⟨hx, hb, hml, hown, hts⟩ hK hP hD hS hA [1, 3] [0, 2, 4, 5] rfl rfl rfl (c_X1_add l g nb v1 ob w1 k (by first | assumption | (repeat (first | assumption | exact ht _ | exact hu _ | refine fok_fadd ?_ ?_ | refine fok_fneg ?_ | refine fok_fmul ?_ ?_ | refine fok_fthird ?_ | exact fok_none))) (by first | assumption | (repeat (first | assumption | exact ht _ | exact hu _ | refine fok_fadd ?_ ?_ | refine fok_fneg ?_ | refine fok_fmul ?_ ?_ | refine fok_fthird ?_ | exact fok_none))) (by first | assumption | omega | decide)) (cwV 2 hts gX4_add_X1_add rfl rfl rfl (by decide +kernel) ⟨Nat.le_of_ble_eq_true rfl, Nat.le_of_ble_eq_true rfl⟩) 1 0 rfl rfl rfl (fun _ _ _ _ _ _ => trivial) (fun _ _ _ => trivial) rfl hl.1 (Nat.le_of_ble_eq_true rfl) rfl dX4_add_21 ⟨Nat.le_of_ble_eq_true rfl, Nat.le_of_ble_eq_true rfl⟩ (fun u_2 H locs hwu_2 hP hD hS => ?_)
  try dsimp only at hwu_2
  have hP : zP g [[(n, .inr (4, [.ref na, .ref nb]))], [(o, .inr (4, [.ref oa, .ref ob]))], [fr na (fadd k v0 w0)], [fr oa w0], [fr nb (fadd k v1 w1)], [fr ob w1]] H := hP
  have hD : zD A [[(n, .inr (4, [.ref na, .ref nb]))], [(o, .inr (4, [.ref oa, .ref ob]))], [fr na (fadd k v0 w0)], [fr oa w0], [fr nb (fadd k v1 w1)], [fr ob w1]] := hD
  exact z_retv () [0, 2, 4, 1, 3, 5] hx hb hr hlocks hK hP hD hS trivial rfl rfl (rfl) (Nat.le_of_ble_eq_true rfl) (Nat.le_of_ble_eq_true rfl) dX4_add_24

set_option maxHeartbeats 4000000 in
set_option maxRecDepth 100000 in
theorem c_X4_rotateOnce (l : Launch) (g : zG) (n : Nat) (na : Nat) (nb : Nat) (v0 : FO) (v1 : FO) (h0 : fok v0) (h1 : fok v1) : zMet l g yX4_rotateOnce wsX4_rotateOnce 3 0 0 [.ref n] zX0 [[(n, .inr (4, [.ref na, .ref nb]))], [fr na v0], [fr nb v1]] (qv g (fun (_ : Unit) => True) (fun (_ : Unit) => [[(n, .inr (4, [.ref nb, .ref na]))], [fr nb (fneg v1)], [fr na (fadd (-1) v0 v1)]])) := by
  refine z_ent (cc := cX4_rotateOnce) (maxL := 2) (ret := none) (by decide) rfl (Nat.le_of_ble_eq_true rfl) ?_
  intro p e s m below meth c A ls hx hb hr hml hown hts hlocks hin0 hA hK hP hD hS hXX hl
  have hown : s.vm.findClass RX4 = some m.cls := hown
  have hin4_ : ∀ w ∈ wsX40, w ∈ wsX4_rotateOnce := zw_in [28, 29] rfl
  have hl : lv_has ls 2 [(0, .ref n)] := hl
  refine lv_aload_n hx hb dX4_rotateOnce_0 rfl (lv_at hl 0 rfl) ?_
  refine z_get hx hb hts hin4_ hown hK hP 0 rfl rfl 0 (by decide) (hts _ (List.mem_of_getElem? (i := 1) rfl)) rfl dX4_rotateOnce_1 ?_
  refine lv_aload_n hx hb dX4_rotateOnce_4 rfl (lv_at hl 0 rfl) ?_
  refine z_get hx hb hts hin4_ hown hK hP 0 rfl rfl 1 (by decide) (hts _ (List.mem_of_getElem? (i := 2) rfl)) rfl dX4_rotateOnce_5 ?_
  refine z_iconst hx hb dX4_rotateOnce_8 rfl ?_
  refine z_cVv (As := [.ref nb, vI (-1)]) (rest := []) ⟨hx, hb, hml, hown, hts⟩ hK hP hD hS hA [1, 2] [0] rfl rfl rfl (c_X1_add l g na v0 nb v1 (-1) (by first | assumption | (repeat (first | assumption | exact ht _ | exact hu _ | refine fok_fadd ?_ ?_ | refine fok_fneg ?_ | refine fok_fmul ?_ ?_ | refine fok_fthird ?_ | exact fok_none))) (by first | assumption | (repeat (first | assumption | exact ht _ | exact hu _ | refine fok_fadd ?_ ?_ | refine fok_fneg ?_ | refine fok_fmul ?_ ?_ | refine fok_fthird ?_ | exact fok_none))) (by first | assumption | omega | decide)) (cwV 2 hts gX4_rotateOnce_X1_add rfl rfl rfl (by decide +kernel) ⟨Nat.le_of_ble_eq_true rfl, Nat.le_of_ble_eq_true rfl⟩) 1 0 rfl rfl rfl (fun _ _ _ _ _ _ => trivial) (fun _ _ _ => trivial) rfl hl.1 (Nat.le_of_ble_eq_true rfl) rfl dX4_rotateOnce_9 ⟨Nat.le_of_ble_eq_true rfl, Nat.le_of_ble_eq_true rfl⟩ (fun u_1 H locs hwu_1 hP hD hS => ?_)
  try dsimp only at hwu_1
  have hP : zP g [[(n, .inr (4, [.ref na, .ref nb]))], [fr na (fadd (-1) v0 v1)], [fr nb v1]] H := hP
  have hD : zD A [[(n, .inr (4, [.ref na, .ref nb]))], [fr na (fadd (-1) v0 v1)], [fr nb v1]] := hD
  refine lv_aload_n hx hb dX4_rotateOnce_12 rfl (lv_at hl 0 rfl) ?_
  refine z_get hx hb hts hin4_ hown hK hP 0 rfl rfl 1 (by decide) (hts _ (List.mem_of_getElem? (i := 2) rfl)) rfl dX4_rotateOnce_13 ?_
  refine z_cVv (As := []) (rest := []) ⟨hx, hb, hml, hown, hts⟩ hK hP hD hS hA [2] [0, 1] rfl rfl rfl (c_X1_negate l g nb v1 ) (cwV 0 hts gX4_rotateOnce_X1_negate rfl rfl rfl (by decide +kernel) ⟨Nat.le_of_ble_eq_true rfl, Nat.le_of_ble_eq_true rfl⟩) 1 0 rfl rfl rfl (fun _ _ _ _ _ _ => trivial) (fun _ _ _ => trivial) rfl hl.1 (Nat.le_of_ble_eq_true rfl) rfl dX4_rotateOnce_16 ⟨Nat.le_of_ble_eq_true rfl, Nat.le_of_ble_eq_true rfl⟩ (fun u_2 H locs hwu_2 hP hD hS => ?_)
  try dsimp only at hwu_2
  have hP : zP g [[(n, .inr (4, [.ref na, .ref nb]))], [fr na (fadd (-1) v0 v1)], [fr nb (fneg v1)]] H := hP
  have hD : zD A [[(n, .inr (4, [.ref na, .ref nb]))], [fr na (fadd (-1) v0 v1)], [fr nb (fneg v1)]] := hD
  refine lv_aload_n hx hb dX4_rotateOnce_19 rfl (lv_at hl 0 rfl) ?_
  refine z_get hx hb hts hin4_ hown hK hP 0 rfl rfl 0 (by decide) (hts _ (List.mem_of_getElem? (i := 1) rfl)) rfl dX4_rotateOnce_20 ?_
  refine lv_astore_n (lv' := [(1, .ref na), (0, .ref n)]) hx hb dX4_rotateOnce_23 rfl hl (by decide) rfl (fun ls hl => ?_)
  refine lv_aload_n hx hb dX4_rotateOnce_24 rfl (lv_at hl 1 rfl) ?_
  refine lv_aload_n hx hb dX4_rotateOnce_25 rfl (lv_at hl 1 rfl) ?_
  refine z_get hx hb hts hin4_ hown hK hP 0 rfl rfl 1 (by decide) (hts _ (List.mem_of_getElem? (i := 2) rfl)) rfl dX4_rotateOnce_26 ?_
  refine z_put hx hb hts hin4_ tyX4 tyX4_ok nmX4 hown hK hP hD hS 0 rfl rfl 0 (by decide) (hts _ (List.mem_of_getElem? (i := 1) rfl)) rfl rfl rfl (Nat.le_of_ble_eq_true rfl) dX4_rotateOnce_29 [[(n, .inr (4, [.ref nb, .ref nb]))], [fr na (fadd (-1) v0 v1)], [fr nb (fneg v1)]] rfl (fun H locs hP hD hS => ?_)
  refine lv_aload_n hx hb dX4_rotateOnce_32 rfl (lv_at hl 1 rfl) ?_
  refine lv_aload_n hx hb dX4_rotateOnce_33 rfl (lv_at hl 0 rfl) ?_
  refine z_put hx hb hts hin4_ tyX4 tyX4_ok nmX4 hown hK hP hD hS 0 rfl rfl 1 (by decide) (hts _ (List.mem_of_getElem? (i := 2) rfl)) rfl rfl rfl (Nat.le_of_ble_eq_true rfl) dX4_rotateOnce_34 [[(n, .inr (4, [.ref nb, .ref na]))], [fr na (fadd (-1) v0 v1)], [fr nb (fneg v1)]] rfl (fun H locs hP hD hS => ?_)
  exact z_retv () [0, 2, 1] hx hb hr hlocks hK hP hD hS trivial rfl rfl (rfl) (Nat.le_of_ble_eq_true rfl) (Nat.le_of_ble_eq_true rfl) dX4_rotateOnce_37

set_option maxHeartbeats 4000000 in
set_option maxRecDepth 100000 in
theorem c_X4_divideByThree (l : Launch) (g : zG) (n : Nat) (na : Nat) (nb : Nat) (v0 : FO) (v1 : FO) (h0 : fok v0) (h1 : fok v1) : zMet l g yX4_divideByThree wsX4_divideByThree 3 0 0 [.ref n] zX0 [[(n, .inr (4, [.ref na, .ref nb]))], [fr na v0], [fr nb v1]] (qv g (fun (_ : Unit) => True) (fun (_ : Unit) => [[(n, .inr (4, [.ref na, .ref nb]))], [fr na (fthird v0)], [fr nb (fthird v1)]])) := by
  refine z_ent (cc := cX4_divideByThree) (maxL := 1) (ret := none) (by decide) rfl (Nat.le_of_ble_eq_true rfl) ?_
  intro p e s m below meth c A ls hx hb hr hml hown hts hlocks hin0 hA hK hP hD hS hXX hl
  have hown : s.vm.findClass RX4 = some m.cls := hown
  have hin4_ : ∀ w ∈ wsX40, w ∈ wsX4_divideByThree := zw_in [25, 26] rfl
  have hl : lv_has ls 1 [(0, .ref n)] := hl
  refine lv_aload_n hx hb dX4_divideByThree_0 rfl (lv_at hl 0 rfl) ?_
  refine z_get hx hb hts hin4_ hown hK hP 0 rfl rfl 0 (by decide) (hts _ (List.mem_of_getElem? (i := 1) rfl)) rfl dX4_divideByThree_1 ?_
  refine z_cVv (As := []) (rest := []) ⟨hx, hb, hml, hown, hts⟩ hK hP hD hS hA [1] [0, 2] rfl rfl rfl (c_X1_divideByThree l g na v0 (by first | assumption | (repeat (first | assumption | exact ht _ | exact hu _ | refine fok_fadd ?_ ?_ | refine fok_fneg ?_ | refine fok_fmul ?_ ?_ | refine fok_fthird ?_ | exact fok_none)))) (cwV 0 hts gX4_divideByThree_X1_divideByThree rfl rfl rfl (by decide +kernel) ⟨Nat.le_of_ble_eq_true rfl, Nat.le_of_ble_eq_true rfl⟩) 1 0 rfl rfl rfl (fun _ _ _ _ _ _ => trivial) (fun _ _ _ => trivial) rfl hl.1 (Nat.le_of_ble_eq_true rfl) rfl dX4_divideByThree_4 ⟨Nat.le_of_ble_eq_true rfl, Nat.le_of_ble_eq_true rfl⟩ (fun u_1 H locs hwu_1 hP hD hS => ?_)
  try dsimp only at hwu_1
  have hP : zP g [[(n, .inr (4, [.ref na, .ref nb]))], [fr nb v1], [fr na (fthird v0)]] H := hP
  have hD : zD A [[(n, .inr (4, [.ref na, .ref nb]))], [fr nb v1], [fr na (fthird v0)]] := hD
  refine lv_aload_n hx hb dX4_divideByThree_7 rfl (lv_at hl 0 rfl) ?_
  refine z_get hx hb hts hin4_ hown hK hP 0 rfl rfl 1 (by decide) (hts _ (List.mem_of_getElem? (i := 2) rfl)) rfl dX4_divideByThree_8 ?_
  refine z_cVv (As := []) (rest := []) ⟨hx, hb, hml, hown, hts⟩ hK hP hD hS hA [1] [0, 2] rfl rfl rfl (c_X1_divideByThree l g nb v1 (by first | assumption | (repeat (first | assumption | exact ht _ | exact hu _ | refine fok_fadd ?_ ?_ | refine fok_fneg ?_ | refine fok_fmul ?_ ?_ | refine fok_fthird ?_ | exact fok_none)))) (cwV 0 hts gX4_divideByThree_X1_divideByThree rfl rfl rfl (by decide +kernel) ⟨Nat.le_of_ble_eq_true rfl, Nat.le_of_ble_eq_true rfl⟩) 1 0 rfl rfl rfl (fun _ _ _ _ _ _ => trivial) (fun _ _ _ => trivial) rfl hl.1 (Nat.le_of_ble_eq_true rfl) rfl dX4_divideByThree_11 ⟨Nat.le_of_ble_eq_true rfl, Nat.le_of_ble_eq_true rfl⟩ (fun u_2 H locs hwu_2 hP hD hS => ?_)
  try dsimp only at hwu_2
  have hP : zP g [[(n, .inr (4, [.ref na, .ref nb]))], [fr na (fthird v0)], [fr nb (fthird v1)]] H := hP
  have hD : zD A [[(n, .inr (4, [.ref na, .ref nb]))], [fr na (fthird v0)], [fr nb (fthird v1)]] := hD
  exact z_retv () [0, 1, 2] hx hb hr hlocks hK hP hD hS trivial rfl rfl (rfl) (Nat.le_of_ble_eq_true rfl) (Nat.le_of_ble_eq_true rfl) dX4_divideByThree_14

set_option maxHeartbeats 4000000 in
set_option maxRecDepth 100000 in
theorem c_X4_isOver (l : Launch) (g : zG) (n : Nat) (na : Nat) (nb : Nat) (v0 : FO) (v1 : FO) (h0 : fok v0) (h1 : fok v1) : zMet l g yX4_isOver wsX4_isOver 0 0 0 [.ref n] zX0 [[(n, .inr (4, [.ref na, .ref nb]))], [fr na v0], [fr nb v1]] (qi g (fun (_ : Unit) => (nOv v0 v1)) (fun (_ : Unit) => True) (fun (_ : Unit) => [[(n, .inr (4, [.ref na, .ref nb]))], [fr na v0], [fr nb v1]])) := by
  obtain ⟨a1, a2, a3, a4, a5, a6, a7⟩ := id h0
  obtain ⟨b1, b2, b3, b4, b5, b6, b7⟩ := id h1
  refine z_ent (cc := cX4_isOver) (maxL := 1) (ret := (some .boolean)) (by decide) rfl (Nat.le_of_ble_eq_true rfl) ?_
  intro p e s m below meth c A ls hx hb hr hml hown hts hlocks hin0 hA hK hP hD hS hXX hl
  have hown : s.vm.findClass RX4 = some m.cls := hown
  have hin1_ : ∀ w ∈ wsX10, w ∈ wsX4_isOver := zw_in [6, 7, 8] rfl
  have hin4_ : ∀ w ∈ wsX40, w ∈ wsX4_isOver := zw_in [4, 5] rfl
  have hl : lv_has ls 1 [(0, .ref n)] := hl
  refine lv_aload_n hx hb dX4_isOver_0 rfl (lv_at hl 0 rfl) ?_
  refine z_get hx hb hts hin4_ hown hK hP 0 rfl rfl 0 (by decide) (hts _ (List.mem_of_getElem? (i := 1) rfl)) rfl dX4_isOver_1 ?_
  refine z_get hx hb hts hin1_ hown hK hP 1 rfl rfl 2 (by decide) (hts _ (List.mem_of_getElem? (i := 2) rfl)) rfl dX4_isOver_4 ?_
  refine z_if_ne (tgt := 20) hx hb (by omega) dX4_isOver_7 (by decide) (fun c1 => ?_) (fun c1 => ?_)
  · refine z_iconst hx hb dX4_isOver_20 rfl ?_
    refine lv_goto (tgt := 25) hx hb dX4_isOver_21 (by decide) ?_
    exact z_reti () [0, 1, 2] hx hb hr (nar_z (by first | decide | omega)) hlocks hK hP hD hS (by unfold nOv; split <;> omega) trivial rfl rfl (rfl) (Nat.le_of_ble_eq_true rfl) (Nat.le_of_ble_eq_true rfl) dX4_isOver_25
  · refine lv_aload_n hx hb dX4_isOver_10 rfl (lv_at hl 0 rfl) ?_
    refine z_get hx hb hts hin4_ hown hK hP 0 rfl rfl 1 (by decide) (hts _ (List.mem_of_getElem? (i := 3) rfl)) rfl dX4_isOver_11 ?_
    refine z_get hx hb hts hin1_ hown hK hP 2 rfl rfl 2 (by decide) (hts _ (List.mem_of_getElem? (i := 2) rfl)) rfl dX4_isOver_14 ?_
    refine z_if_eq (tgt := 24) hx hb (by omega) dX4_isOver_17 (by decide) (fun c2 => ?_) (fun c2 => ?_)
    · refine z_iconst hx hb dX4_isOver_24 rfl ?_
      exact z_reti () [0, 1, 2] hx hb hr (nar_z (by first | decide | omega)) hlocks hK hP hD hS (by unfold nOv; split <;> omega) trivial rfl rfl (rfl) (Nat.le_of_ble_eq_true rfl) (Nat.le_of_ble_eq_true rfl) dX4_isOver_25
    · refine z_iconst hx hb dX4_isOver_20 rfl ?_
      refine lv_goto (tgt := 25) hx hb dX4_isOver_21 (by decide) ?_
      exact z_reti () [0, 1, 2] hx hb hr (nar_z (by first | decide | omega)) hlocks hK hP hD hS (by unfold nOv; split <;> omega) trivial rfl rfl (rfl) (Nat.le_of_ble_eq_true rfl) (Nat.le_of_ble_eq_true rfl) dX4_isOver_25

set_option maxHeartbeats 4000000 in
set_option maxRecDepth 100000 in
theorem c_X4_isNought (l : Launch) (g : zG) (n : Nat) (na : Nat) (nb : Nat) (v0 : FO) (v1 : FO) (h0 : fok v0) (h1 : fok v1) : zMet l g yX4_isNought wsX4_isNought 0 0 0 [.ref n] zX0 [[(n, .inr (4, [.ref na, .ref nb]))], [fr na v0], [fr nb v1]] (qi g (fun (_ : Unit) => (nNo v0 v1)) (fun (_ : Unit) => True) (fun (_ : Unit) => [[(n, .inr (4, [.ref na, .ref nb]))], [fr na v0], [fr nb v1]])) := by
  obtain ⟨a1, a2, a3, a4, a5, a6, a7⟩ := id h0
  obtain ⟨b1, b2, b3, b4, b5, b6, b7⟩ := id h1
  refine z_ent (cc := cX4_isNought) (maxL := 1) (ret := (some .boolean)) (by decide) rfl (Nat.le_of_ble_eq_true rfl) ?_
  intro p e s m below meth c A ls hx hb hr hml hown hts hlocks hin0 hA hK hP hD hS hXX hl
  have hown : s.vm.findClass RX4 = some m.cls := hown
  have hin1_ : ∀ w ∈ wsX10, w ∈ wsX4_isNought := zw_in [6, 7, 8] rfl
  have hin4_ : ∀ w ∈ wsX40, w ∈ wsX4_isNought := zw_in [4, 5] rfl
  have hl : lv_has ls 1 [(0, .ref n)] := hl
  refine lv_aload_n hx hb dX4_isNought_0 rfl (lv_at hl 0 rfl) ?_
  refine z_get hx hb hts hin4_ hown hK hP 0 rfl rfl 0 (by decide) (hts _ (List.mem_of_getElem? (i := 1) rfl)) rfl dX4_isNought_1 ?_
  refine z_get hx hb hts hin1_ hown hK hP 1 rfl rfl 0 (by decide) (hts _ (List.mem_of_getElem? (i := 2) rfl)) rfl dX4_isNought_4 ?_
  refine z_lconst hx hb 0 dX4_isNought_7 rfl ?_
  refine z_lcmp_ne (tgt := 28) hx hb (by omega) (by decide) dX4_isNought_8 dX4_isNought_9 (by decide) (fun c1 => ?_) (fun c1 => ?_)
  · refine z_iconst hx hb dX4_isNought_28 rfl ?_
    exact z_reti () [0, 1, 2] hx hb hr (nar_z (by first | decide | omega)) hlocks hK hP hD hS (by unfold nNo; split <;> omega) trivial rfl rfl (rfl) (Nat.le_of_ble_eq_true rfl) (Nat.le_of_ble_eq_true rfl) dX4_isNought_29
  · refine lv_aload_n hx hb dX4_isNought_12 rfl (lv_at hl 0 rfl) ?_
    refine z_get hx hb hts hin4_ hown hK hP 0 rfl rfl 1 (by decide) (hts _ (List.mem_of_getElem? (i := 3) rfl)) rfl dX4_isNought_13 ?_
    refine z_get hx hb hts hin1_ hown hK hP 2 rfl rfl 0 (by decide) (hts _ (List.mem_of_getElem? (i := 2) rfl)) rfl dX4_isNought_16 ?_
    refine z_lconst hx hb 0 dX4_isNought_19 rfl ?_
    refine z_lcmp_ne (tgt := 28) hx hb (by omega) (by decide) dX4_isNought_20 dX4_isNought_21 (by decide) (fun c2 => ?_) (fun c2 => ?_)
    · refine z_iconst hx hb dX4_isNought_28 rfl ?_
      exact z_reti () [0, 1, 2] hx hb hr (nar_z (by first | decide | omega)) hlocks hK hP hD hS (by unfold nNo; split <;> omega) trivial rfl rfl (rfl) (Nat.le_of_ble_eq_true rfl) (Nat.le_of_ble_eq_true rfl) dX4_isNought_29
    · refine z_iconst hx hb dX4_isNought_24 rfl ?_
      refine lv_goto (tgt := 29) hx hb dX4_isNought_25 (by decide) ?_
      exact z_reti () [0, 1, 2] hx hb hr (nar_z (by first | decide | omega)) hlocks hK hP hD hS (by unfold nNo; split <;> omega) trivial rfl rfl (rfl) (Nat.le_of_ble_eq_true rfl) (Nat.le_of_ble_eq_true rfl) dX4_isNought_29

set_option maxHeartbeats 4000000 in
set_option maxRecDepth 100000 in
theorem c_X4_tell (l : Launch) (g : zG) (n : Nat) (na : Nat) (nb : Nat) (v0 : FO) (v1 : FO) (i : Int) (j : Int) (h0 : fok v0) (h1 : fok v1) (hi : -2147483648 ≤ i ∧ i < 2147483648) (hj : -2147483648 ≤ j ∧ j < 2147483648) : zMet l g yX4_tell wsX4_tell 1 0 0 [.ref n, vI i, vI j] zX0 [[(n, .inr (4, [.ref na, .ref nb]))], [fr na v0], [fr nb v1]] (ql g (fun (_ : Unit) => (if i = 0 then ftell v0 j else ftell v1 j)) (fun (_ : Unit) => True) (fun (_ : Unit) => [[(n, .inr (4, [.ref na, .ref nb]))], [fr na v0], [fr nb v1]])) := by
  refine z_ent (cc := cX4_tell) (maxL := 3) (ret := (some .long)) (by decide) rfl (Nat.le_of_ble_eq_true rfl) ?_
  intro p e s m below meth c A ls hx hb hr hml hown hts hlocks hin0 hA hK hP hD hS hXX hl
  have hown : s.vm.findClass RX4 = some m.cls := hown
  have hin4_ : ∀ w ∈ wsX40, w ∈ wsX4_tell := zw_in [12, 13] rfl
  have hl : lv_has ls 3 [(0, .ref n), (1, vI i), (2, vI j)] := hl
  refine lv_iload_n hx hb dX4_tell_0 rfl (lv_at hl 1 rfl) ?_
  refine z_if_ne (tgt := 15) hx hb (by omega) dX4_tell_1 (by decide) (fun c1 => ?_) (fun c1 => ?_)
  · refine lv_aload_n hx hb dX4_tell_15 rfl (lv_at hl 0 rfl) ?_
    refine z_get hx hb hts hin4_ hown hK hP 0 rfl rfl 1 (by decide) (hts _ (List.mem_of_getElem? (i := 2) rfl)) rfl dX4_tell_16 ?_
    refine lv_iload_n hx hb dX4_tell_19 rfl (lv_at hl 2 rfl) ?_
    refine z_cVl (As := [vI j]) (rest := []) ⟨hx, hb, hml, hown, hts⟩ hK hP hD hS hA [2] [0, 1] rfl rfl rfl (c_X1_tell l g nb v1 j (by first | assumption | (repeat (first | assumption | exact ht _ | exact hu _ | refine fok_fadd ?_ ?_ | refine fok_fneg ?_ | refine fok_fmul ?_ ?_ | refine fok_fthird ?_ | exact fok_none))) (by first | assumption | omega | decide)) (cwV 1 hts gX4_tell_X1_tell rfl rfl rfl (by decide +kernel) ⟨Nat.le_of_ble_eq_true rfl, Nat.le_of_ble_eq_true rfl⟩) 1 0 rfl rfl rfl (fun _ _ _ _ _ _ => trivial) (fun _ _ _ => trivial) rfl hl.1 (Nat.le_of_ble_eq_true rfl) rfl dX4_tell_20 ⟨Nat.le_of_ble_eq_true rfl, Nat.le_of_ble_eq_true rfl⟩ (fun u_2 H locs hwu_2 hP hD hS => ?_)
    try dsimp only at hwu_2
    have hP : zP g [[(n, .inr (4, [.ref na, .ref nb]))], [fr na v0], [fr nb v1]] H := hP
    have hD : zD A [[(n, .inr (4, [.ref na, .ref nb]))], [fr na v0], [fr nb v1]] := hD
    refine z_toL (ftell v1 j) rfl ?_
    exact z_retl () [0, 1, 2] hx hb hr hlocks hK hP hD hS (by first | rw [if_pos (by omega)] | rw [if_neg (by omega)]) trivial rfl rfl (rfl) (Nat.le_of_ble_eq_true rfl) (Nat.le_of_ble_eq_true rfl) dX4_tell_23
  · refine lv_aload_n hx hb dX4_tell_4 rfl (lv_at hl 0 rfl) ?_
    refine z_get hx hb hts hin4_ hown hK hP 0 rfl rfl 0 (by decide) (hts _ (List.mem_of_getElem? (i := 1) rfl)) rfl dX4_tell_5 ?_
    refine lv_iload_n hx hb dX4_tell_8 rfl (lv_at hl 2 rfl) ?_
    refine z_cVl (As := [vI j]) (rest := []) ⟨hx, hb, hml, hown, hts⟩ hK hP hD hS hA [1] [0, 2] rfl rfl rfl (c_X1_tell l g na v0 j (by first | assumption | (repeat (first | assumption | exact ht _ | exact hu _ | refine fok_fadd ?_ ?_ | refine fok_fneg ?_ | refine fok_fmul ?_ ?_ | refine fok_fthird ?_ | exact fok_none))) (by first | assumption | omega | decide)) (cwV 1 hts gX4_tell_X1_tell rfl rfl rfl (by decide +kernel) ⟨Nat.le_of_ble_eq_true rfl, Nat.le_of_ble_eq_true rfl⟩) 1 0 rfl rfl rfl (fun _ _ _ _ _ _ => trivial) (fun _ _ _ => trivial) rfl hl.1 (Nat.le_of_ble_eq_true rfl) rfl dX4_tell_9 ⟨Nat.le_of_ble_eq_true rfl, Nat.le_of_ble_eq_true rfl⟩ (fun u_3 H locs hwu_3 hP hD hS => ?_)
    try dsimp only at hwu_3
    have hP : zP g [[(n, .inr (4, [.ref na, .ref nb]))], [fr nb v1], [fr na v0]] H := hP
    have hD : zD A [[(n, .inr (4, [.ref na, .ref nb]))], [fr nb v1], [fr na v0]] := hD
    refine z_toL (ftell v0 j) rfl ?_
    refine lv_goto (tgt := 23) hx hb dX4_tell_12 (by decide) ?_
    exact z_retl () [0, 2, 1] hx hb hr hlocks hK hP hD hS (by first | rw [if_pos (by omega)] | rw [if_neg (by omega)]) trivial rfl rfl (rfl) (Nat.le_of_ble_eq_true rfl) (Nat.le_of_ble_eq_true rfl) dX4_tell_23

set_option maxHeartbeats 4000000 in
set_option maxRecDepth 100000 in
theorem c_X8_become (l : Launch) (g : zG) (q : Nat) (x : Nat → Nat) (t : Nat → FO) (r : Nat) (y : Nat → Nat) (u : Nat → FO) (hu : ∀ k, fok (u k)) : zMet l g yX8_become wsX8_become 2 0 0 [.ref q, .ref r] zX0 [(threeW g q x t), (threeW g r y u)] (qv g (fun (_ : Unit) => True) (fun (_ : Unit) => [(threeW g q x u), (threeW g r y u)])) := by
  refine z_ent (cc := cX8_become) (maxL := 3) (ret := none) (by decide) rfl (Nat.le_of_ble_eq_true rfl) ?_
  intro p e s m below meth c A ls hx hb hr hml hown hts hlocks hin0 hA hK hP hD hS hXX hl
  have hown : s.vm.findClass RX8 = some m.cls := hown
  have hin8_ : ∀ w ∈ wsX80, w ∈ wsX8_become := zw_in [17] rfl
  have hl : lv_has ls 3 [(0, .ref q), (1, .ref r)] := hl
  have hP : zP g [[(q, .inr (8, [.ref (x 0)]))], [((x 0), .inl (g.2 3, 3, .inr (.inr (.inr (.inr (rA [(x 1), (x 4), (x 7)]))))))], [((x 1), .inr (4, [.ref (x 2), .ref (x 3)]))], [fr (x 2) (t 0)], [fr (x 3) (t 1)], [((x 4), .inr (4, [.ref (x 5), .ref (x 6)]))], [fr (x 5) (t 2)], [fr (x 6) (t 3)], [((x 7), .inr (4, [.ref (x 8), .ref (x 9)]))], [fr (x 8) (t 4)], [fr (x 9) (t 5)], (threeW g r y u)] s.heap := hP
  have hD : zD A [[(q, .inr (8, [.ref (x 0)]))], [((x 0), .inl (g.2 3, 3, .inr (.inr (.inr (.inr (rA [(x 1), (x 4), (x 7)]))))))], [((x 1), .inr (4, [.ref (x 2), .ref (x 3)]))], [fr (x 2) (t 0)], [fr (x 3) (t 1)], [((x 4), .inr (4, [.ref (x 5), .ref (x 6)]))], [fr (x 5) (t 2)], [fr (x 6) (t 3)], [((x 7), .inr (4, [.ref (x 8), .ref (x 9)]))], [fr (x 8) (t 4)], [fr (x 9) (t 5)], (threeW g r y u)] := hD
  have hP : zP g [[(q, .inr (8, [.ref (x 0)]))], [((x 0), .inl (g.2 3, 3, .inr (.inr (.inr (.inr (rA [(x 1), (x 4), (x 7)]))))))], [((x 1), .inr (4, [.ref (x 2), .ref (x 3)]))], [fr (x 2) (t 0)], [fr (x 3) (t 1)], [((x 4), .inr (4, [.ref (x 5), .ref (x 6)]))], [fr (x 5) (t 2)], [fr (x 6) (t 3)], [((x 7), .inr (4, [.ref (x 8), .ref (x 9)]))], [fr (x 8) (t 4)], [fr (x 9) (t 5)], [(r, .inr (8, [.ref (y 0)]))], [((y 0), .inl (g.2 3, 3, .inr (.inr (.inr (.inr (rA [(y 1), (y 4), (y 7)]))))))], [((y 1), .inr (4, [.ref (y 2), .ref (y 3)]))], [fr (y 2) (u 0)], [fr (y 3) (u 1)], [((y 4), .inr (4, [.ref (y 5), .ref (y 6)]))], [fr (y 5) (u 2)], [fr (y 6) (u 3)], [((y 7), .inr (4, [.ref (y 8), .ref (y 9)]))], [fr (y 8) (u 4)], [fr (y 9) (u 5)]] s.heap := hP
  have hD : zD A [[(q, .inr (8, [.ref (x 0)]))], [((x 0), .inl (g.2 3, 3, .inr (.inr (.inr (.inr (rA [(x 1), (x 4), (x 7)]))))))], [((x 1), .inr (4, [.ref (x 2), .ref (x 3)]))], [fr (x 2) (t 0)], [fr (x 3) (t 1)], [((x 4), .inr (4, [.ref (x 5), .ref (x 6)]))], [fr (x 5) (t 2)], [fr (x 6) (t 3)], [((x 7), .inr (4, [.ref (x 8), .ref (x 9)]))], [fr (x 8) (t 4)], [fr (x 9) (t 5)], [(r, .inr (8, [.ref (y 0)]))], [((y 0), .inl (g.2 3, 3, .inr (.inr (.inr (.inr (rA [(y 1), (y 4), (y 7)]))))))], [((y 1), .inr (4, [.ref (y 2), .ref (y 3)]))], [fr (y 2) (u 0)], [fr (y 3) (u 1)], [((y 4), .inr (4, [.ref (y 5), .ref (y 6)]))], [fr (y 5) (u 2)], [fr (y 6) (u 3)], [((y 7), .inr (4, [.ref (y 8), .ref (y 9)]))], [fr (y 8) (u 4)], [fr (y 9) (u 5)]] := hD
  refine z_iconst hx hb dX8_become_0 rfl ?_
  refine lv_istore_n (lv' := [(2, vI 0), (0, .ref q), (1, .ref r)]) hx hb dX8_become_1 rfl hl (by decide) rfl (fun ls hl => ?_)
  refine lv_iload_n hx hb dX8_become_2 rfl (lv_at hl 0 rfl) ?_
  refine z_iconst hx hb dX8_become_3 rfl ?_
  refine z_icmp_ge (tgt := 28) hx hb (by decide) (by decide) dX8_become_4 (by decide) (fun c1 => absurd c1 (by decide)) (fun c1 => ?_)
  refine lv_aload_n hx hb dX8_become_7 rfl (lv_at hl 1 rfl) ?_
  refine z_get hx hb hts hin8_ hown hK hP 0 rfl rfl 0 (by decide) (hts _ (List.mem_of_getElem? (i := 1) rfl)) rfl dX8_become_8 ?_
  refine lv_iload_n hx hb dX8_become_11 rfl (lv_at hl 0 rfl) ?_
  refine z_aald hx hb hK hP 1 3 rfl rfl 0 rfl (by decide) (by decide) (x 1) rfl dX8_become_12 ?_
  refine lv_aload_n hx hb dX8_become_13 rfl (lv_at hl 2 rfl) ?_
  refine z_get hx hb hts hin8_ hown hK hP 11 rfl rfl 0 (by decide) (hts _ (List.mem_of_getElem? (i := 1) rfl)) rfl dX8_become_14 ?_
  refine lv_iload_n hx hb dX8_become_17 rfl (lv_at hl 0 rfl) ?_
  refine z_aald hx hb hK hP 12 3 rfl rfl 0 rfl (by decide) (by decide) (y 1) rfl dX8_become_18 ?_
  refine z_cVv (As := [.ref (y 1)]) (rest := []) ⟨hx, hb, hml, hown, hts⟩ hK hP hD hS hA [2, 3, 4, 13, 14, 15] [0, 1, 5, 6, 7, 8, 9, 10, 11, 12, 16, 17, 18, 19, 20, 21] rfl rfl rfl (c_X4_become l g (x 1) (x 2) (x 3) (t 0) (t 1) (y 1) (y 2) (y 3) (u 0) (u 1) (hu _) (hu _)) (cwV 1 hts gX8_become_X4_become rfl rfl rfl (by decide +kernel) ⟨Nat.le_of_ble_eq_true rfl, Nat.le_of_ble_eq_true rfl⟩) 4 0 rfl rfl rfl (fun _ _ _ _ _ _ => trivial) (fun _ _ _ => trivial) rfl hl.1 (Nat.le_of_ble_eq_true rfl) rfl dX8_become_19 ⟨Nat.le_of_ble_eq_true rfl, Nat.le_of_ble_eq_true rfl⟩ (fun u_2 H locs hwu_2 hP hD hS => ?_)
  try dsimp only at hwu_2
  have hP : zP g [[(q, .inr (8, [.ref (x 0)]))], [((x 0), .inl (g.2 3, 3, .inr (.inr (.inr (.inr (rA [(x 1), (x 4), (x 7)]))))))], [((x 4), .inr (4, [.ref (x 5), .ref (x 6)]))], [fr (x 5) (t 2)], [fr (x 6) (t 3)], [((x 7), .inr (4, [.ref (x 8), .ref (x 9)]))], [fr (x 8) (t 4)], [fr (x 9) (t 5)], [(r, .inr (8, [.ref (y 0)]))], [((y 0), .inl (g.2 3, 3, .inr (.inr (.inr (.inr (rA [(y 1), (y 4), (y 7)]))))))], [((y 4), .inr (4, [.ref (y 5), .ref (y 6)]))], [fr (y 5) (u 2)], [fr (y 6) (u 3)], [((y 7), .inr (4, [.ref (y 8), .ref (y 9)]))], [fr (y 8) (u 4)], [fr (y 9) (u 5)], [((x 1), .inr (4, [.ref (x 2), .ref (x 3)]))], [fr (x 2) (u 0)], [fr (x 3) (u 1)], [((y 1), .inr (4, [.ref (y 2), .ref (y 3)]))], [fr (y 2) (u 0)], [fr (y 3) (u 1)]] H := hP
  have hD : zD A [[(q, .inr (8, [.ref (x 0)]))], [((x 0), .inl (g.2 3, 3, .inr (.inr (.inr (.inr (rA [(x 1), (x 4), (x 7)]))))))], [((x 4), .inr (4, [.ref (x 5), .ref (x 6)]))], [fr (x 5) (t 2)], [fr (x 6) (t 3)], [((x 7), .inr (4, [.ref (x 8), .ref (x 9)]))], [fr (x 8) (t 4)], [fr (x 9) (t 5)], [(r, .inr (8, [.ref (y 0)]))], [((y 0), .inl (g.2 3, 3, .inr (.inr (.inr (.inr (rA [(y 1), (y 4), (y 7)]))))))], [((y 4), .inr (4, [.ref (y 5), .ref (y 6)]))], [fr (y 5) (u 2)], [fr (y 6) (u 3)], [((y 7), .inr (4, [.ref (y 8), .ref (y 9)]))], [fr (y 8) (u 4)], [fr (y 9) (u 5)], [((x 1), .inr (4, [.ref (x 2), .ref (x 3)]))], [fr (x 2) (u 0)], [fr (x 3) (u 1)], [((y 1), .inr (4, [.ref (y 2), .ref (y 3)]))], [fr (y 2) (u 0)], [fr (y 3) (u 1)]] := hD
  refine z_iinc hx hb 1 (lv' := [(2, vI 1), (0, .ref q), (1, .ref r)]) dX8_become_22 hl (k := 0) rfl (rfl) (by decide) rfl (fun ls hl => ?_)
  refine lv_goto (tgt := 2) hx hb dX8_become_25 (by decide) ?_
  refine lv_iload_n hx hb dX8_become_2 rfl (lv_at hl 0 rfl) ?_
  refine z_iconst hx hb dX8_become_3 rfl ?_
  refine z_icmp_ge (tgt := 28) hx hb (by decide) (by decide) dX8_become_4 (by decide) (fun c3 => absurd c3 (by decide)) (fun c3 => ?_)
  refine lv_aload_n hx hb dX8_become_7 rfl (lv_at hl 1 rfl) ?_
  refine z_get hx hb hts hin8_ hown hK hP 0 rfl rfl 0 (by decide) (hts _ (List.mem_of_getElem? (i := 1) rfl)) rfl dX8_become_8 ?_
  refine lv_iload_n hx hb dX8_become_11 rfl (lv_at hl 0 rfl) ?_
  refine z_aald hx hb hK hP 1 3 rfl rfl 1 rfl (by decide) (by decide) (x 4) rfl dX8_become_12 ?_
  refine lv_aload_n hx hb dX8_become_13 rfl (lv_at hl 2 rfl) ?_
  refine z_get hx hb hts hin8_ hown hK hP 8 rfl rfl 0 (by decide) (hts _ (List.mem_of_getElem? (i := 1) rfl)) rfl dX8_become_14 ?_
  refine lv_iload_n hx hb dX8_become_17 rfl (lv_at hl 0 rfl) ?_
  refine z_aald hx hb hK hP 9 3 rfl rfl 1 rfl (by decide) (by decide) (y 4) rfl dX8_become_18 ?_
  refine z_cVv (As := [.ref (y 4)]) (rest := []) ⟨hx, hb, hml, hown, hts⟩ hK hP hD hS hA [2, 3, 4, 10, 11, 12] [0, 1, 5, 6, 7, 8, 9, 13, 14, 15, 16, 17, 18, 19, 20, 21] rfl rfl rfl (c_X4_become l g (x 4) (x 5) (x 6) (t 2) (t 3) (y 4) (y 5) (y 6) (u 2) (u 3) (hu _) (hu _)) (cwV 1 hts gX8_become_X4_become rfl rfl rfl (by decide +kernel) ⟨Nat.le_of_ble_eq_true rfl, Nat.le_of_ble_eq_true rfl⟩) 4 0 rfl rfl rfl (fun _ _ _ _ _ _ => trivial) (fun _ _ _ => trivial) rfl hl.1 (Nat.le_of_ble_eq_true rfl) rfl dX8_become_19 ⟨Nat.le_of_ble_eq_true rfl, Nat.le_of_ble_eq_true rfl⟩ (fun u_4 H locs hwu_4 hP hD hS => ?_)
  try dsimp only at hwu_4
  have hP : zP g [[(q, .inr (8, [.ref (x 0)]))], [((x 0), .inl (g.2 3, 3, .inr (.inr (.inr (.inr (rA [(x 1), (x 4), (x 7)]))))))], [((x 7), .inr (4, [.ref (x 8), .ref (x 9)]))], [fr (x 8) (t 4)], [fr (x 9) (t 5)], [(r, .inr (8, [.ref (y 0)]))], [((y 0), .inl (g.2 3, 3, .inr (.inr (.inr (.inr (rA [(y 1), (y 4), (y 7)]))))))], [((y 7), .inr (4, [.ref (y 8), .ref (y 9)]))], [fr (y 8) (u 4)], [fr (y 9) (u 5)], [((x 1), .inr (4, [.ref (x 2), .ref (x 3)]))], [fr (x 2) (u 0)], [fr (x 3) (u 1)], [((y 1), .inr (4, [.ref (y 2), .ref (y 3)]))], [fr (y 2) (u 0)], [fr (y 3) (u 1)], [((x 4), .inr (4, [.ref (x 5), .ref (x 6)]))], [fr (x 5) (u 2)], [fr (x 6) (u 3)], [((y 4), .inr (4, [.ref (y 5), .ref (y 6)]))], [fr (y 5) (u 2)], [fr (y 6) (u 3)]] H := hP
  have hD : zD A [[(q, .inr (8, [.ref (x 0)]))], [((x 0), .inl (g.2 3, 3, .inr (.inr (.inr (.inr (rA [(x 1), (x 4), (x 7)]))))))], [((x 7), .inr (4, [.ref (x 8), .ref (x 9)]))], [fr (x 8) (t 4)], [fr (x 9) (t 5)], [(r, .inr (8, [.ref (y 0)]))], [((y 0), .inl (g.2 3, 3, .inr (.inr (.inr (.inr (rA [(y 1), (y 4), (y 7)]))))))], [((y 7), .inr (4, [.ref (y 8), .ref (y 9)]))], [fr (y 8) (u 4)], [fr (y 9) (u 5)], [((x 1), .inr (4, [.ref (x 2), .ref (x 3)]))], [fr (x 2) (u 0)], [fr (x 3) (u 1)], [((y 1), .inr (4, [.ref (y 2), .ref (y 3)]))], [fr (y 2) (u 0)], [fr (y 3) (u 1)], [((x 4), .inr (4, [.ref (x 5), .ref (x 6)]))], [fr (x 5) (u 2)], [fr (x 6) (u 3)], [((y 4), .inr (4, [.ref (y 5), .ref (y 6)]))], [fr (y 5) (u 2)], [fr (y 6) (u 3)]] := hD
  refine z_iinc hx hb 2 (lv' := [(2, vI 2), (0, .ref q), (1, .ref r)]) dX8_become_22 hl (k := 0) rfl (rfl) (by decide) rfl (fun ls hl => ?_)
  refine lv_goto (tgt := 2) hx hb dX8_become_25 (by decide) ?_
  refine lv_iload_n hx hb dX8_become_2 rfl (lv_at hl 0 rfl) ?_
  refine z_iconst hx hb dX8_become_3 rfl ?_
  refine z_icmp_ge (tgt := 28) hx hb (by decide) (by decide) dX8_become_4 (by decide) (fun c5 => absurd c5 (by decide)) (fun c5 => ?_)
  refine lv_aload_n hx hb dX8_become_7 rfl (lv_at hl 1 rfl) ?_
  refine z_get hx hb hts hin8_ hown hK hP 0 rfl rfl 0 (by decide) (hts _ (List.mem_of_getElem? (i := 1) rfl)) rfl dX8_become_8 ?_
  refine lv_iload_n hx hb dX8_become_11 rfl (lv_at hl 0 rfl) ?_
  refine z_aald hx hb hK hP 1 3 rfl rfl 2 rfl (by decide) (by decide) (x 7) rfl dX8_become_12 ?_
  refine lv_aload_n hx hb dX8_become_13 rfl (lv_at hl 2 rfl) ?_
  refine z_get hx hb hts hin8_ hown hK hP 5 rfl rfl 0 (by decide) (hts _ (List.mem_of_getElem? (i := 1) rfl)) rfl dX8_become_14 ?_
  refine lv_iload_n hx hb dX8_become_17 rfl (lv_at hl 0 rfl) ?_
  refine z_aald hx hb hK hP 6 3 rfl rfl 2 rfl (by decide) (by decide) (y 7) rfl dX8_become_18 ?_
  refine z_cVv (As := [.ref (y 7)]) (rest := []) ⟨hx, hb, hml, hown, hts⟩ hK hP hD hS hA [2, 3, 4, 7, 8, 9] [0, 1, 5, 6, 10, 11, 12, 13, 14, 15, 16, 17, 18, 19, 20, 21] rfl rfl rfl (c_X4_become l g (x 7) (x 8) (x 9) (t 4) (t 5) (y 7) (y 8) (y 9) (u 4) (u 5) (hu _) (hu _)) (cwV 1 hts gX8_become_X4_become rfl rfl rfl (by decide +kernel) ⟨Nat.le_of_ble_eq_true rfl, Nat.le_of_ble_eq_true rfl⟩) 4 0 rfl rfl rfl (fun _ _ _ _ _ _ => trivial) (fun _ _ _ => trivial) rfl hl.1 (Nat.le_of_ble_eq_true rfl) rfl dX8_become_19 ⟨Nat.le_of_ble_eq_true rfl, Nat.le_of_ble_eq_true rfl⟩ (fun u_6 H locs hwu_6 hP hD hS => ?_)
  try dsimp only at hwu_6
  have hP : zP g [[(q, .inr (8, [.ref (x 0)]))], [((x 0), .inl (g.2 3, 3, .inr (.inr (.inr (.inr (rA [(x 1), (x 4), (x 7)]))))))], [(r, .inr (8, [.ref (y 0)]))], [((y 0), .inl (g.2 3, 3, .inr (.inr (.inr (.inr (rA [(y 1), (y 4), (y 7)]))))))], [((x 1), .inr (4, [.ref (x 2), .ref (x 3)]))], [fr (x 2) (u 0)], [fr (x 3) (u 1)], [((y 1), .inr (4, [.ref (y 2), .ref (y 3)]))], [fr (y 2) (u 0)], [fr (y 3) (u 1)], [((x 4), .inr (4, [.ref (x 5), .ref (x 6)]))], [fr (x 5) (u 2)], [fr (x 6) (u 3)], [((y 4), .inr (4, [.ref (y 5), .ref (y 6)]))], [fr (y 5) (u 2)], [fr (y 6) (u 3)], [((x 7), .inr (4, [.ref (x 8), .ref (x 9)]))], [fr (x 8) (u 4)], [fr (x 9) (u 5)], [((y 7), .inr (4, [.ref (y 8), .ref (y 9)]))], [fr (y 8) (u 4)], [fr (y 9) (u 5)]] H := hP
  have hD : zD A [[(q, .inr (8, [.ref (x 0)]))], [((x 0), .inl (g.2 3, 3, .inr (.inr (.inr (.inr (rA [(x 1), (x 4), (x 7)]))))))], [(r, .inr (8, [.ref (y 0)]))], [((y 0), .inl (g.2 3, 3, .inr (.inr (.inr (.inr (rA [(y 1), (y 4), (y 7)]))))))], [((x 1), .inr (4, [.ref (x 2), .ref (x 3)]))], [fr (x 2) (u 0)], [fr (x 3) (u 1)], [((y 1), .inr (4, [.ref (y 2), .ref (y 3)]))], [fr (y 2) (u 0)], [fr (y 3) (u 1)], [((x 4), .inr (4, [.ref (x 5), .ref (x 6)]))], [fr (x 5) (u 2)], [fr (x 6) (u 3)], [((y 4), .inr (4, [.ref (y 5), .ref (y 6)]))], [fr (y 5) (u 2)], [fr (y 6) (u 3)], [((x 7), .inr (4, [.ref (x 8), .ref (x 9)]))], [fr (x 8) (u 4)], [fr (x 9) (u 5)], [((y 7), .inr (4, [.ref (y 8), .ref (y 9)]))], [fr (y 8) (u 4)], [fr (y 9) (u 5)]] := hD
  refine z_iinc hx hb 3 (lv' := [(2, vI 3), (0, .ref q), (1, .ref r)]) dX8_become_22 hl (k := 0) rfl (rfl) (by decide) rfl (fun ls hl => ?_)
  refine lv_goto (tgt := 2) hx hb dX8_become_25 (by decide) ?_
  refine lv_iload_n hx hb dX8_become_2 rfl (lv_at hl 0 rfl) ?_
  refine z_iconst hx hb dX8_become_3 rfl ?_
  refine z_icmp_ge (tgt := 28) hx hb (by decide) (by decide) dX8_become_4 (by decide) (fun c7 => ?_) (fun c7 => absurd (by decide) c7)
  have hP : zP g [[(r, .inr (8, [.ref (y 0)]))], [((y 0), .inl (g.2 3, 3, .inr (.inr (.inr (.inr (rA [(y 1), (y 4), (y 7)]))))))], [((y 1), .inr (4, [.ref (y 2), .ref (y 3)]))], [fr (y 2) (u 0)], [fr (y 3) (u 1)], [((y 4), .inr (4, [.ref (y 5), .ref (y 6)]))], [fr (y 5) (u 2)], [fr (y 6) (u 3)], [((y 7), .inr (4, [.ref (y 8), .ref (y 9)]))], [fr (y 8) (u 4)], [fr (y 9) (u 5)], [(q, .inr (8, [.ref (x 0)]))], [((x 0), .inl (g.2 3, 3, .inr (.inr (.inr (.inr (rA [(x 1), (x 4), (x 7)]))))))], [((x 1), .inr (4, [.ref (x 2), .ref (x 3)]))], [fr (x 2) (u 0)], [fr (x 3) (u 1)], [((x 4), .inr (4, [.ref (x 5), .ref (x 6)]))], [fr (x 5) (u 2)], [fr (x 6) (u 3)], [((x 7), .inr (4, [.ref (x 8), .ref (x 9)]))], [fr (x 8) (u 4)], [fr (x 9) (u 5)]] H := zP_sub hP [2, 3, 7, 8, 9, 13, 14, 15, 19, 20, 21, 0, 1, 4, 5, 6, 10, 11, 12, 16, 17, 18] rfl
  have hD : zD A [[(r, .inr (8, [.ref (y 0)]))], [((y 0), .inl (g.2 3, 3, .inr (.inr (.inr (.inr (rA [(y 1), (y 4), (y 7)]))))))], [((y 1), .inr (4, [.ref (y 2), .ref (y 3)]))], [fr (y 2) (u 0)], [fr (y 3) (u 1)], [((y 4), .inr (4, [.ref (y 5), .ref (y 6)]))], [fr (y 5) (u 2)], [fr (y 6) (u 3)], [((y 7), .inr (4, [.ref (y 8), .ref (y 9)]))], [fr (y 8) (u 4)], [fr (y 9) (u 5)], [(q, .inr (8, [.ref (x 0)]))], [((x 0), .inl (g.2 3, 3, .inr (.inr (.inr (.inr (rA [(x 1), (x 4), (x 7)]))))))], [((x 1), .inr (4, [.ref (x 2), .ref (x 3)]))], [fr (x 2) (u 0)], [fr (x 3) (u 1)], [((x 4), .inr (4, [.ref (x 5), .ref (x 6)]))], [fr (x 5) (u 2)], [fr (x 6) (u 3)], [((x 7), .inr (4, [.ref (x 8), .ref (x 9)]))], [fr (x 8) (u 4)], [fr (x 9) (u 5)]] := zD_sub hD [2, 3, 7, 8, 9, 13, 14, 15, 19, 20, 21, 0, 1, 4, 5, 6, 10, 11, 12, 16, 17, 18] rfl rfl
  have hP : zP g [[(r, .inr (8, [.ref (y 0)]))], [((y 0), .inl (g.2 3, 3, .inr (.inr (.inr (.inr (rA [(y 1), (y 4), (y 7)]))))))], [((y 1), .inr (4, [.ref (y 2), .ref (y 3)]))], [fr (y 2) (u 0)], [fr (y 3) (u 1)], [((y 4), .inr (4, [.ref (y 5), .ref (y 6)]))], [fr (y 5) (u 2)], [fr (y 6) (u 3)], [((y 7), .inr (4, [.ref (y 8), .ref (y 9)]))], [fr (y 8) (u 4)], [fr (y 9) (u 5)], (threeW g q x u)] H := hP
  have hD : zD A [[(r, .inr (8, [.ref (y 0)]))], [((y 0), .inl (g.2 3, 3, .inr (.inr (.inr (.inr (rA [(y 1), (y 4), (y 7)]))))))], [((y 1), .inr (4, [.ref (y 2), .ref (y 3)]))], [fr (y 2) (u 0)], [fr (y 3) (u 1)], [((y 4), .inr (4, [.ref (y 5), .ref (y 6)]))], [fr (y 5) (u 2)], [fr (y 6) (u 3)], [((y 7), .inr (4, [.ref (y 8), .ref (y 9)]))], [fr (y 8) (u 4)], [fr (y 9) (u 5)], (threeW g q x u)] := hD
  have hP : zP g [(threeW g r y u), (threeW g q x u)] H := hP
  have hD : zD A [(threeW g r y u), (threeW g q x u)] := hD
  exact z_retv () [1, 0] hx hb hr hlocks hK hP hD hS trivial rfl rfl (rfl) (Nat.le_of_ble_eq_true rfl) (Nat.le_of_ble_eq_true rfl) dX8_become_28

set_option maxHeartbeats 4000000 in
set_option maxRecDepth 100000 in
theorem c_X8_clear (l : Launch) (g : zG) (q : Nat) (x : Nat → Nat) (t : Nat → FO)  : zMet l g yX8_clear wsX8_clear 3 0 0 [.ref q] zX0 [(threeW g q x t)] (qv g (fun (_ : Unit) => True) (fun (_ : Unit) => [(threeW g q x (lF [some (0, 1), some (0, 1), some (0, 1), some (0, 1), some (0, 1), some (0, 1)]))])) := by
  refine z_ent (cc := cX8_clear) (maxL := 2) (ret := none) (by decide) rfl (Nat.le_of_ble_eq_true rfl) ?_
  intro p e s m below meth c A ls hx hb hr hml hown hts hlocks hin0 hA hK hP hD hS hXX hl
  have hown : s.vm.findClass RX8 = some m.cls := hown
  have hin8_ : ∀ w ∈ wsX80, w ∈ wsX8_clear := zw_in [26] rfl
  have hl : lv_has ls 2 [(0, .ref q)] := hl
  have hP : zP g [[(q, .inr (8, [.ref (x 0)]))], [((x 0), .inl (g.2 3, 3, .inr (.inr (.inr (.inr (rA [(x 1), (x 4), (x 7)]))))))], [((x 1), .inr (4, [.ref (x 2), .ref (x 3)]))], [fr (x 2) (t 0)], [fr (x 3) (t 1)], [((x 4), .inr (4, [.ref (x 5), .ref (x 6)]))], [fr (x 5) (t 2)], [fr (x 6) (t 3)], [((x 7), .inr (4, [.ref (x 8), .ref (x 9)]))], [fr (x 8) (t 4)], [fr (x 9) (t 5)]] s.heap := hP
  have hD : zD A [[(q, .inr (8, [.ref (x 0)]))], [((x 0), .inl (g.2 3, 3, .inr (.inr (.inr (.inr (rA [(x 1), (x 4), (x 7)]))))))], [((x 1), .inr (4, [.ref (x 2), .ref (x 3)]))], [fr (x 2) (t 0)], [fr (x 3) (t 1)], [((x 4), .inr (4, [.ref (x 5), .ref (x 6)]))], [fr (x 5) (t 2)], [fr (x 6) (t 3)], [((x 7), .inr (4, [.ref (x 8), .ref (x 9)]))], [fr (x 8) (t 4)], [fr (x 9) (t 5)]] := hD
  refine z_iconst hx hb dX8_clear_0 rfl ?_
  refine lv_istore_n (lv' := [(1, vI 0), (0, .ref q)]) hx hb dX8_clear_1 rfl hl (by decide) rfl (fun ls hl => ?_)
  refine lv_iload_n hx hb dX8_clear_2 rfl (lv_at hl 0 rfl) ?_
  refine z_iconst hx hb dX8_clear_3 rfl ?_
  refine z_icmp_ge (tgt := 22) hx hb (by decide) (by decide) dX8_clear_4 (by decide) (fun c1 => absurd c1 (by decide)) (fun c1 => ?_)
  refine lv_aload_n hx hb dX8_clear_7 rfl (lv_at hl 1 rfl) ?_
  refine z_get hx hb hts hin8_ hown hK hP 0 rfl rfl 0 (by decide) (hts _ (List.mem_of_getElem? (i := 1) rfl)) rfl dX8_clear_8 ?_
  refine lv_iload_n hx hb dX8_clear_11 rfl (lv_at hl 0 rfl) ?_
  refine z_aald hx hb hK hP 1 3 rfl rfl 0 rfl (by decide) (by decide) (x 1) rfl dX8_clear_12 ?_
  refine z_cVv (As := []) (rest := []) ⟨hx, hb, hml, hown, hts⟩ hK hP hD hS hA [2, 3, 4] [0, 1, 5, 6, 7, 8, 9, 10] rfl rfl rfl (c_X4_clear l g (x 1) (x 2) (x 3) (t 0) (t 1) ) (cwV 0 hts gX8_clear_X4_clear rfl rfl rfl (by decide +kernel) ⟨Nat.le_of_ble_eq_true rfl, Nat.le_of_ble_eq_true rfl⟩) 4 0 rfl rfl rfl (fun _ _ _ _ _ _ => trivial) (fun _ _ _ => trivial) rfl hl.1 (Nat.le_of_ble_eq_true rfl) rfl dX8_clear_13 ⟨Nat.le_of_ble_eq_true rfl, Nat.le_of_ble_eq_true rfl⟩ (fun u_2 H locs hwu_2 hP hD hS => ?_)
  try dsimp only at hwu_2
  have hP : zP g [[(q, .inr (8, [.ref (x 0)]))], [((x 0), .inl (g.2 3, 3, .inr (.inr (.inr (.inr (rA [(x 1), (x 4), (x 7)]))))))], [((x 4), .inr (4, [.ref (x 5), .ref (x 6)]))], [fr (x 5) (t 2)], [fr (x 6) (t 3)], [((x 7), .inr (4, [.ref (x 8), .ref (x 9)]))], [fr (x 8) (t 4)], [fr (x 9) (t 5)], [((x 1), .inr (4, [.ref (x 2), .ref (x 3)]))], [fr (x 2) (some (0, 1))], [fr (x 3) (some (0, 1))]] H := hP
  have hD : zD A [[(q, .inr (8, [.ref (x 0)]))], [((x 0), .inl (g.2 3, 3, .inr (.inr (.inr (.inr (rA [(x 1), (x 4), (x 7)]))))))], [((x 4), .inr (4, [.ref (x 5), .ref (x 6)]))], [fr (x 5) (t 2)], [fr (x 6) (t 3)], [((x 7), .inr (4, [.ref (x 8), .ref (x 9)]))], [fr (x 8) (t 4)], [fr (x 9) (t 5)], [((x 1), .inr (4, [.ref (x 2), .ref (x 3)]))], [fr (x 2) (some (0, 1))], [fr (x 3) (some (0, 1))]] := hD
  refine z_iinc hx hb 1 (lv' := [(1, vI 1), (0, .ref q)]) dX8_clear_16 hl (k := 0) rfl (rfl) (by decide) rfl (fun ls hl => ?_)
  refine lv_goto (tgt := 2) hx hb dX8_clear_19 (by decide) ?_
  refine lv_iload_n hx hb dX8_clear_2 rfl (lv_at hl 0 rfl) ?_
  refine z_iconst hx hb dX8_clear_3 rfl ?_
  refine z_icmp_ge (tgt := 22) hx hb (by decide) (by decide) dX8_clear_4 (by decide) (fun c3 => absurd c3 (by decide)) (fun c3 => ?_)
  refine lv_aload_n hx hb dX8_clear_7 rfl (lv_at hl 1 rfl) ?_
  refine z_get hx hb hts hin8_ hown hK hP 0 rfl rfl 0 (by decide) (hts _ (List.mem_of_getElem? (i := 1) rfl)) rfl dX8_clear_8 ?_
  refine lv_iload_n hx hb dX8_clear_11 rfl (lv_at hl 0 rfl) ?_
  refine z_aald hx hb hK hP 1 3 rfl rfl 1 rfl (by decide) (by decide) (x 4) rfl dX8_clear_12 ?_
  refine z_cVv (As := []) (rest := []) ⟨hx, hb, hml, hown, hts⟩ hK hP hD hS hA [2, 3, 4] [0, 1, 5, 6, 7, 8, 9, 10] rfl rfl rfl (c_X4_clear l g (x 4) (x 5) (x 6) (t 2) (t 3) ) (cwV 0 hts gX8_clear_X4_clear rfl rfl rfl (by decide +kernel) ⟨Nat.le_of_ble_eq_true rfl, Nat.le_of_ble_eq_true rfl⟩) 4 0 rfl rfl rfl (fun _ _ _ _ _ _ => trivial) (fun _ _ _ => trivial) rfl hl.1 (Nat.le_of_ble_eq_true rfl) rfl dX8_clear_13 ⟨Nat.le_of_ble_eq_true rfl, Nat.le_of_ble_eq_true rfl⟩ (fun u_4 H locs hwu_4 hP hD hS => ?_)
  try dsimp only at hwu_4
  have hP : zP g [[(q, .inr (8, [.ref (x 0)]))], [((x 0), .inl (g.2 3, 3, .inr (.inr (.inr (.inr (rA [(x 1), (x 4), (x 7)]))))))], [((x 7), .inr (4, [.ref (x 8), .ref (x 9)]))], [fr (x 8) (t 4)], [fr (x 9) (t 5)], [((x 1), .inr (4, [.ref (x 2), .ref (x 3)]))], [fr (x 2) (some (0, 1))], [fr (x 3) (some (0, 1))], [((x 4), .inr (4, [.ref (x 5), .ref (x 6)]))], [fr (x 5) (some (0, 1))], [fr (x 6) (some (0, 1))]] H := hP
  have hD : zD A [[(q, .inr (8, [.ref (x 0)]))], [((x 0), .inl (g.2 3, 3, .inr (.inr (.inr (.inr (rA [(x 1), (x 4), (x 7)]))))))], [((x 7), .inr (4, [.ref (x 8), .ref (x 9)]))], [fr (x 8) (t 4)], [fr (x 9) (t 5)], [((x 1), .inr (4, [.ref (x 2), .ref (x 3)]))], [fr (x 2) (some (0, 1))], [fr (x 3) (some (0, 1))], [((x 4), .inr (4, [.ref (x 5), .ref (x 6)]))], [fr (x 5) (some (0, 1))], [fr (x 6) (some (0, 1))]] := hD
  refine z_iinc hx hb 2 (lv' := [(1, vI 2), (0, .ref q)]) dX8_clear_16 hl (k := 0) rfl (rfl) (by decide) rfl (fun ls hl => ?_)
  refine lv_goto (tgt := 2) hx hb dX8_clear_19 (by decide) ?_
  refine lv_iload_n hx hb dX8_clear_2 rfl (lv_at hl 0 rfl) ?_
  refine z_iconst hx hb dX8_clear_3 rfl ?_
  refine z_icmp_ge (tgt := 22) hx hb (by decide) (by decide) dX8_clear_4 (by decide) (fun c5 => absurd c5 (by decide)) (fun c5 => ?_)
  refine lv_aload_n hx hb dX8_clear_7 rfl (lv_at hl 1 rfl) ?_
  refine z_get hx hb hts hin8_ hown hK hP 0 rfl rfl 0 (by decide) (hts _ (List.mem_of_getElem? (i := 1) rfl)) rfl dX8_clear_8 ?_
  refine lv_iload_n hx hb dX8_clear_11 rfl (lv_at hl 0 rfl) ?_
  refine z_aald hx hb hK hP 1 3 rfl rfl 2 rfl (by decide) (by decide) (x 7) rfl dX8_clear_12 ?_
  refine z_cVv (As := []) (rest := []) ⟨hx, hb, hml, hown, hts⟩ hK hP hD hS hA [2, 3, 4] [0, 1, 5, 6, 7, 8, 9, 10] rfl rfl rfl (c_X4_clear l g (x 7) (x 8) (x 9) (t 4) (t 5) ) (cwV 0 hts gX8_clear_X4_clear rfl rfl rfl (by decide +kernel) ⟨Nat.le_of_ble_eq_true rfl, Nat.le_of_ble_eq_true rfl⟩) 4 0 rfl rfl rfl (fun _ _ _ _ _ _ => trivial) (fun _ _ _ => trivial) rfl hl.1 (Nat.le_of_ble_eq_true rfl) rfl dX8_clear_13 ⟨Nat.le_of_ble_eq_true rfl, Nat.le_of_ble_eq_true rfl⟩ (fun u_6 H locs hwu_6 hP hD hS => ?_)
  try dsimp only at hwu_6
  have hP : zP g [[(q, .inr (8, [.ref (x 0)]))], [((x 0), .inl (g.2 3, 3, .inr (.inr (.inr (.inr (rA [(x 1), (x 4), (x 7)]))))))], [((x 1), .inr (4, [.ref (x 2), .ref (x 3)]))], [fr (x 2) (some (0, 1))], [fr (x 3) (some (0, 1))], [((x 4), .inr (4, [.ref (x 5), .ref (x 6)]))], [fr (x 5) (some (0, 1))], [fr (x 6) (some (0, 1))], [((x 7), .inr (4, [.ref (x 8), .ref (x 9)]))], [fr (x 8) (some (0, 1))], [fr (x 9) (some (0, 1))]] H := hP
  have hD : zD A [[(q, .inr (8, [.ref (x 0)]))], [((x 0), .inl (g.2 3, 3, .inr (.inr (.inr (.inr (rA [(x 1), (x 4), (x 7)]))))))], [((x 1), .inr (4, [.ref (x 2), .ref (x 3)]))], [fr (x 2) (some (0, 1))], [fr (x 3) (some (0, 1))], [((x 4), .inr (4, [.ref (x 5), .ref (x 6)]))], [fr (x 5) (some (0, 1))], [fr (x 6) (some (0, 1))], [((x 7), .inr (4, [.ref (x 8), .ref (x 9)]))], [fr (x 8) (some (0, 1))], [fr (x 9) (some (0, 1))]] := hD
  refine z_iinc hx hb 3 (lv' := [(1, vI 3), (0, .ref q)]) dX8_clear_16 hl (k := 0) rfl (rfl) (by decide) rfl (fun ls hl => ?_)
  refine lv_goto (tgt := 2) hx hb dX8_clear_19 (by decide) ?_
  refine lv_iload_n hx hb dX8_clear_2 rfl (lv_at hl 0 rfl) ?_
  refine z_iconst hx hb dX8_clear_3 rfl ?_
  refine z_icmp_ge (tgt := 22) hx hb (by decide) (by decide) dX8_clear_4 (by decide) (fun c7 => ?_) (fun c7 => absurd (by decide) c7)
  have hP : zP g [(threeW g q x (lF [(some (0, 1)), (some (0, 1)), (some (0, 1)), (some (0, 1)), (some (0, 1)), (some (0, 1))]))] H := hP
  have hD : zD A [(threeW g q x (lF [(some (0, 1)), (some (0, 1)), (some (0, 1)), (some (0, 1)), (some (0, 1)), (some (0, 1))]))] := hD
  exact z_retv () [0] hx hb hr hlocks hK hP hD hS trivial rfl rfl (rfl) (Nat.le_of_ble_eq_true rfl) (Nat.le_of_ble_eq_true rfl) dX8_clear_22

set_option maxHeartbeats 4000000 in
set_option maxRecDepth 100000 in
theorem c_X8_rotate (l : Launch) (g : zG) (q : Nat) (x : Nat → Nat) (t : Nat → FO)  : zMet l g yX8_rotate wsX8_rotate 0 0 0 [.ref q] zX0 [(threeW g q x t)] (qv g (fun (_ : Unit) => True) (fun (_ : Unit) => [(threeW g q (lA [(x 0), (x 4), (x 5), (x 6), (x 7), (x 8), (x 9), (x 1), (x 2), (x 3)]) (lF [(t 2), (t 3), (t 4), (t 5), (t 0), (t 1)]))])) := by
  refine z_ent (cc := cX8_rotate) (maxL := 2) (ret := none) (by decide) rfl (Nat.le_of_ble_eq_true rfl) ?_
  intro p e s m below meth c A ls hx hb hr hml hown hts hlocks hin0 hA hK hP hD hS hXX hl
  have hown : s.vm.findClass RX8 = some m.cls := hown
  have hin8_ : ∀ w ∈ wsX80, w ∈ wsX8_rotate := zw_in [2] rfl
  have hl : lv_has ls 2 [(0, .ref q)] := hl
  have hP : zP g [[(q, .inr (8, [.ref (x 0)]))], [((x 0), .inl (g.2 3, 3, .inr (.inr (.inr (.inr (rA [(x 1), (x 4), (x 7)]))))))], [((x 1), .inr (4, [.ref (x 2), .ref (x 3)]))], [fr (x 2) (t 0)], [fr (x 3) (t 1)], [((x 4), .inr (4, [.ref (x 5), .ref (x 6)]))], [fr (x 5) (t 2)], [fr (x 6) (t 3)], [((x 7), .inr (4, [.ref (x 8), .ref (x 9)]))], [fr (x 8) (t 4)], [fr (x 9) (t 5)]] s.heap := hP
  have hD : zD A [[(q, .inr (8, [.ref (x 0)]))], [((x 0), .inl (g.2 3, 3, .inr (.inr (.inr (.inr (rA [(x 1), (x 4), (x 7)]))))))], [((x 1), .inr (4, [.ref (x 2), .ref (x 3)]))], [fr (x 2) (t 0)], [fr (x 3) (t 1)], [((x 4), .inr (4, [.ref (x 5), .ref (x 6)]))], [fr (x 5) (t 2)], [fr (x 6) (t 3)], [((x 7), .inr (4, [.ref (x 8), .ref (x 9)]))], [fr (x 8) (t 4)], [fr (x 9) (t 5)]] := hD
  refine lv_aload_n hx hb dX8_rotate_0 rfl (lv_at hl 0 rfl) ?_
  refine z_get hx hb hts hin8_ hown hK hP 0 rfl rfl 0 (by decide) (hts _ (List.mem_of_getElem? (i := 1) rfl)) rfl dX8_rotate_1 ?_
  refine z_iconst hx hb dX8_rotate_4 rfl ?_
  refine z_aald hx hb hK hP 1 3 rfl rfl 0 rfl (by decide) (by decide) (x 1) rfl dX8_rotate_5 ?_
  refine lv_astore_n (lv' := [(1, .ref (x 1)), (0, .ref q)]) hx hb dX8_rotate_6 rfl hl (by decide) rfl (fun ls hl => ?_)
  refine lv_aload_n hx hb dX8_rotate_7 rfl (lv_at hl 1 rfl) ?_
  refine z_get hx hb hts hin8_ hown hK hP 0 rfl rfl 0 (by decide) (hts _ (List.mem_of_getElem? (i := 1) rfl)) rfl dX8_rotate_8 ?_
  refine z_iconst hx hb dX8_rotate_11 rfl ?_
  refine lv_aload_n hx hb dX8_rotate_12 rfl (lv_at hl 1 rfl) ?_
  refine z_get hx hb hts hin8_ hown hK hP 0 rfl rfl 0 (by decide) (hts _ (List.mem_of_getElem? (i := 1) rfl)) rfl dX8_rotate_13 ?_
  refine z_iconst hx hb dX8_rotate_16 rfl ?_
  refine z_aald hx hb hK hP 1 3 rfl rfl 1 rfl (by decide) (by decide) (x 4) rfl dX8_rotate_17 ?_
  refine z_aast hx hb hK hP 1 3 5 4 hD hS rfl rfl rfl rfl 0 rfl (by decide) (by decide) dX8_rotate_18 [[(q, .inr (8, [.ref (x 0)]))], [((x 0), .inl (g.2 3, 3, .inr (.inr (.inr (.inr (va_up (rA [(x 1), (x 4), (x 7)]) 0 (some (x 4))))))))], [((x 1), .inr (4, [.ref (x 2), .ref (x 3)]))], [fr (x 2) (t 0)], [fr (x 3) (t 1)], [((x 4), .inr (4, [.ref (x 5), .ref (x 6)]))], [fr (x 5) (t 2)], [fr (x 6) (t 3)], [((x 7), .inr (4, [.ref (x 8), .ref (x 9)]))], [fr (x 8) (t 4)], [fr (x 9) (t 5)]] rfl (fun H locs hP hD hS => ?_)
  refine lv_aload_n hx hb dX8_rotate_19 rfl (lv_at hl 1 rfl) ?_
  refine z_get hx hb hts hin8_ hown hK hP 0 rfl rfl 0 (by decide) (hts _ (List.mem_of_getElem? (i := 1) rfl)) rfl dX8_rotate_20 ?_
  refine z_iconst hx hb dX8_rotate_23 rfl ?_
  refine lv_aload_n hx hb dX8_rotate_24 rfl (lv_at hl 1 rfl) ?_
  refine z_get hx hb hts hin8_ hown hK hP 0 rfl rfl 0 (by decide) (hts _ (List.mem_of_getElem? (i := 1) rfl)) rfl dX8_rotate_25 ?_
  refine z_iconst hx hb dX8_rotate_28 rfl ?_
  refine z_aald hx hb hK hP 1 3 rfl rfl 2 rfl (by decide) (by decide) (x 7) rfl dX8_rotate_29 ?_
  refine z_aast hx hb hK hP 1 3 8 4 hD hS rfl rfl rfl rfl 1 rfl (by decide) (by decide) dX8_rotate_30 [[(q, .inr (8, [.ref (x 0)]))], [((x 0), .inl (g.2 3, 3, .inr (.inr (.inr (.inr (va_up (va_up (rA [(x 1), (x 4), (x 7)]) 0 (some (x 4))) 1 (some (x 7))))))))], [((x 1), .inr (4, [.ref (x 2), .ref (x 3)]))], [fr (x 2) (t 0)], [fr (x 3) (t 1)], [((x 4), .inr (4, [.ref (x 5), .ref (x 6)]))], [fr (x 5) (t 2)], [fr (x 6) (t 3)], [((x 7), .inr (4, [.ref (x 8), .ref (x 9)]))], [fr (x 8) (t 4)], [fr (x 9) (t 5)]] rfl (fun H locs hP hD hS => ?_)
  refine lv_aload_n hx hb dX8_rotate_31 rfl (lv_at hl 1 rfl) ?_
  refine z_get hx hb hts hin8_ hown hK hP 0 rfl rfl 0 (by decide) (hts _ (List.mem_of_getElem? (i := 1) rfl)) rfl dX8_rotate_32 ?_
  refine z_iconst hx hb dX8_rotate_35 rfl ?_
  refine lv_aload_n hx hb dX8_rotate_36 rfl (lv_at hl 0 rfl) ?_
  refine z_aast hx hb hK hP 1 3 2 4 hD hS rfl rfl rfl rfl 2 rfl (by decide) (by decide) dX8_rotate_37 [[(q, .inr (8, [.ref (x 0)]))], [((x 0), .inl (g.2 3, 3, .inr (.inr (.inr (.inr (va_up (va_up (va_up (rA [(x 1), (x 4), (x 7)]) 0 (some (x 4))) 1 (some (x 7))) 2 (some (x 1))))))))], [((x 1), .inr (4, [.ref (x 2), .ref (x 3)]))], [fr (x 2) (t 0)], [fr (x 3) (t 1)], [((x 4), .inr (4, [.ref (x 5), .ref (x 6)]))], [fr (x 5) (t 2)], [fr (x 6) (t 3)], [((x 7), .inr (4, [.ref (x 8), .ref (x 9)]))], [fr (x 8) (t 4)], [fr (x 9) (t 5)]] rfl (fun H locs hP hD hS => ?_)
  have er : (va_up (va_up (va_up (rA [(x 1), (x 4), (x 7)]) 0 (some (x 4))) 1 (some (x 7))) 2 (some (x 1))) = (rA [(x 4), (x 7), (x 1)]) := rA3_rot _ _ _
  rw [er] at hP hD
  have hP : zP g [[(q, .inr (8, [.ref (x 0)]))], [((x 0), .inl (g.2 3, 3, .inr (.inr (.inr (.inr (rA [(x 4), (x 7), (x 1)]))))))], [((x 4), .inr (4, [.ref (x 5), .ref (x 6)]))], [fr (x 5) (t 2)], [fr (x 6) (t 3)], [((x 7), .inr (4, [.ref (x 8), .ref (x 9)]))], [fr (x 8) (t 4)], [fr (x 9) (t 5)], [((x 1), .inr (4, [.ref (x 2), .ref (x 3)]))], [fr (x 2) (t 0)], [fr (x 3) (t 1)]] H := zP_sub hP [0, 1, 5, 6, 7, 8, 9, 10, 2, 3, 4] rfl
  have hD : zD A [[(q, .inr (8, [.ref (x 0)]))], [((x 0), .inl (g.2 3, 3, .inr (.inr (.inr (.inr (rA [(x 4), (x 7), (x 1)]))))))], [((x 4), .inr (4, [.ref (x 5), .ref (x 6)]))], [fr (x 5) (t 2)], [fr (x 6) (t 3)], [((x 7), .inr (4, [.ref (x 8), .ref (x 9)]))], [fr (x 8) (t 4)], [fr (x 9) (t 5)], [((x 1), .inr (4, [.ref (x 2), .ref (x 3)]))], [fr (x 2) (t 0)], [fr (x 3) (t 1)]] := zD_sub hD [0, 1, 5, 6, 7, 8, 9, 10, 2, 3, 4] rfl rfl
  have hP : zP g [(threeW g q (lA [(x 0), (x 4), (x 5), (x 6), (x 7), (x 8), (x 9), (x 1), (x 2), (x 3)]) (lF [(t 2), (t 3), (t 4), (t 5), (t 0), (t 1)]))] H := hP
  have hD : zD A [(threeW g q (lA [(x 0), (x 4), (x 5), (x 6), (x 7), (x 8), (x 9), (x 1), (x 2), (x 3)]) (lF [(t 2), (t 3), (t 4), (t 5), (t 0), (t 1)]))] := hD
  exact z_retv () [0] hx hb hr hlocks hK hP hD hS trivial rfl rfl (rfl) (Nat.le_of_ble_eq_true rfl) (Nat.le_of_ble_eq_true rfl) dX8_rotate_38

set_option maxHeartbeats 4000000 in
set_option maxRecDepth 100000 in
theorem c_X8_isOver (l : Launch) (g : zG) (q : Nat) (x : Nat → Nat) (t : Nat → FO) (ht : ∀ k, fok (t k)) : zMet l g yX8_isOver wsX8_isOver 1 0 0 [.ref q] zX0 [(threeW g q x t)] (qi g (fun (_ : Unit) => (tOv t)) (fun (_ : Unit) => True) (fun (_ : Unit) => [(threeW g q x t)])) := by
  have hz := fun k => (ht k).2.2.2.2.2.1
  refine z_ent (cc := cX8_isOver) (maxL := 1) (ret := (some .boolean)) (by decide) rfl (Nat.le_of_ble_eq_true rfl) ?_
  intro p e s m below meth c A ls hx hb hr hml hown hts hlocks hin0 hA hK hP hD hS hXX hl
  have hown : s.vm.findClass RX8 = some m.cls := hown
  have hin8_ : ∀ w ∈ wsX80, w ∈ wsX8_isOver := zw_in [10] rfl
  have hl : lv_has ls 1 [(0, .ref q)] := hl
  have hP : zP g [[(q, .inr (8, [.ref (x 0)]))], [((x 0), .inl (g.2 3, 3, .inr (.inr (.inr (.inr (rA [(x 1), (x 4), (x 7)]))))))], [((x 1), .inr (4, [.ref (x 2), .ref (x 3)]))], [fr (x 2) (t 0)], [fr (x 3) (t 1)], [((x 4), .inr (4, [.ref (x 5), .ref (x 6)]))], [fr (x 5) (t 2)], [fr (x 6) (t 3)], [((x 7), .inr (4, [.ref (x 8), .ref (x 9)]))], [fr (x 8) (t 4)], [fr (x 9) (t 5)]] s.heap := hP
  have hD : zD A [[(q, .inr (8, [.ref (x 0)]))], [((x 0), .inl (g.2 3, 3, .inr (.inr (.inr (.inr (rA [(x 1), (x 4), (x 7)]))))))], [((x 1), .inr (4, [.ref (x 2), .ref (x 3)]))], [fr (x 2) (t 0)], [fr (x 3) (t 1)], [((x 4), .inr (4, [.ref (x 5), .ref (x 6)]))], [fr (x 5) (t 2)], [fr (x 6) (t 3)], [((x 7), .inr (4, [.ref (x 8), .ref (x 9)]))], [fr (x 8) (t 4)], [fr (x 9) (t 5)]] := hD
  refine lv_aload_n hx hb dX8_isOver_0 rfl (lv_at hl 0 rfl) ?_
  refine z_get hx hb hts hin8_ hown hK hP 0 rfl rfl 0 (by decide) (hts _ (List.mem_of_getElem? (i := 1) rfl)) rfl dX8_isOver_1 ?_
  refine z_iconst hx hb dX8_isOver_4 rfl ?_
  refine z_aald hx hb hK hP 1 3 rfl rfl 0 rfl (by decide) (by decide) (x 1) rfl dX8_isOver_5 ?_
  refine z_cVi (As := []) (rest := []) ⟨hx, hb, hml, hown, hts⟩ hK hP hD hS hA [2, 3, 4] [0, 1, 5, 6, 7, 8, 9, 10] rfl rfl rfl (c_X4_isOver l g (x 1) (x 2) (x 3) (t 0) (t 1) (by first | assumption | (repeat (first | assumption | exact ht _ | exact hu _ | refine fok_fadd ?_ ?_ | refine fok_fneg ?_ | refine fok_fmul ?_ ?_ | refine fok_fthird ?_ | exact fok_none))) (by first | assumption | (repeat (first | assumption | exact ht _ | exact hu _ | refine fok_fadd ?_ ?_ | refine fok_fneg ?_ | refine fok_fmul ?_ ?_ | refine fok_fthird ?_ | exact fok_none)))) (cwV 0 hts gX8_isOver_X4_isOver rfl rfl rfl (by decide +kernel) ⟨Nat.le_of_ble_eq_true rfl, Nat.le_of_ble_eq_true rfl⟩) 4 0 rfl rfl rfl (fun _ _ _ _ _ _ => trivial) (fun _ _ _ => trivial) rfl hl.1 (Nat.le_of_ble_eq_true rfl) rfl dX8_isOver_6 ⟨Nat.le_of_ble_eq_true rfl, Nat.le_of_ble_eq_true rfl⟩ (fun u_1 H locs hwu_1 hP hD hS => ?_)
  try dsimp only at hwu_1
  have hP : zP g [[(q, .inr (8, [.ref (x 0)]))], [((x 0), .inl (g.2 3, 3, .inr (.inr (.inr (.inr (rA [(x 1), (x 4), (x 7)]))))))], [((x 4), .inr (4, [.ref (x 5), .ref (x 6)]))], [fr (x 5) (t 2)], [fr (x 6) (t 3)], [((x 7), .inr (4, [.ref (x 8), .ref (x 9)]))], [fr (x 8) (t 4)], [fr (x 9) (t 5)], [((x 1), .inr (4, [.ref (x 2), .ref (x 3)]))], [fr (x 2) (t 0)], [fr (x 3) (t 1)]] H := hP
  have hD : zD A [[(q, .inr (8, [.ref (x 0)]))], [((x 0), .inl (g.2 3, 3, .inr (.inr (.inr (.inr (rA [(x 1), (x 4), (x 7)]))))))], [((x 4), .inr (4, [.ref (x 5), .ref (x 6)]))], [fr (x 5) (t 2)], [fr (x 6) (t 3)], [((x 7), .inr (4, [.ref (x 8), .ref (x 9)]))], [fr (x 8) (t 4)], [fr (x 9) (t 5)], [((x 1), .inr (4, [.ref (x 2), .ref (x 3)]))], [fr (x 2) (t 0)], [fr (x 3) (t 1)]] := hD
  refine z_toI (nOv (t 0) (t 1)) rfl ?_
  refine z_if_ne (tgt := 36) hx hb (nOv_rng _ _) dX8_isOver_9 (by decide) (fun c2 => ?_) (fun c2 => ?_)
  · refine z_iconst hx hb dX8_isOver_36 rfl ?_
    refine lv_goto (tgt := 41) hx hb dX8_isOver_37 (by decide) ?_
    have hP : zP g [[(q, .inr (8, [.ref (x 0)]))], [((x 0), .inl (g.2 3, 3, .inr (.inr (.inr (.inr (rA [(x 1), (x 4), (x 7)]))))))], [((x 1), .inr (4, [.ref (x 2), .ref (x 3)]))], [fr (x 2) (t 0)], [fr (x 3) (t 1)], [((x 4), .inr (4, [.ref (x 5), .ref (x 6)]))], [fr (x 5) (t 2)], [fr (x 6) (t 3)], [((x 7), .inr (4, [.ref (x 8), .ref (x 9)]))], [fr (x 8) (t 4)], [fr (x 9) (t 5)]] H := zP_sub hP [0, 1, 8, 9, 10, 2, 3, 4, 5, 6, 7] rfl
    have hD : zD A [[(q, .inr (8, [.ref (x 0)]))], [((x 0), .inl (g.2 3, 3, .inr (.inr (.inr (.inr (rA [(x 1), (x 4), (x 7)]))))))], [((x 1), .inr (4, [.ref (x 2), .ref (x 3)]))], [fr (x 2) (t 0)], [fr (x 3) (t 1)], [((x 4), .inr (4, [.ref (x 5), .ref (x 6)]))], [fr (x 5) (t 2)], [fr (x 6) (t 3)], [((x 7), .inr (4, [.ref (x 8), .ref (x 9)]))], [fr (x 8) (t 4)], [fr (x 9) (t 5)]] := zD_sub hD [0, 1, 8, 9, 10, 2, 3, 4, 5, 6, 7] rfl rfl
    have hP : zP g [(threeW g q x t)] H := hP
    have hD : zD A [(threeW g q x t)] := hD
    exact z_reti () [0] hx hb hr (nar_z (by first | decide | omega)) hlocks hK hP hD hS (by unfold tOv; split <;> omega) trivial rfl rfl (rfl) (Nat.le_of_ble_eq_true rfl) (Nat.le_of_ble_eq_true rfl) dX8_isOver_41
  · refine lv_aload_n hx hb dX8_isOver_12 rfl (lv_at hl 0 rfl) ?_
    refine z_get hx hb hts hin8_ hown hK hP 0 rfl rfl 0 (by decide) (hts _ (List.mem_of_getElem? (i := 1) rfl)) rfl dX8_isOver_13 ?_
    refine z_iconst hx hb dX8_isOver_16 rfl ?_
    refine z_aald hx hb hK hP 1 3 rfl rfl 1 rfl (by decide) (by decide) (x 4) rfl dX8_isOver_17 ?_
    refine z_cVi (As := []) (rest := []) ⟨hx, hb, hml, hown, hts⟩ hK hP hD hS hA [2, 3, 4] [0, 1, 5, 6, 7, 8, 9, 10] rfl rfl rfl (c_X4_isOver l g (x 4) (x 5) (x 6) (t 2) (t 3) (by first | assumption | (repeat (first | assumption | exact ht _ | exact hu _ | refine fok_fadd ?_ ?_ | refine fok_fneg ?_ | refine fok_fmul ?_ ?_ | refine fok_fthird ?_ | exact fok_none))) (by first | assumption | (repeat (first | assumption | exact ht _ | exact hu _ | refine fok_fadd ?_ ?_ | refine fok_fneg ?_ | refine fok_fmul ?_ ?_ | refine fok_fthird ?_ | exact fok_none)))) (cwV 0 hts gX8_isOver_X4_isOver rfl rfl rfl (by decide +kernel) ⟨Nat.le_of_ble_eq_true rfl, Nat.le_of_ble_eq_true rfl⟩) 4 0 rfl rfl rfl (fun _ _ _ _ _ _ => trivial) (fun _ _ _ => trivial) rfl hl.1 (Nat.le_of_ble_eq_true rfl) rfl dX8_isOver_18 ⟨Nat.le_of_ble_eq_true rfl, Nat.le_of_ble_eq_true rfl⟩ (fun u_3 H locs hwu_3 hP hD hS => ?_)
    try dsimp only at hwu_3
    have hP : zP g [[(q, .inr (8, [.ref (x 0)]))], [((x 0), .inl (g.2 3, 3, .inr (.inr (.inr (.inr (rA [(x 1), (x 4), (x 7)]))))))], [((x 7), .inr (4, [.ref (x 8), .ref (x 9)]))], [fr (x 8) (t 4)], [fr (x 9) (t 5)], [((x 1), .inr (4, [.ref (x 2), .ref (x 3)]))], [fr (x 2) (t 0)], [fr (x 3) (t 1)], [((x 4), .inr (4, [.ref (x 5), .ref (x 6)]))], [fr (x 5) (t 2)], [fr (x 6) (t 3)]] H := hP
    have hD : zD A [[(q, .inr (8, [.ref (x 0)]))], [((x 0), .inl (g.2 3, 3, .inr (.inr (.inr (.inr (rA [(x 1), (x 4), (x 7)]))))))], [((x 7), .inr (4, [.ref (x 8), .ref (x 9)]))], [fr (x 8) (t 4)], [fr (x 9) (t 5)], [((x 1), .inr (4, [.ref (x 2), .ref (x 3)]))], [fr (x 2) (t 0)], [fr (x 3) (t 1)], [((x 4), .inr (4, [.ref (x 5), .ref (x 6)]))], [fr (x 5) (t 2)], [fr (x 6) (t 3)]] := hD
    refine z_toI (nOv (t 2) (t 3)) rfl ?_
    refine z_if_ne (tgt := 36) hx hb (nOv_rng _ _) dX8_isOver_21 (by decide) (fun c4 => ?_) (fun c4 => ?_)
    · refine z_iconst hx hb dX8_isOver_36 rfl ?_
      refine lv_goto (tgt := 41) hx hb dX8_isOver_37 (by decide) ?_
      have hP : zP g [[(q, .inr (8, [.ref (x 0)]))], [((x 0), .inl (g.2 3, 3, .inr (.inr (.inr (.inr (rA [(x 1), (x 4), (x 7)]))))))], [((x 1), .inr (4, [.ref (x 2), .ref (x 3)]))], [fr (x 2) (t 0)], [fr (x 3) (t 1)], [((x 4), .inr (4, [.ref (x 5), .ref (x 6)]))], [fr (x 5) (t 2)], [fr (x 6) (t 3)], [((x 7), .inr (4, [.ref (x 8), .ref (x 9)]))], [fr (x 8) (t 4)], [fr (x 9) (t 5)]] H := zP_sub hP [0, 1, 5, 6, 7, 8, 9, 10, 2, 3, 4] rfl
      have hD : zD A [[(q, .inr (8, [.ref (x 0)]))], [((x 0), .inl (g.2 3, 3, .inr (.inr (.inr (.inr (rA [(x 1), (x 4), (x 7)]))))))], [((x 1), .inr (4, [.ref (x 2), .ref (x 3)]))], [fr (x 2) (t 0)], [fr (x 3) (t 1)], [((x 4), .inr (4, [.ref (x 5), .ref (x 6)]))], [fr (x 5) (t 2)], [fr (x 6) (t 3)], [((x 7), .inr (4, [.ref (x 8), .ref (x 9)]))], [fr (x 8) (t 4)], [fr (x 9) (t 5)]] := zD_sub hD [0, 1, 5, 6, 7, 8, 9, 10, 2, 3, 4] rfl rfl
      have hP : zP g [(threeW g q x t)] H := hP
      have hD : zD A [(threeW g q x t)] := hD
      exact z_reti () [0] hx hb hr (nar_z (by first | decide | omega)) hlocks hK hP hD hS (by unfold tOv; split <;> omega) trivial rfl rfl (rfl) (Nat.le_of_ble_eq_true rfl) (Nat.le_of_ble_eq_true rfl) dX8_isOver_41
    · refine lv_aload_n hx hb dX8_isOver_24 rfl (lv_at hl 0 rfl) ?_
      refine z_get hx hb hts hin8_ hown hK hP 0 rfl rfl 0 (by decide) (hts _ (List.mem_of_getElem? (i := 1) rfl)) rfl dX8_isOver_25 ?_
      refine z_iconst hx hb dX8_isOver_28 rfl ?_
      refine z_aald hx hb hK hP 1 3 rfl rfl 2 rfl (by decide) (by decide) (x 7) rfl dX8_isOver_29 ?_
      refine z_cVi (As := []) (rest := []) ⟨hx, hb, hml, hown, hts⟩ hK hP hD hS hA [2, 3, 4] [0, 1, 5, 6, 7, 8, 9, 10] rfl rfl rfl (c_X4_isOver l g (x 7) (x 8) (x 9) (t 4) (t 5) (by first | assumption | (repeat (first | assumption | exact ht _ | exact hu _ | refine fok_fadd ?_ ?_ | refine fok_fneg ?_ | refine fok_fmul ?_ ?_ | refine fok_fthird ?_ | exact fok_none))) (by first | assumption | (repeat (first | assumption | exact ht _ | exact hu _ | refine fok_fadd ?_ ?_ | refine fok_fneg ?_ | refine fok_fmul ?_ ?_ | refine fok_fthird ?_ | exact fok_none)))) (cwV 0 hts gX8_isOver_X4_isOver rfl rfl rfl (by decide +kernel) ⟨Nat.le_of_ble_eq_true rfl, Nat.le_of_ble_eq_true rfl⟩) 4 0 rfl rfl rfl (fun _ _ _ _ _ _ => trivial) (fun _ _ _ => trivial) rfl hl.1 (Nat.le_of_ble_eq_true rfl) rfl dX8_isOver_30 ⟨Nat.le_of_ble_eq_true rfl, Nat.le_of_ble_eq_true rfl⟩ (fun u_5 H locs hwu_5 hP hD hS => ?_)
      try dsimp only at hwu_5
      have hP : zP g [[(q, .inr (8, [.ref (x 0)]))], [((x 0), .inl (g.2 3, 3, .inr (.inr (.inr (.inr (rA [(x 1), (x 4), (x 7)]))))))], [((x 1), .inr (4, [.ref (x 2), .ref (x 3)]))], [fr (x 2) (t 0)], [fr (x 3) (t 1)], [((x 4), .inr (4, [.ref (x 5), .ref (x 6)]))], [fr (x 5) (t 2)], [fr (x 6) (t 3)], [((x 7), .inr (4, [.ref (x 8), .ref (x 9)]))], [fr (x 8) (t 4)], [fr (x 9) (t 5)]] H := hP
      have hD : zD A [[(q, .inr (8, [.ref (x 0)]))], [((x 0), .inl (g.2 3, 3, .inr (.inr (.inr (.inr (rA [(x 1), (x 4), (x 7)]))))))], [((x 1), .inr (4, [.ref (x 2), .ref (x 3)]))], [fr (x 2) (t 0)], [fr (x 3) (t 1)], [((x 4), .inr (4, [.ref (x 5), .ref (x 6)]))], [fr (x 5) (t 2)], [fr (x 6) (t 3)], [((x 7), .inr (4, [.ref (x 8), .ref (x 9)]))], [fr (x 8) (t 4)], [fr (x 9) (t 5)]] := hD
      refine z_toI (nOv (t 4) (t 5)) rfl ?_
      refine z_if_eq (tgt := 40) hx hb (nOv_rng _ _) dX8_isOver_33 (by decide) (fun c6 => ?_) (fun c6 => ?_)
      · refine z_iconst hx hb dX8_isOver_40 rfl ?_
        have hP : zP g [(threeW g q x t)] H := hP
        have hD : zD A [(threeW g q x t)] := hD
        exact z_reti () [0] hx hb hr (nar_z (by first | decide | omega)) hlocks hK hP hD hS (by unfold tOv; split <;> omega) trivial rfl rfl (rfl) (Nat.le_of_ble_eq_true rfl) (Nat.le_of_ble_eq_true rfl) dX8_isOver_41
      · refine z_iconst hx hb dX8_isOver_36 rfl ?_
        refine lv_goto (tgt := 41) hx hb dX8_isOver_37 (by decide) ?_
        have hP : zP g [(threeW g q x t)] H := hP
        have hD : zD A [(threeW g q x t)] := hD
        exact z_reti () [0] hx hb hr (nar_z (by first | decide | omega)) hlocks hK hP hD hS (by unfold tOv; split <;> omega) trivial rfl rfl (rfl) (Nat.le_of_ble_eq_true rfl) (Nat.le_of_ble_eq_true rfl) dX8_isOver_41
