set_option maxHeartbeats 4000000 in
set_option maxRecDepth 100000 in
theorem lw_c0 {p : Program} {l : Launch} {e : Env} {s : State} {m : MethodId} {below : List Frame} {meth : Method} {c : Code} {b L : Nat} {xs : Nat → Int32} {g : zG} {t1 t2 : Nat} {x9 v9 : Nat → Nat} (C : lC p s m meth c b L xs g t1 t2 x9 v9) {q r : Nat} {z : DS} {u : MS} {H : Heap} {locs : List Loc} {ls : Array Slot} {i : Nat} (hi : i + 8 ≤ L) (hR : REL z u) (hP : zP g [(deskL g q z).flatten, (mdlL g r u).flatten] H) (hD : zD (lwA s) [(deskL g q z).flatten, (mdlL g r u).flatten]) (hS : va_S (lwA s) s.heap H locs) (hl : lv_has ls 4 [(0, .ref b), (1, .ref q), (2, .ref r), (3, vI ((i : Nat) : Int))]) (kont : ∀ (z1 : DS) (u1 : MS) (H : Heap) (locs : List Loc), REL z1 u1 → zP g [(deskL g q z1).flatten, (mdlL g r u1).flatten] H → zD (lwA s) [(deskL g q z1).flatten, (mdlL g r u1).flatten] → va_S (lwA s) s.heap H locs → lGo p l e s m below meth c b H locs 1074 ls []) : lGo p l e s m below meth c b H locs 160 ls [] := by
  obtain ⟨hx, hb, hr, hml, hown, hts, hX, hbl, hlocks, hK, hXX, hL⟩ := id C
  have hbA : ¬ lwA s b := Nat.not_le.mpr hbl
  have hA : ∀ q : Nat, s.heap.size ≤ q → lwA s q := fun _ h => h
  obtain ⟨ans, PD, PM, hd, hm, hrel⟩ := pr_write l g q r t1 t2 x9 v9 z u hR ((xs (i + 1)).toInt) (i_rng _)
  refine lv_aload_n hx hb dL_law_160 rfl (lv_at hl 1 rfl) ?_
  refine lv_aload_n hx hb dL_law_161 rfl (lv_at hl 0 rfl) ?_
  refine lv_iload_n hx hb dL_law_162 rfl (lv_at hl 3 rfl) ?_
  refine z_iconst hx hb dL_law_163 rfl ?_
  refine z_iadd hx hb (((i + 1) : Nat) : Int) (by omega) dL_law_164 ?_
  refine z_sld hx hb hX hbl hbA hS hL (i + 1) (by omega) dL_law_165 ?_
  refine z_xVi (As := [vI (xs (i + 1)).toInt]) (rest := []) ⟨hx, hb, hml, hown, hts⟩ hK hP hD hS hA [0] [1] rfl rfl rfl hd (cwV 1 hts gL_law_X9_write rfl rfl rfl (by decide +kernel) ⟨Nat.le_of_ble_eq_true rfl, Nat.le_of_ble_eq_true rfl⟩) 9 0 rfl rfl rfl zXL_b (zXL_s hXX hS) rfl hl.1 (Nat.le_of_ble_eq_true rfl) rfl dL_law_166 ⟨Nat.le_of_ble_eq_true rfl, Nat.le_of_ble_eq_true rfl⟩ (fun z1 H locs hPD hP hD hS => ?_)
  have hP : zP g [(mdlL g r u).flatten, (deskL g q z1).flatten] H := hP
  have hD : zD (lwA s) [(mdlL g r u).flatten, (deskL g q z1).flatten] := hD
  refine z_toI ans rfl ?_
  refine lv_aload_n hx hb dL_law_169 rfl (lv_at hl 2 rfl) ?_
  refine lv_aload_n hx hb dL_law_170 rfl (lv_at hl 0 rfl) ?_
  refine lv_iload_n hx hb dL_law_171 rfl (lv_at hl 3 rfl) ?_
  refine z_iconst hx hb dL_law_172 rfl ?_
  refine z_iadd hx hb (((i + 1) : Nat) : Int) (by omega) dL_law_173 ?_
  refine z_sld hx hb hX hbl hbA hS hL (i + 1) (by omega) dL_law_174 ?_
  refine z_cVi (As := [vI (xs (i + 1)).toInt]) (rest := [vI ans]) ⟨hx, hb, hml, hown, hts⟩ hK hP hD hS hA [0] [1] rfl rfl rfl hm (cwV 1 hts gL_law_X10_write rfl rfl rfl (by decide +kernel) ⟨Nat.le_of_ble_eq_true rfl, Nat.le_of_ble_eq_true rfl⟩) 10 0 rfl rfl rfl (fun _ _ _ _ _ _ => trivial) (fun _ _ _ => trivial) rfl hl.1 (Nat.le_of_ble_eq_true rfl) rfl dL_law_175 ⟨Nat.le_of_ble_eq_true rfl, Nat.le_of_ble_eq_true rfl⟩ (fun u1 H locs hPM hP hD hS => ?_)
  have hP : zP g [(deskL g q z1).flatten, (mdlL g r u1).flatten] H := hP
  have hD : zD (lwA s) [(deskL g q z1).flatten, (mdlL g r u1).flatten] := hD
  refine z_toI ans rfl ?_
  refine z_sameI (tgt := 1074) hx hb dL_law_178 (by decide) ?_
  exact kont z1 u1 H locs (hrel z1 u1 hPD hPM) hP hD hS
set_option maxHeartbeats 4000000 in
set_option maxRecDepth 100000 in
theorem lw_c1 {p : Program} {l : Launch} {e : Env} {s : State} {m : MethodId} {below : List Frame} {meth : Method} {c : Code} {b L : Nat} {xs : Nat → Int32} {g : zG} {t1 t2 : Nat} {x9 v9 : Nat → Nat} (C : lC p s m meth c b L xs g t1 t2 x9 v9) {q r : Nat} {z : DS} {u : MS} {H : Heap} {locs : List Loc} {ls : Array Slot} {i : Nat} (hi : i + 8 ≤ L) (hR : REL z u) (hP : zP g [(deskL g q z).flatten, (mdlL g r u).flatten] H) (hD : zD (lwA s) [(deskL g q z).flatten, (mdlL g r u).flatten]) (hS : va_S (lwA s) s.heap H locs) (hl : lv_has ls 4 [(0, .ref b), (1, .ref q), (2, .ref r), (3, vI ((i : Nat) : Int))]) (kont : ∀ (z1 : DS) (u1 : MS) (H : Heap) (locs : List Loc), REL z1 u1 → zP g [(deskL g q z1).flatten, (mdlL g r u1).flatten] H → zD (lwA s) [(deskL g q z1).flatten, (mdlL g r u1).flatten] → va_S (lwA s) s.heap H locs → lGo p l e s m below meth c b H locs 1074 ls []) : lGo p l e s m below meth c b H locs 183 ls [] := by
  obtain ⟨hx, hb, hr, hml, hown, hts, hX, hbl, hlocks, hK, hXX, hL⟩ := id C
  have hbA : ¬ lwA s b := Nat.not_le.mpr hbl
  have hA : ∀ q : Nat, s.heap.size ≤ q → lwA s q := fun _ h => h
  obtain ⟨ans, PD, PM, hd, hm, hrel⟩ := pr_erase l g q r t1 t2 x9 v9 z u hR  
  refine lv_aload_n hx hb dL_law_183 rfl (lv_at hl 1 rfl) ?_
  refine z_xVi (As := []) (rest := []) ⟨hx, hb, hml, hown, hts⟩ hK hP hD hS hA [0] [1] rfl rfl rfl hd (cwV 0 hts gL_law_X9_erase rfl rfl rfl (by decide +kernel) ⟨Nat.le_of_ble_eq_true rfl, Nat.le_of_ble_eq_true rfl⟩) 9 0 rfl rfl rfl zXL_b (zXL_s hXX hS) rfl hl.1 (Nat.le_of_ble_eq_true rfl) rfl dL_law_184 ⟨Nat.le_of_ble_eq_true rfl, Nat.le_of_ble_eq_true rfl⟩ (fun z1 H locs hPD hP hD hS => ?_)
  have hP : zP g [(mdlL g r u).flatten, (deskL g q z1).flatten] H := hP
  have hD : zD (lwA s) [(mdlL g r u).flatten, (deskL g q z1).flatten] := hD
  refine z_toI ans rfl ?_
  refine lv_aload_n hx hb dL_law_187 rfl (lv_at hl 2 rfl) ?_
  refine z_cVi (As := []) (rest := [vI ans]) ⟨hx, hb, hml, hown, hts⟩ hK hP hD hS hA [0] [1] rfl rfl rfl hm (cwV 0 hts gL_law_X10_erase rfl rfl rfl (by decide +kernel) ⟨Nat.le_of_ble_eq_true rfl, Nat.le_of_ble_eq_true rfl⟩) 10 0 rfl rfl rfl (fun _ _ _ _ _ _ => trivial) (fun _ _ _ => trivial) rfl hl.1 (Nat.le_of_ble_eq_true rfl) rfl dL_law_188 ⟨Nat.le_of_ble_eq_true rfl, Nat.le_of_ble_eq_true rfl⟩ (fun u1 H locs hPM hP hD hS => ?_)
  have hP : zP g [(deskL g q z1).flatten, (mdlL g r u1).flatten] H := hP
  have hD : zD (lwA s) [(deskL g q z1).flatten, (mdlL g r u1).flatten] := hD
  refine z_toI ans rfl ?_
  refine z_sameI (tgt := 1074) hx hb dL_law_191 (by decide) ?_
  exact kont z1 u1 H locs (hrel z1 u1 hPD hPM) hP hD hS
set_option maxHeartbeats 4000000 in
set_option maxRecDepth 100000 in
theorem lw_c2 {p : Program} {l : Launch} {e : Env} {s : State} {m : MethodId} {below : List Frame} {meth : Method} {c : Code} {b L : Nat} {xs : Nat → Int32} {g : zG} {t1 t2 : Nat} {x9 v9 : Nat → Nat} (C : lC p s m meth c b L xs g t1 t2 x9 v9) {q r : Nat} {z : DS} {u : MS} {H : Heap} {locs : List Loc} {ls : Array Slot} {i : Nat} (hi : i + 8 ≤ L) (hR : REL z u) (hP : zP g [(deskL g q z).flatten, (mdlL g r u).flatten] H) (hD : zD (lwA s) [(deskL g q z).flatten, (mdlL g r u).flatten]) (hS : va_S (lwA s) s.heap H locs) (hl : lv_has ls 4 [(0, .ref b), (1, .ref q), (2, .ref r), (3, vI ((i : Nat) : Int))]) (kont : ∀ (z1 : DS) (u1 : MS) (H : Heap) (locs : List Loc), REL z1 u1 → zP g [(deskL g q z1).flatten, (mdlL g r u1).flatten] H → zD (lwA s) [(deskL g q z1).flatten, (mdlL g r u1).flatten] → va_S (lwA s) s.heap H locs → lGo p l e s m below meth c b H locs 1074 ls []) : lGo p l e s m below meth c b H locs 196 ls [] := by
  obtain ⟨hx, hb, hr, hml, hown, hts, hX, hbl, hlocks, hK, hXX, hL⟩ := id C
  have hbA : ¬ lwA s b := Nat.not_le.mpr hbl
  have hA : ∀ q : Nat, s.heap.size ≤ q → lwA s q := fun _ h => h
  obtain ⟨ans, PD, PM, hd, hm, hrel⟩ := pr_fault l g q r t1 t2 x9 v9 z u hR  
  refine lv_aload_n hx hb dL_law_196 rfl (lv_at hl 1 rfl) ?_
  refine z_xVi (As := []) (rest := []) ⟨hx, hb, hml, hown, hts⟩ hK hP hD hS hA [0] [1] rfl rfl rfl hd (cwV 0 hts gL_law_X9_fault rfl rfl rfl (by decide +kernel) ⟨Nat.le_of_ble_eq_true rfl, Nat.le_of_ble_eq_true rfl⟩) 9 0 rfl rfl rfl zXL_b (zXL_s hXX hS) rfl hl.1 (Nat.le_of_ble_eq_true rfl) rfl dL_law_197 ⟨Nat.le_of_ble_eq_true rfl, Nat.le_of_ble_eq_true rfl⟩ (fun z1 H locs hPD hP hD hS => ?_)
  have hP : zP g [(mdlL g r u).flatten, (deskL g q z1).flatten] H := hP
  have hD : zD (lwA s) [(mdlL g r u).flatten, (deskL g q z1).flatten] := hD
  refine z_toI ans rfl ?_
  refine lv_aload_n hx hb dL_law_200 rfl (lv_at hl 2 rfl) ?_
  refine z_cVi (As := []) (rest := [vI ans]) ⟨hx, hb, hml, hown, hts⟩ hK hP hD hS hA [0] [1] rfl rfl rfl hm (cwV 0 hts gL_law_X10_fault rfl rfl rfl (by decide +kernel) ⟨Nat.le_of_ble_eq_true rfl, Nat.le_of_ble_eq_true rfl⟩) 10 0 rfl rfl rfl (fun _ _ _ _ _ _ => trivial) (fun _ _ _ => trivial) rfl hl.1 (Nat.le_of_ble_eq_true rfl) rfl dL_law_201 ⟨Nat.le_of_ble_eq_true rfl, Nat.le_of_ble_eq_true rfl⟩ (fun u1 H locs hPM hP hD hS => ?_)
  have hP : zP g [(deskL g q z1).flatten, (mdlL g r u1).flatten] H := hP
  have hD : zD (lwA s) [(deskL g q z1).flatten, (mdlL g r u1).flatten] := hD
  refine z_toI ans rfl ?_
  refine z_sameI (tgt := 1074) hx hb dL_law_204 (by decide) ?_
  exact kont z1 u1 H locs (hrel z1 u1 hPD hPM) hP hD hS
set_option maxHeartbeats 4000000 in
set_option maxRecDepth 100000 in
theorem lw_c3 {p : Program} {l : Launch} {e : Env} {s : State} {m : MethodId} {below : List Frame} {meth : Method} {c : Code} {b L : Nat} {xs : Nat → Int32} {g : zG} {t1 t2 : Nat} {x9 v9 : Nat → Nat} (C : lC p s m meth c b L xs g t1 t2 x9 v9) {q r : Nat} {z : DS} {u : MS} {H : Heap} {locs : List Loc} {ls : Array Slot} {i : Nat} (hi : i + 8 ≤ L) (hR : REL z u) (hP : zP g [(deskL g q z).flatten, (mdlL g r u).flatten] H) (hD : zD (lwA s) [(deskL g q z).flatten, (mdlL g r u).flatten]) (hS : va_S (lwA s) s.heap H locs) (hl : lv_has ls 4 [(0, .ref b), (1, .ref q), (2, .ref r), (3, vI ((i : Nat) : Int))]) (kont : ∀ (z1 : DS) (u1 : MS) (H : Heap) (locs : List Loc), REL z1 u1 → zP g [(deskL g q z1).flatten, (mdlL g r u1).flatten] H → zD (lwA s) [(deskL g q z1).flatten, (mdlL g r u1).flatten] → va_S (lwA s) s.heap H locs → lGo p l e s m below meth c b H locs 1074 ls []) : lGo p l e s m below meth c b H locs 209 ls [] := by
  obtain ⟨hx, hb, hr, hml, hown, hts, hX, hbl, hlocks, hK, hXX, hL⟩ := id C
  have hbA : ¬ lwA s b := Nat.not_le.mpr hbl
  have hA : ∀ q : Nat, s.heap.size ≤ q → lwA s q := fun _ h => h
  obtain ⟨ans, PD, PM, hd, hm, hrel⟩ := pr_net l g q r t1 t2 x9 v9 z u hR  
  refine lv_aload_n hx hb dL_law_209 rfl (lv_at hl 1 rfl) ?_
  refine z_xVi (As := []) (rest := []) ⟨hx, hb, hml, hown, hts⟩ hK hP hD hS hA [0] [1] rfl rfl rfl hd (cwV 0 hts gL_law_X9_net rfl rfl rfl (by decide +kernel) ⟨Nat.le_of_ble_eq_true rfl, Nat.le_of_ble_eq_true rfl⟩) 9 0 rfl rfl rfl zXL_b (zXL_s hXX hS) rfl hl.1 (Nat.le_of_ble_eq_true rfl) rfl dL_law_210 ⟨Nat.le_of_ble_eq_true rfl, Nat.le_of_ble_eq_true rfl⟩ (fun z1 H locs hPD hP hD hS => ?_)
  have hP : zP g [(mdlL g r u).flatten, (deskL g q z1).flatten] H := hP
  have hD : zD (lwA s) [(mdlL g r u).flatten, (deskL g q z1).flatten] := hD
  refine z_toI ans rfl ?_
  refine lv_aload_n hx hb dL_law_213 rfl (lv_at hl 2 rfl) ?_
  refine z_cVi (As := []) (rest := [vI ans]) ⟨hx, hb, hml, hown, hts⟩ hK hP hD hS hA [0] [1] rfl rfl rfl hm (cwV 0 hts gL_law_X10_net rfl rfl rfl (by decide +kernel) ⟨Nat.le_of_ble_eq_true rfl, Nat.le_of_ble_eq_true rfl⟩) 10 0 rfl rfl rfl (fun _ _ _ _ _ _ => trivial) (fun _ _ _ => trivial) rfl hl.1 (Nat.le_of_ble_eq_true rfl) rfl dL_law_214 ⟨Nat.le_of_ble_eq_true rfl, Nat.le_of_ble_eq_true rfl⟩ (fun u1 H locs hPM hP hD hS => ?_)
  have hP : zP g [(deskL g q z1).flatten, (mdlL g r u1).flatten] H := hP
  have hD : zD (lwA s) [(deskL g q z1).flatten, (mdlL g r u1).flatten] := hD
  refine z_toI ans rfl ?_
  refine z_sameI (tgt := 1074) hx hb dL_law_217 (by decide) ?_
  exact kont z1 u1 H locs (hrel z1 u1 hPD hPM) hP hD hS
set_option maxHeartbeats 4000000 in
set_option maxRecDepth 100000 in
theorem lw_c4 {p : Program} {l : Launch} {e : Env} {s : State} {m : MethodId} {below : List Frame} {meth : Method} {c : Code} {b L : Nat} {xs : Nat → Int32} {g : zG} {t1 t2 : Nat} {x9 v9 : Nat → Nat} (C : lC p s m meth c b L xs g t1 t2 x9 v9) {q r : Nat} {z : DS} {u : MS} {H : Heap} {locs : List Loc} {ls : Array Slot} {i : Nat} (hi : i + 8 ≤ L) (hR : REL z u) (hP : zP g [(deskL g q z).flatten, (mdlL g r u).flatten] H) (hD : zD (lwA s) [(deskL g q z).flatten, (mdlL g r u).flatten]) (hS : va_S (lwA s) s.heap H locs) (hl : lv_has ls 4 [(0, .ref b), (1, .ref q), (2, .ref r), (3, vI ((i : Nat) : Int))]) (kont : ∀ (z1 : DS) (u1 : MS) (H : Heap) (locs : List Loc), REL z1 u1 → zP g [(deskL g q z1).flatten, (mdlL g r u1).flatten] H → zD (lwA s) [(deskL g q z1).flatten, (mdlL g r u1).flatten] → va_S (lwA s) s.heap H locs → lGo p l e s m below meth c b H locs 1074 ls []) : lGo p l e s m below meth c b H locs 222 ls [] := by
  obtain ⟨hx, hb, hr, hml, hown, hts, hX, hbl, hlocks, hK, hXX, hL⟩ := id C
  have hbA : ¬ lwA s b := Nat.not_le.mpr hbl
  have hA : ∀ q : Nat, s.heap.size ≤ q → lwA s q := fun _ h => h
  obtain ⟨ans, PD, PM, hd, hm, hrel⟩ := pr_bus l g q r t1 t2 x9 v9 z u hR ((xs (i + 1)).toInt) ((xs (i + 2)).toInt) (i_rng _) (i_rng _)
  refine lv_aload_n hx hb dL_law_222 rfl (lv_at hl 1 rfl) ?_
  refine lv_aload_n hx hb dL_law_223 rfl (lv_at hl 0 rfl) ?_
  refine lv_iload_n hx hb dL_law_224 rfl (lv_at hl 3 rfl) ?_
  refine z_iconst hx hb dL_law_225 rfl ?_
  refine z_iadd hx hb (((i + 1) : Nat) : Int) (by omega) dL_law_226 ?_
  refine z_sld hx hb hX hbl hbA hS hL (i + 1) (by omega) dL_law_227 ?_
  refine lv_aload_n hx hb dL_law_228 rfl (lv_at hl 0 rfl) ?_
  refine lv_iload_n hx hb dL_law_229 rfl (lv_at hl 3 rfl) ?_
  refine z_iconst hx hb dL_law_230 rfl ?_
  refine z_iadd hx hb (((i + 2) : Nat) : Int) (by omega) dL_law_231 ?_
  refine z_sld hx hb hX hbl hbA hS hL (i + 2) (by omega) dL_law_232 ?_
  refine z_xVi (As := [vI (xs (i + 1)).toInt, vI (xs (i + 2)).toInt]) (rest := []) ⟨hx, hb, hml, hown, hts⟩ hK hP hD hS hA [0] [1] rfl rfl rfl hd (cwV 2 hts gL_law_X9_bus rfl rfl rfl (by decide +kernel) ⟨Nat.le_of_ble_eq_true rfl, Nat.le_of_ble_eq_true rfl⟩) 9 0 rfl rfl rfl zXL_b (zXL_s hXX hS) rfl hl.1 (Nat.le_of_ble_eq_true rfl) rfl dL_law_233 ⟨Nat.le_of_ble_eq_true rfl, Nat.le_of_ble_eq_true rfl⟩ (fun z1 H locs hPD hP hD hS => ?_)
  have hP : zP g [(mdlL g r u).flatten, (deskL g q z1).flatten] H := hP
  have hD : zD (lwA s) [(mdlL g r u).flatten, (deskL g q z1).flatten] := hD
  refine z_toI ans rfl ?_
  refine lv_aload_n hx hb dL_law_236 rfl (lv_at hl 2 rfl) ?_
  refine lv_aload_n hx hb dL_law_237 rfl (lv_at hl 0 rfl) ?_
  refine lv_iload_n hx hb dL_law_238 rfl (lv_at hl 3 rfl) ?_
  refine z_iconst hx hb dL_law_239 rfl ?_
  refine z_iadd hx hb (((i + 1) : Nat) : Int) (by omega) dL_law_240 ?_
  refine z_sld hx hb hX hbl hbA hS hL (i + 1) (by omega) dL_law_241 ?_
  refine lv_aload_n hx hb dL_law_242 rfl (lv_at hl 0 rfl) ?_
  refine lv_iload_n hx hb dL_law_243 rfl (lv_at hl 3 rfl) ?_
  refine z_iconst hx hb dL_law_244 rfl ?_
  refine z_iadd hx hb (((i + 2) : Nat) : Int) (by omega) dL_law_245 ?_
  refine z_sld hx hb hX hbl hbA hS hL (i + 2) (by omega) dL_law_246 ?_
  refine z_cVi (As := [vI (xs (i + 1)).toInt, vI (xs (i + 2)).toInt]) (rest := [vI ans]) ⟨hx, hb, hml, hown, hts⟩ hK hP hD hS hA [0] [1] rfl rfl rfl hm (cwV 2 hts gL_law_X10_bus rfl rfl rfl (by decide +kernel) ⟨Nat.le_of_ble_eq_true rfl, Nat.le_of_ble_eq_true rfl⟩) 10 0 rfl rfl rfl (fun _ _ _ _ _ _ => trivial) (fun _ _ _ => trivial) rfl hl.1 (Nat.le_of_ble_eq_true rfl) rfl dL_law_247 ⟨Nat.le_of_ble_eq_true rfl, Nat.le_of_ble_eq_true rfl⟩ (fun u1 H locs hPM hP hD hS => ?_)
  have hP : zP g [(deskL g q z1).flatten, (mdlL g r u1).flatten] H := hP
  have hD : zD (lwA s) [(deskL g q z1).flatten, (mdlL g r u1).flatten] := hD
  refine z_toI ans rfl ?_
  refine z_sameI (tgt := 1074) hx hb dL_law_250 (by decide) ?_
  exact kont z1 u1 H locs (hrel z1 u1 hPD hPM) hP hD hS
set_option maxHeartbeats 4000000 in
set_option maxRecDepth 100000 in
theorem lw_c5 {p : Program} {l : Launch} {e : Env} {s : State} {m : MethodId} {below : List Frame} {meth : Method} {c : Code} {b L : Nat} {xs : Nat → Int32} {g : zG} {t1 t2 : Nat} {x9 v9 : Nat → Nat} (C : lC p s m meth c b L xs g t1 t2 x9 v9) {q r : Nat} {z : DS} {u : MS} {H : Heap} {locs : List Loc} {ls : Array Slot} {i : Nat} (hi : i + 8 ≤ L) (hR : REL z u) (hP : zP g [(deskL g q z).flatten, (mdlL g r u).flatten] H) (hD : zD (lwA s) [(deskL g q z).flatten, (mdlL g r u).flatten]) (hS : va_S (lwA s) s.heap H locs) (hl : lv_has ls 4 [(0, .ref b), (1, .ref q), (2, .ref r), (3, vI ((i : Nat) : Int))]) (kont : ∀ (z1 : DS) (u1 : MS) (H : Heap) (locs : List Loc), REL z1 u1 → zP g [(deskL g q z1).flatten, (mdlL g r u1).flatten] H → zD (lwA s) [(deskL g q z1).flatten, (mdlL g r u1).flatten] → va_S (lwA s) s.heap H locs → lGo p l e s m below meth c b H locs 1074 ls []) : lGo p l e s m below meth c b H locs 255 ls [] := by
  obtain ⟨hx, hb, hr, hml, hown, hts, hX, hbl, hlocks, hK, hXX, hL⟩ := id C
  have hbA : ¬ lwA s b := Nat.not_le.mpr hbl
  have hA : ∀ q : Nat, s.heap.size ≤ q → lwA s q := fun _ h => h
  obtain ⟨ans, PD, PM, hd, hm, hrel⟩ := pr_phase l g q r t1 t2 x9 v9 z u hR ((xs (i + 1)).toInt) ((xs (i + 2)).toInt) ((xs (i + 3)).toInt) ((xs (i + 4)).toInt) ((xs (i + 5)).toInt) (i_rng _) (i_rng _) (i_rng _) (i_rng _) (i_rng _)
  refine lv_aload_n hx hb dL_law_255 rfl (lv_at hl 1 rfl) ?_
  refine lv_aload_n hx hb dL_law_256 rfl (lv_at hl 0 rfl) ?_
  refine lv_iload_n hx hb dL_law_257 rfl (lv_at hl 3 rfl) ?_
  refine z_iconst hx hb dL_law_258 rfl ?_
  refine z_iadd hx hb (((i + 1) : Nat) : Int) (by omega) dL_law_259 ?_
  refine z_sld hx hb hX hbl hbA hS hL (i + 1) (by omega) dL_law_260 ?_
  refine lv_aload_n hx hb dL_law_261 rfl (lv_at hl 0 rfl) ?_
  refine lv_iload_n hx hb dL_law_262 rfl (lv_at hl 3 rfl) ?_
  refine z_iconst hx hb dL_law_263 rfl ?_
  refine z_iadd hx hb (((i + 2) : Nat) : Int) (by omega) dL_law_264 ?_
  refine z_sld hx hb hX hbl hbA hS hL (i + 2) (by omega) dL_law_265 ?_
  refine lv_aload_n hx hb dL_law_266 rfl (lv_at hl 0 rfl) ?_
  refine lv_iload_n hx hb dL_law_267 rfl (lv_at hl 3 rfl) ?_
  refine z_iconst hx hb dL_law_268 rfl ?_
  refine z_iadd hx hb (((i + 3) : Nat) : Int) (by omega) dL_law_269 ?_
  refine z_sld hx hb hX hbl hbA hS hL (i + 3) (by omega) dL_law_270 ?_
  refine lv_aload_n hx hb dL_law_271 rfl (lv_at hl 0 rfl) ?_
  refine lv_iload_n hx hb dL_law_272 rfl (lv_at hl 3 rfl) ?_
  refine z_iconst hx hb dL_law_273 rfl ?_
  refine z_iadd hx hb (((i + 4) : Nat) : Int) (by omega) dL_law_274 ?_
  refine z_sld hx hb hX hbl hbA hS hL (i + 4) (by omega) dL_law_275 ?_
  refine lv_aload_n hx hb dL_law_276 rfl (lv_at hl 0 rfl) ?_
  refine lv_iload_n hx hb dL_law_277 rfl (lv_at hl 3 rfl) ?_
  refine z_iconst hx hb dL_law_278 rfl ?_
  refine z_iadd hx hb (((i + 5) : Nat) : Int) (by omega) dL_law_279 ?_
  refine z_sld hx hb hX hbl hbA hS hL (i + 5) (by omega) dL_law_280 ?_
  refine z_xVi (As := [vI (xs (i + 1)).toInt, vI (xs (i + 2)).toInt, vI (xs (i + 3)).toInt, vI (xs (i + 4)).toInt, vI (xs (i + 5)).toInt]) (rest := []) ⟨hx, hb, hml, hown, hts⟩ hK hP hD hS hA [0] [1] rfl rfl rfl hd (cwV 5 hts gL_law_X9_phase rfl rfl rfl (by decide +kernel) ⟨Nat.le_of_ble_eq_true rfl, Nat.le_of_ble_eq_true rfl⟩) 9 0 rfl rfl rfl zXL_b (zXL_s hXX hS) rfl hl.1 (Nat.le_of_ble_eq_true rfl) rfl dL_law_281 ⟨Nat.le_of_ble_eq_true rfl, Nat.le_of_ble_eq_true rfl⟩ (fun z1 H locs hPD hP hD hS => ?_)
  have hP : zP g [(mdlL g r u).flatten, (deskL g q z1).flatten] H := hP
  have hD : zD (lwA s) [(mdlL g r u).flatten, (deskL g q z1).flatten] := hD
  refine z_toI ans rfl ?_
  refine lv_aload_n hx hb dL_law_284 rfl (lv_at hl 2 rfl) ?_
  refine lv_aload_n hx hb dL_law_285 rfl (lv_at hl 0 rfl) ?_
  refine lv_iload_n hx hb dL_law_286 rfl (lv_at hl 3 rfl) ?_
  refine z_iconst hx hb dL_law_287 rfl ?_
  refine z_iadd hx hb (((i + 1) : Nat) : Int) (by omega) dL_law_288 ?_
  refine z_sld hx hb hX hbl hbA hS hL (i + 1) (by omega) dL_law_289 ?_
  refine lv_aload_n hx hb dL_law_290 rfl (lv_at hl 0 rfl) ?_
  refine lv_iload_n hx hb dL_law_291 rfl (lv_at hl 3 rfl) ?_
  refine z_iconst hx hb dL_law_292 rfl ?_
  refine z_iadd hx hb (((i + 2) : Nat) : Int) (by omega) dL_law_293 ?_
  refine z_sld hx hb hX hbl hbA hS hL (i + 2) (by omega) dL_law_294 ?_
  refine lv_aload_n hx hb dL_law_295 rfl (lv_at hl 0 rfl) ?_
  refine lv_iload_n hx hb dL_law_296 rfl (lv_at hl 3 rfl) ?_
  refine z_iconst hx hb dL_law_297 rfl ?_
  refine z_iadd hx hb (((i + 3) : Nat) : Int) (by omega) dL_law_298 ?_
  refine z_sld hx hb hX hbl hbA hS hL (i + 3) (by omega) dL_law_299 ?_
  refine lv_aload_n hx hb dL_law_300 rfl (lv_at hl 0 rfl) ?_
  refine lv_iload_n hx hb dL_law_301 rfl (lv_at hl 3 rfl) ?_
  refine z_iconst hx hb dL_law_302 rfl ?_
  refine z_iadd hx hb (((i + 4) : Nat) : Int) (by omega) dL_law_303 ?_
  refine z_sld hx hb hX hbl hbA hS hL (i + 4) (by omega) dL_law_304 ?_
  refine lv_aload_n hx hb dL_law_305 rfl (lv_at hl 0 rfl) ?_
  refine lv_iload_n hx hb dL_law_306 rfl (lv_at hl 3 rfl) ?_
  refine z_iconst hx hb dL_law_307 rfl ?_
  refine z_iadd hx hb (((i + 5) : Nat) : Int) (by omega) dL_law_308 ?_
  refine z_sld hx hb hX hbl hbA hS hL (i + 5) (by omega) dL_law_309 ?_
  refine z_cVi (As := [vI (xs (i + 1)).toInt, vI (xs (i + 2)).toInt, vI (xs (i + 3)).toInt, vI (xs (i + 4)).toInt, vI (xs (i + 5)).toInt]) (rest := [vI ans]) ⟨hx, hb, hml, hown, hts⟩ hK hP hD hS hA [0] [1] rfl rfl rfl hm (cwV 5 hts gL_law_X10_phase rfl rfl rfl (by decide +kernel) ⟨Nat.le_of_ble_eq_true rfl, Nat.le_of_ble_eq_true rfl⟩) 10 0 rfl rfl rfl (fun _ _ _ _ _ _ => trivial) (fun _ _ _ => trivial) rfl hl.1 (Nat.le_of_ble_eq_true rfl) rfl dL_law_310 ⟨Nat.le_of_ble_eq_true rfl, Nat.le_of_ble_eq_true rfl⟩ (fun u1 H locs hPM hP hD hS => ?_)
  have hP : zP g [(deskL g q z1).flatten, (mdlL g r u1).flatten] H := hP
  have hD : zD (lwA s) [(deskL g q z1).flatten, (mdlL g r u1).flatten] := hD
  refine z_toI ans rfl ?_
  refine z_sameI (tgt := 1074) hx hb dL_law_313 (by decide) ?_
  exact kont z1 u1 H locs (hrel z1 u1 hPD hPM) hP hD hS
set_option maxHeartbeats 4000000 in
set_option maxRecDepth 100000 in
theorem lw_c6 {p : Program} {l : Launch} {e : Env} {s : State} {m : MethodId} {below : List Frame} {meth : Method} {c : Code} {b L : Nat} {xs : Nat → Int32} {g : zG} {t1 t2 : Nat} {x9 v9 : Nat → Nat} (C : lC p s m meth c b L xs g t1 t2 x9 v9) {q r : Nat} {z : DS} {u : MS} {H : Heap} {locs : List Loc} {ls : Array Slot} {i : Nat} (hi : i + 8 ≤ L) (hR : REL z u) (hP : zP g [(deskL g q z).flatten, (mdlL g r u).flatten] H) (hD : zD (lwA s) [(deskL g q z).flatten, (mdlL g r u).flatten]) (hS : va_S (lwA s) s.heap H locs) (hl : lv_has ls 4 [(0, .ref b), (1, .ref q), (2, .ref r), (3, vI ((i : Nat) : Int))]) (kont : ∀ (z1 : DS) (u1 : MS) (H : Heap) (locs : List Loc), REL z1 u1 → zP g [(deskL g q z1).flatten, (mdlL g r u1).flatten] H → zD (lwA s) [(deskL g q z1).flatten, (mdlL g r u1).flatten] → va_S (lwA s) s.heap H locs → lGo p l e s m below meth c b H locs 1074 ls []) : lGo p l e s m below meth c b H locs 318 ls [] := by
  obtain ⟨hx, hb, hr, hml, hown, hts, hX, hbl, hlocks, hK, hXX, hL⟩ := id C
  have hbA : ¬ lwA s b := Nat.not_le.mpr hbl
  have hA : ∀ q : Nat, s.heap.size ≤ q → lwA s q := fun _ h => h
  obtain ⟨ans, PD, PM, hd, hm, hrel⟩ := pr_split l g q r t1 t2 x9 v9 z u hR  
  refine lv_aload_n hx hb dL_law_318 rfl (lv_at hl 1 rfl) ?_
  refine z_xVi (As := []) (rest := []) ⟨hx, hb, hml, hown, hts⟩ hK hP hD hS hA [0] [1] rfl rfl rfl hd (cwV 0 hts gL_law_X9_split rfl rfl rfl (by decide +kernel) ⟨Nat.le_of_ble_eq_true rfl, Nat.le_of_ble_eq_true rfl⟩) 9 0 rfl rfl rfl zXL_b (zXL_s hXX hS) rfl hl.1 (Nat.le_of_ble_eq_true rfl) rfl dL_law_319 ⟨Nat.le_of_ble_eq_true rfl, Nat.le_of_ble_eq_true rfl⟩ (fun z1 H locs hPD hP hD hS => ?_)
  have hP : zP g [(mdlL g r u).flatten, (deskL g q z1).flatten] H := hP
  have hD : zD (lwA s) [(mdlL g r u).flatten, (deskL g q z1).flatten] := hD
  refine z_toI ans rfl ?_
  refine lv_aload_n hx hb dL_law_322 rfl (lv_at hl 2 rfl) ?_
  refine z_cVi (As := []) (rest := [vI ans]) ⟨hx, hb, hml, hown, hts⟩ hK hP hD hS hA [0] [1] rfl rfl rfl hm (cwV 0 hts gL_law_X10_split rfl rfl rfl (by decide +kernel) ⟨Nat.le_of_ble_eq_true rfl, Nat.le_of_ble_eq_true rfl⟩) 10 0 rfl rfl rfl (fun _ _ _ _ _ _ => trivial) (fun _ _ _ => trivial) rfl hl.1 (Nat.le_of_ble_eq_true rfl) rfl dL_law_323 ⟨Nat.le_of_ble_eq_true rfl, Nat.le_of_ble_eq_true rfl⟩ (fun u1 H locs hPM hP hD hS => ?_)
  have hP : zP g [(deskL g q z1).flatten, (mdlL g r u1).flatten] H := hP
  have hD : zD (lwA s) [(deskL g q z1).flatten, (mdlL g r u1).flatten] := hD
  refine z_toI ans rfl ?_
  refine z_sameI (tgt := 1074) hx hb dL_law_326 (by decide) ?_
  exact kont z1 u1 H locs (hrel z1 u1 hPD hPM) hP hD hS
set_option maxHeartbeats 4000000 in
set_option maxRecDepth 100000 in
theorem lw_c7 {p : Program} {l : Launch} {e : Env} {s : State} {m : MethodId} {below : List Frame} {meth : Method} {c : Code} {b L : Nat} {xs : Nat → Int32} {g : zG} {t1 t2 : Nat} {x9 v9 : Nat → Nat} (C : lC p s m meth c b L xs g t1 t2 x9 v9) {q r : Nat} {z : DS} {u : MS} {H : Heap} {locs : List Loc} {ls : Array Slot} {i : Nat} (hi : i + 8 ≤ L) (hR : REL z u) (hP : zP g [(deskL g q z).flatten, (mdlL g r u).flatten] H) (hD : zD (lwA s) [(deskL g q z).flatten, (mdlL g r u).flatten]) (hS : va_S (lwA s) s.heap H locs) (hl : lv_has ls 4 [(0, .ref b), (1, .ref q), (2, .ref r), (3, vI ((i : Nat) : Int))]) (kont : ∀ (z1 : DS) (u1 : MS) (H : Heap) (locs : List Loc), REL z1 u1 → zP g [(deskL g q z1).flatten, (mdlL g r u1).flatten] H → zD (lwA s) [(deskL g q z1).flatten, (mdlL g r u1).flatten] → va_S (lwA s) s.heap H locs → lGo p l e s m below meth c b H locs 1074 ls []) : lGo p l e s m below meth c b H locs 331 ls [] := by
  obtain ⟨hx, hb, hr, hml, hown, hts, hX, hbl, hlocks, hK, hXX, hL⟩ := id C
  have hbA : ¬ lwA s b := Nat.not_le.mpr hbl
  have hA : ∀ q : Nat, s.heap.size ≤ q → lwA s q := fun _ h => h
  obtain ⟨ans, PD, PM, hd, hm, hrel⟩ := pr_join l g q r t1 t2 x9 v9 z u hR  
  refine lv_aload_n hx hb dL_law_331 rfl (lv_at hl 1 rfl) ?_
  refine z_xVi (As := []) (rest := []) ⟨hx, hb, hml, hown, hts⟩ hK hP hD hS hA [0] [1] rfl rfl rfl hd (cwV 0 hts gL_law_X9_join rfl rfl rfl (by decide +kernel) ⟨Nat.le_of_ble_eq_true rfl, Nat.le_of_ble_eq_true rfl⟩) 9 0 rfl rfl rfl zXL_b (zXL_s hXX hS) rfl hl.1 (Nat.le_of_ble_eq_true rfl) rfl dL_law_332 ⟨Nat.le_of_ble_eq_true rfl, Nat.le_of_ble_eq_true rfl⟩ (fun z1 H locs hPD hP hD hS => ?_)
  have hP : zP g [(mdlL g r u).flatten, (deskL g q z1).flatten] H := hP
  have hD : zD (lwA s) [(mdlL g r u).flatten, (deskL g q z1).flatten] := hD
  refine z_toI ans rfl ?_
  refine lv_aload_n hx hb dL_law_335 rfl (lv_at hl 2 rfl) ?_
  refine z_cVi (As := []) (rest := [vI ans]) ⟨hx, hb, hml, hown, hts⟩ hK hP hD hS hA [0] [1] rfl rfl rfl hm (cwV 0 hts gL_law_X10_join rfl rfl rfl (by decide +kernel) ⟨Nat.le_of_ble_eq_true rfl, Nat.le_of_ble_eq_true rfl⟩) 10 0 rfl rfl rfl (fun _ _ _ _ _ _ => trivial) (fun _ _ _ => trivial) rfl hl.1 (Nat.le_of_ble_eq_true rfl) rfl dL_law_336 ⟨Nat.le_of_ble_eq_true rfl, Nat.le_of_ble_eq_true rfl⟩ (fun u1 H locs hPM hP hD hS => ?_)
  have hP : zP g [(deskL g q z1).flatten, (mdlL g r u1).flatten] H := hP
  have hD : zD (lwA s) [(deskL g q z1).flatten, (mdlL g r u1).flatten] := hD
  refine z_toI ans rfl ?_
  refine z_sameI (tgt := 1074) hx hb dL_law_339 (by decide) ?_
  exact kont z1 u1 H locs (hrel z1 u1 hPD hPM) hP hD hS
set_option maxHeartbeats 4000000 in
set_option maxRecDepth 100000 in
theorem lw_c8 {p : Program} {l : Launch} {e : Env} {s : State} {m : MethodId} {below : List Frame} {meth : Method} {c : Code} {b L : Nat} {xs : Nat → Int32} {g : zG} {t1 t2 : Nat} {x9 v9 : Nat → Nat} (C : lC p s m meth c b L xs g t1 t2 x9 v9) {q r : Nat} {z : DS} {u : MS} {H : Heap} {locs : List Loc} {ls : Array Slot} {i : Nat} (hi : i + 8 ≤ L) (hR : REL z u) (hP : zP g [(deskL g q z).flatten, (mdlL g r u).flatten] H) (hD : zD (lwA s) [(deskL g q z).flatten, (mdlL g r u).flatten]) (hS : va_S (lwA s) s.heap H locs) (hl : lv_has ls 4 [(0, .ref b), (1, .ref q), (2, .ref r), (3, vI ((i : Nat) : Int))]) (kont : ∀ (z1 : DS) (u1 : MS) (H : Heap) (locs : List Loc), REL z1 u1 → zP g [(deskL g q z1).flatten, (mdlL g r u1).flatten] H → zD (lwA s) [(deskL g q z1).flatten, (mdlL g r u1).flatten] → va_S (lwA s) s.heap H locs → lGo p l e s m below meth c b H locs 1074 ls []) : lGo p l e s m below meth c b H locs 344 ls [] := by
  obtain ⟨hx, hb, hr, hml, hown, hts, hX, hbl, hlocks, hK, hXX, hL⟩ := id C
  have hbA : ¬ lwA s b := Nat.not_le.mpr hbl
  have hA : ∀ q : Nat, s.heap.size ≤ q → lwA s q := fun _ h => h
  obtain ⟨ans, PD, PM, hd, hm, hrel⟩ := pr_turn l g q r t1 t2 x9 v9 z u hR  
  refine lv_aload_n hx hb dL_law_344 rfl (lv_at hl 1 rfl) ?_
  refine z_xVi (As := []) (rest := []) ⟨hx, hb, hml, hown, hts⟩ hK hP hD hS hA [0] [1] rfl rfl rfl hd (cwV 0 hts gL_law_X9_turn rfl rfl rfl (by decide +kernel) ⟨Nat.le_of_ble_eq_true rfl, Nat.le_of_ble_eq_true rfl⟩) 9 0 rfl rfl rfl zXL_b (zXL_s hXX hS) rfl hl.1 (Nat.le_of_ble_eq_true rfl) rfl dL_law_345 ⟨Nat.le_of_ble_eq_true rfl, Nat.le_of_ble_eq_true rfl⟩ (fun z1 H locs hPD hP hD hS => ?_)
  have hP : zP g [(mdlL g r u).flatten, (deskL g q z1).flatten] H := hP
  have hD : zD (lwA s) [(mdlL g r u).flatten, (deskL g q z1).flatten] := hD
  refine z_toI ans rfl ?_
  refine lv_aload_n hx hb dL_law_348 rfl (lv_at hl 2 rfl) ?_
  refine z_cVi (As := []) (rest := [vI ans]) ⟨hx, hb, hml, hown, hts⟩ hK hP hD hS hA [0] [1] rfl rfl rfl hm (cwV 0 hts gL_law_X10_turn rfl rfl rfl (by decide +kernel) ⟨Nat.le_of_ble_eq_true rfl, Nat.le_of_ble_eq_true rfl⟩) 10 0 rfl rfl rfl (fun _ _ _ _ _ _ => trivial) (fun _ _ _ => trivial) rfl hl.1 (Nat.le_of_ble_eq_true rfl) rfl dL_law_349 ⟨Nat.le_of_ble_eq_true rfl, Nat.le_of_ble_eq_true rfl⟩ (fun u1 H locs hPM hP hD hS => ?_)
  have hP : zP g [(deskL g q z1).flatten, (mdlL g r u1).flatten] H := hP
  have hD : zD (lwA s) [(deskL g q z1).flatten, (mdlL g r u1).flatten] := hD
  refine z_toI ans rfl ?_
  refine z_sameI (tgt := 1074) hx hb dL_law_352 (by decide) ?_
  exact kont z1 u1 H locs (hrel z1 u1 hPD hPM) hP hD hS
set_option maxHeartbeats 4000000 in
set_option maxRecDepth 100000 in
theorem lw_c9 {p : Program} {l : Launch} {e : Env} {s : State} {m : MethodId} {below : List Frame} {meth : Method} {c : Code} {b L : Nat} {xs : Nat → Int32} {g : zG} {t1 t2 : Nat} {x9 v9 : Nat → Nat} (C : lC p s m meth c b L xs g t1 t2 x9 v9) {q r : Nat} {z : DS} {u : MS} {H : Heap} {locs : List Loc} {ls : Array Slot} {i : Nat} (hi : i + 8 ≤ L) (hR : REL z u) (hP : zP g [(deskL g q z).flatten, (mdlL g r u).flatten] H) (hD : zD (lwA s) [(deskL g q z).flatten, (mdlL g r u).flatten]) (hS : va_S (lwA s) s.heap H locs) (hl : lv_has ls 4 [(0, .ref b), (1, .ref q), (2, .ref r), (3, vI ((i : Nat) : Int))]) (kont : ∀ (z1 : DS) (u1 : MS) (H : Heap) (locs : List Loc), REL z1 u1 → zP g [(deskL g q z1).flatten, (mdlL g r u1).flatten] H → zD (lwA s) [(deskL g q z1).flatten, (mdlL g r u1).flatten] → va_S (lwA s) s.heap H locs → lGo p l e s m below meth c b H locs 1074 ls []) : lGo p l e s m below meth c b H locs 357 ls [] := by
  obtain ⟨hx, hb, hr, hml, hown, hts, hX, hbl, hlocks, hK, hXX, hL⟩ := id C
  have hbA : ¬ lwA s b := Nat.not_le.mpr hbl
  have hA : ∀ q : Nat, s.heap.size ≤ q → lwA s q := fun _ h => h
  obtain ⟨ans, PD, PM, hd, hm, hrel⟩ := pr_load l g q r t1 t2 x9 v9 z u hR ((xs (i + 1)).toInt) ((xs (i + 2)).toInt) ((xs (i + 3)).toInt) (i_rng _) (i_rng _) (i_rng _)
  refine lv_aload_n hx hb dL_law_357 rfl (lv_at hl 1 rfl) ?_
  refine lv_aload_n hx hb dL_law_358 rfl (lv_at hl 0 rfl) ?_
  refine lv_iload_n hx hb dL_law_359 rfl (lv_at hl 3 rfl) ?_
  refine z_iconst hx hb dL_law_360 rfl ?_
  refine z_iadd hx hb (((i + 1) : Nat) : Int) (by omega) dL_law_361 ?_
  refine z_sld hx hb hX hbl hbA hS hL (i + 1) (by omega) dL_law_362 ?_
  refine lv_aload_n hx hb dL_law_363 rfl (lv_at hl 0 rfl) ?_
  refine lv_iload_n hx hb dL_law_364 rfl (lv_at hl 3 rfl) ?_
  refine z_iconst hx hb dL_law_365 rfl ?_
  refine z_iadd hx hb (((i + 2) : Nat) : Int) (by omega) dL_law_366 ?_
  refine z_sld hx hb hX hbl hbA hS hL (i + 2) (by omega) dL_law_367 ?_
  refine lv_aload_n hx hb dL_law_368 rfl (lv_at hl 0 rfl) ?_
  refine lv_iload_n hx hb dL_law_369 rfl (lv_at hl 3 rfl) ?_
  refine z_iconst hx hb dL_law_370 rfl ?_
  refine z_iadd hx hb (((i + 3) : Nat) : Int) (by omega) dL_law_371 ?_
  refine z_sld hx hb hX hbl hbA hS hL (i + 3) (by omega) dL_law_372 ?_
  refine z_xVi (As := [vI (xs (i + 1)).toInt, vI (xs (i + 2)).toInt, vI (xs (i + 3)).toInt]) (rest := []) ⟨hx, hb, hml, hown, hts⟩ hK hP hD hS hA [0] [1] rfl rfl rfl hd (cwV 3 hts gL_law_X9_load rfl rfl rfl (by decide +kernel) ⟨Nat.le_of_ble_eq_true rfl, Nat.le_of_ble_eq_true rfl⟩) 9 0 rfl rfl rfl zXL_b (zXL_s hXX hS) rfl hl.1 (Nat.le_of_ble_eq_true rfl) rfl dL_law_373 ⟨Nat.le_of_ble_eq_true rfl, Nat.le_of_ble_eq_true rfl⟩ (fun z1 H locs hPD hP hD hS => ?_)
  have hP : zP g [(mdlL g r u).flatten, (deskL g q z1).flatten] H := hP
  have hD : zD (lwA s) [(mdlL g r u).flatten, (deskL g q z1).flatten] := hD
  refine z_toI ans rfl ?_
  refine lv_aload_n hx hb dL_law_376 rfl (lv_at hl 2 rfl) ?_
  refine lv_aload_n hx hb dL_law_377 rfl (lv_at hl 0 rfl) ?_
  refine lv_iload_n hx hb dL_law_378 rfl (lv_at hl 3 rfl) ?_
  refine z_iconst hx hb dL_law_379 rfl ?_
  refine z_iadd hx hb (((i + 1) : Nat) : Int) (by omega) dL_law_380 ?_
  refine z_sld hx hb hX hbl hbA hS hL (i + 1) (by omega) dL_law_381 ?_
  refine lv_aload_n hx hb dL_law_382 rfl (lv_at hl 0 rfl) ?_
  refine lv_iload_n hx hb dL_law_383 rfl (lv_at hl 3 rfl) ?_
  refine z_iconst hx hb dL_law_384 rfl ?_
  refine z_iadd hx hb (((i + 2) : Nat) : Int) (by omega) dL_law_385 ?_
  refine z_sld hx hb hX hbl hbA hS hL (i + 2) (by omega) dL_law_386 ?_
  refine lv_aload_n hx hb dL_law_387 rfl (lv_at hl 0 rfl) ?_
  refine lv_iload_n hx hb dL_law_388 rfl (lv_at hl 3 rfl) ?_
  refine z_iconst hx hb dL_law_389 rfl ?_
  refine z_iadd hx hb (((i + 3) : Nat) : Int) (by omega) dL_law_390 ?_
  refine z_sld hx hb hX hbl hbA hS hL (i + 3) (by omega) dL_law_391 ?_
  refine z_cVi (As := [vI (xs (i + 1)).toInt, vI (xs (i + 2)).toInt, vI (xs (i + 3)).toInt]) (rest := [vI ans]) ⟨hx, hb, hml, hown, hts⟩ hK hP hD hS hA [0] [1] rfl rfl rfl hm (cwV 3 hts gL_law_X10_load rfl rfl rfl (by decide +kernel) ⟨Nat.le_of_ble_eq_true rfl, Nat.le_of_ble_eq_true rfl⟩) 10 0 rfl rfl rfl (fun _ _ _ _ _ _ => trivial) (fun _ _ _ => trivial) rfl hl.1 (Nat.le_of_ble_eq_true rfl) rfl dL_law_392 ⟨Nat.le_of_ble_eq_true rfl, Nat.le_of_ble_eq_true rfl⟩ (fun u1 H locs hPM hP hD hS => ?_)
  have hP : zP g [(deskL g q z1).flatten, (mdlL g r u1).flatten] H := hP
  have hD : zD (lwA s) [(deskL g q z1).flatten, (mdlL g r u1).flatten] := hD
  refine z_toI ans rfl ?_
  refine z_sameI (tgt := 1074) hx hb dL_law_395 (by decide) ?_
  exact kont z1 u1 H locs (hrel z1 u1 hPD hPM) hP hD hS
set_option maxHeartbeats 4000000 in
set_option maxRecDepth 100000 in
theorem lw_c10 {p : Program} {l : Launch} {e : Env} {s : State} {m : MethodId} {below : List Frame} {meth : Method} {c : Code} {b L : Nat} {xs : Nat → Int32} {g : zG} {t1 t2 : Nat} {x9 v9 : Nat → Nat} (C : lC p s m meth c b L xs g t1 t2 x9 v9) {q r : Nat} {z : DS} {u : MS} {H : Heap} {locs : List Loc} {ls : Array Slot} {i : Nat} (hi : i + 8 ≤ L) (hR : REL z u) (hP : zP g [(deskL g q z).flatten, (mdlL g r u).flatten] H) (hD : zD (lwA s) [(deskL g q z).flatten, (mdlL g r u).flatten]) (hS : va_S (lwA s) s.heap H locs) (hl : lv_has ls 4 [(0, .ref b), (1, .ref q), (2, .ref r), (3, vI ((i : Nat) : Int))]) (kont : ∀ (z1 : DS) (u1 : MS) (H : Heap) (locs : List Loc), REL z1 u1 → zP g [(deskL g q z1).flatten, (mdlL g r u1).flatten] H → zD (lwA s) [(deskL g q z1).flatten, (mdlL g r u1).flatten] → va_S (lwA s) s.heap H locs → lGo p l e s m below meth c b H locs 1074 ls []) : lGo p l e s m below meth c b H locs 400 ls [] := by
  obtain ⟨hx, hb, hr, hml, hown, hts, hX, hbl, hlocks, hK, hXX, hL⟩ := id C
  have hbA : ¬ lwA s b := Nat.not_le.mpr hbl
  have hA : ∀ q : Nat, s.heap.size ≤ q → lwA s q := fun _ h => h
  obtain ⟨ans, PD, PM, hd, hm, hrel⟩ := pr_undo l g q r t1 t2 x9 v9 z u hR  
  refine lv_aload_n hx hb dL_law_400 rfl (lv_at hl 1 rfl) ?_
  refine z_xVi (As := []) (rest := []) ⟨hx, hb, hml, hown, hts⟩ hK hP hD hS hA [0] [1] rfl rfl rfl hd (cwV 0 hts gL_law_X9_undo rfl rfl rfl (by decide +kernel) ⟨Nat.le_of_ble_eq_true rfl, Nat.le_of_ble_eq_true rfl⟩) 9 0 rfl rfl rfl zXL_b (zXL_s hXX hS) rfl hl.1 (Nat.le_of_ble_eq_true rfl) rfl dL_law_401 ⟨Nat.le_of_ble_eq_true rfl, Nat.le_of_ble_eq_true rfl⟩ (fun z1 H locs hPD hP hD hS => ?_)
  have hP : zP g [(mdlL g r u).flatten, (deskL g q z1).flatten] H := hP
  have hD : zD (lwA s) [(mdlL g r u).flatten, (deskL g q z1).flatten] := hD
  refine z_toI ans rfl ?_
  refine lv_aload_n hx hb dL_law_404 rfl (lv_at hl 2 rfl) ?_
  refine z_cVi (As := []) (rest := [vI ans]) ⟨hx, hb, hml, hown, hts⟩ hK hP hD hS hA [0] [1] rfl rfl rfl hm (cwV 0 hts gL_law_X10_undo rfl rfl rfl (by decide +kernel) ⟨Nat.le_of_ble_eq_true rfl, Nat.le_of_ble_eq_true rfl⟩) 10 0 rfl rfl rfl (fun _ _ _ _ _ _ => trivial) (fun _ _ _ => trivial) rfl hl.1 (Nat.le_of_ble_eq_true rfl) rfl dL_law_405 ⟨Nat.le_of_ble_eq_true rfl, Nat.le_of_ble_eq_true rfl⟩ (fun u1 H locs hPM hP hD hS => ?_)
  have hP : zP g [(deskL g q z1).flatten, (mdlL g r u1).flatten] H := hP
  have hD : zD (lwA s) [(deskL g q z1).flatten, (mdlL g r u1).flatten] := hD
  refine z_toI ans rfl ?_
  refine z_sameI (tgt := 1074) hx hb dL_law_408 (by decide) ?_
  exact kont z1 u1 H locs (hrel z1 u1 hPD hPM) hP hD hS
set_option maxHeartbeats 4000000 in
set_option maxRecDepth 100000 in
theorem lw_c11 {p : Program} {l : Launch} {e : Env} {s : State} {m : MethodId} {below : List Frame} {meth : Method} {c : Code} {b L : Nat} {xs : Nat → Int32} {g : zG} {t1 t2 : Nat} {x9 v9 : Nat → Nat} (C : lC p s m meth c b L xs g t1 t2 x9 v9) {q r : Nat} {z : DS} {u : MS} {H : Heap} {locs : List Loc} {ls : Array Slot} {i : Nat} (hi : i + 8 ≤ L) (hR : REL z u) (hP : zP g [(deskL g q z).flatten, (mdlL g r u).flatten] H) (hD : zD (lwA s) [(deskL g q z).flatten, (mdlL g r u).flatten]) (hS : va_S (lwA s) s.heap H locs) (hl : lv_has ls 4 [(0, .ref b), (1, .ref q), (2, .ref r), (3, vI ((i : Nat) : Int))]) (kont : ∀ (z1 : DS) (u1 : MS) (H : Heap) (locs : List Loc), REL z1 u1 → zP g [(deskL g q z1).flatten, (mdlL g r u1).flatten] H → zD (lwA s) [(deskL g q z1).flatten, (mdlL g r u1).flatten] → va_S (lwA s) s.heap H locs → lGo p l e s m below meth c b H locs 1074 ls []) : lGo p l e s m below meth c b H locs 413 ls [] := by
  obtain ⟨hx, hb, hr, hml, hown, hts, hX, hbl, hlocks, hK, hXX, hL⟩ := id C
  have hbA : ¬ lwA s b := Nat.not_le.mpr hbl
  have hA : ∀ q : Nat, s.heap.size ≤ q → lwA s q := fun _ h => h
  obtain ⟨ans, PD, PM, hd, hm, hrel⟩ := pr_keep l g q r t1 t2 x9 v9 z u hR ((xs (i + 1)).toInt) (i_rng _)
  refine lv_aload_n hx hb dL_law_413 rfl (lv_at hl 1 rfl) ?_
  refine lv_aload_n hx hb dL_law_414 rfl (lv_at hl 0 rfl) ?_
  refine lv_iload_n hx hb dL_law_415 rfl (lv_at hl 3 rfl) ?_
  refine z_iconst hx hb dL_law_416 rfl ?_
  refine z_iadd hx hb (((i + 1) : Nat) : Int) (by omega) dL_law_417 ?_
  refine z_sld hx hb hX hbl hbA hS hL (i + 1) (by omega) dL_law_418 ?_
  refine z_xVi (As := [vI (xs (i + 1)).toInt]) (rest := []) ⟨hx, hb, hml, hown, hts⟩ hK hP hD hS hA [0] [1] rfl rfl rfl hd (cwV 1 hts gL_law_X9_keep rfl rfl rfl (by decide +kernel) ⟨Nat.le_of_ble_eq_true rfl, Nat.le_of_ble_eq_true rfl⟩) 9 0 rfl rfl rfl zXL_b (zXL_s hXX hS) rfl hl.1 (Nat.le_of_ble_eq_true rfl) rfl dL_law_419 ⟨Nat.le_of_ble_eq_true rfl, Nat.le_of_ble_eq_true rfl⟩ (fun z1 H locs hPD hP hD hS => ?_)
  have hP : zP g [(mdlL g r u).flatten, (deskL g q z1).flatten] H := hP
  have hD : zD (lwA s) [(mdlL g r u).flatten, (deskL g q z1).flatten] := hD
  refine z_toI ans rfl ?_
  refine lv_aload_n hx hb dL_law_422 rfl (lv_at hl 2 rfl) ?_
  refine lv_aload_n hx hb dL_law_423 rfl (lv_at hl 0 rfl) ?_
  refine lv_iload_n hx hb dL_law_424 rfl (lv_at hl 3 rfl) ?_
  refine z_iconst hx hb dL_law_425 rfl ?_
  refine z_iadd hx hb (((i + 1) : Nat) : Int) (by omega) dL_law_426 ?_
  refine z_sld hx hb hX hbl hbA hS hL (i + 1) (by omega) dL_law_427 ?_
  refine z_cVi (As := [vI (xs (i + 1)).toInt]) (rest := [vI ans]) ⟨hx, hb, hml, hown, hts⟩ hK hP hD hS hA [0] [1] rfl rfl rfl hm (cwV 1 hts gL_law_X10_keep rfl rfl rfl (by decide +kernel) ⟨Nat.le_of_ble_eq_true rfl, Nat.le_of_ble_eq_true rfl⟩) 10 0 rfl rfl rfl (fun _ _ _ _ _ _ => trivial) (fun _ _ _ => trivial) rfl hl.1 (Nat.le_of_ble_eq_true rfl) rfl dL_law_428 ⟨Nat.le_of_ble_eq_true rfl, Nat.le_of_ble_eq_true rfl⟩ (fun u1 H locs hPM hP hD hS => ?_)
  have hP : zP g [(deskL g q z1).flatten, (mdlL g r u1).flatten] H := hP
  have hD : zD (lwA s) [(deskL g q z1).flatten, (mdlL g r u1).flatten] := hD
  refine z_toI ans rfl ?_
  refine z_sameI (tgt := 1074) hx hb dL_law_431 (by decide) ?_
  exact kont z1 u1 H locs (hrel z1 u1 hPD hPM) hP hD hS
set_option maxHeartbeats 4000000 in
set_option maxRecDepth 100000 in
theorem lw_c12 {p : Program} {l : Launch} {e : Env} {s : State} {m : MethodId} {below : List Frame} {meth : Method} {c : Code} {b L : Nat} {xs : Nat → Int32} {g : zG} {t1 t2 : Nat} {x9 v9 : Nat → Nat} (C : lC p s m meth c b L xs g t1 t2 x9 v9) {q r : Nat} {z : DS} {u : MS} {H : Heap} {locs : List Loc} {ls : Array Slot} {i : Nat} (hi : i + 8 ≤ L) (hR : REL z u) (hP : zP g [(deskL g q z).flatten, (mdlL g r u).flatten] H) (hD : zD (lwA s) [(deskL g q z).flatten, (mdlL g r u).flatten]) (hS : va_S (lwA s) s.heap H locs) (hl : lv_has ls 4 [(0, .ref b), (1, .ref q), (2, .ref r), (3, vI ((i : Nat) : Int))]) (kont : ∀ (z1 : DS) (u1 : MS) (H : Heap) (locs : List Loc), REL z1 u1 → zP g [(deskL g q z1).flatten, (mdlL g r u1).flatten] H → zD (lwA s) [(deskL g q z1).flatten, (mdlL g r u1).flatten] → va_S (lwA s) s.heap H locs → lGo p l e s m below meth c b H locs 1074 ls []) : lGo p l e s m below meth c b H locs 436 ls [] := by
  obtain ⟨hx, hb, hr, hml, hown, hts, hX, hbl, hlocks, hK, hXX, hL⟩ := id C
  have hbA : ¬ lwA s b := Nat.not_le.mpr hbl
  have hA : ∀ q : Nat, s.heap.size ≤ q → lwA s q := fun _ h => h
  obtain ⟨ans, PD, PM, hd, hm, hrel⟩ := pr_back l g q r t1 t2 x9 v9 z u hR ((xs (i + 1)).toInt) (i_rng _)
  refine lv_aload_n hx hb dL_law_436 rfl (lv_at hl 1 rfl) ?_
  refine lv_aload_n hx hb dL_law_437 rfl (lv_at hl 0 rfl) ?_
  refine lv_iload_n hx hb dL_law_438 rfl (lv_at hl 3 rfl) ?_
  refine z_iconst hx hb dL_law_439 rfl ?_
  refine z_iadd hx hb (((i + 1) : Nat) : Int) (by omega) dL_law_440 ?_
  refine z_sld hx hb hX hbl hbA hS hL (i + 1) (by omega) dL_law_441 ?_
  refine z_xVi (As := [vI (xs (i + 1)).toInt]) (rest := []) ⟨hx, hb, hml, hown, hts⟩ hK hP hD hS hA [0] [1] rfl rfl rfl hd (cwV 1 hts gL_law_X9_back rfl rfl rfl (by decide +kernel) ⟨Nat.le_of_ble_eq_true rfl, Nat.le_of_ble_eq_true rfl⟩) 9 0 rfl rfl rfl zXL_b (zXL_s hXX hS) rfl hl.1 (Nat.le_of_ble_eq_true rfl) rfl dL_law_442 ⟨Nat.le_of_ble_eq_true rfl, Nat.le_of_ble_eq_true rfl⟩ (fun z1 H locs hPD hP hD hS => ?_)
  have hP : zP g [(mdlL g r u).flatten, (deskL g q z1).flatten] H := hP
  have hD : zD (lwA s) [(mdlL g r u).flatten, (deskL g q z1).flatten] := hD
  refine z_toI ans rfl ?_
  refine lv_aload_n hx hb dL_law_445 rfl (lv_at hl 2 rfl) ?_
  refine lv_aload_n hx hb dL_law_446 rfl (lv_at hl 0 rfl) ?_
  refine lv_iload_n hx hb dL_law_447 rfl (lv_at hl 3 rfl) ?_
  refine z_iconst hx hb dL_law_448 rfl ?_
  refine z_iadd hx hb (((i + 1) : Nat) : Int) (by omega) dL_law_449 ?_
  refine z_sld hx hb hX hbl hbA hS hL (i + 1) (by omega) dL_law_450 ?_
  refine z_cVi (As := [vI (xs (i + 1)).toInt]) (rest := [vI ans]) ⟨hx, hb, hml, hown, hts⟩ hK hP hD hS hA [0] [1] rfl rfl rfl hm (cwV 1 hts gL_law_X10_back rfl rfl rfl (by decide +kernel) ⟨Nat.le_of_ble_eq_true rfl, Nat.le_of_ble_eq_true rfl⟩) 10 0 rfl rfl rfl (fun _ _ _ _ _ _ => trivial) (fun _ _ _ => trivial) rfl hl.1 (Nat.le_of_ble_eq_true rfl) rfl dL_law_451 ⟨Nat.le_of_ble_eq_true rfl, Nat.le_of_ble_eq_true rfl⟩ (fun u1 H locs hPM hP hD hS => ?_)
  have hP : zP g [(deskL g q z1).flatten, (mdlL g r u1).flatten] H := hP
  have hD : zD (lwA s) [(deskL g q z1).flatten, (mdlL g r u1).flatten] := hD
  refine z_toI ans rfl ?_
  refine z_sameI (tgt := 1074) hx hb dL_law_454 (by decide) ?_
  exact kont z1 u1 H locs (hrel z1 u1 hPD hPM) hP hD hS
set_option maxHeartbeats 4000000 in
set_option maxRecDepth 100000 in
theorem lw_c13 {p : Program} {l : Launch} {e : Env} {s : State} {m : MethodId} {below : List Frame} {meth : Method} {c : Code} {b L : Nat} {xs : Nat → Int32} {g : zG} {t1 t2 : Nat} {x9 v9 : Nat → Nat} (C : lC p s m meth c b L xs g t1 t2 x9 v9) {q r : Nat} {z : DS} {u : MS} {H : Heap} {locs : List Loc} {ls : Array Slot} {i : Nat} (hi : i + 8 ≤ L) (hR : REL z u) (hP : zP g [(deskL g q z).flatten, (mdlL g r u).flatten] H) (hD : zD (lwA s) [(deskL g q z).flatten, (mdlL g r u).flatten]) (hS : va_S (lwA s) s.heap H locs) (hl : lv_has ls 4 [(0, .ref b), (1, .ref q), (2, .ref r), (3, vI ((i : Nat) : Int))]) (kont : ∀ (z1 : DS) (u1 : MS) (H : Heap) (locs : List Loc), REL z1 u1 → zP g [(deskL g q z1).flatten, (mdlL g r u1).flatten] H → zD (lwA s) [(deskL g q z1).flatten, (mdlL g r u1).flatten] → va_S (lwA s) s.heap H locs → lGo p l e s m below meth c b H locs 1074 ls []) : lGo p l e s m below meth c b H locs 459 ls [] := by
  obtain ⟨hx, hb, hr, hml, hown, hts, hX, hbl, hlocks, hK, hXX, hL⟩ := id C
  have hbA : ¬ lwA s b := Nat.not_le.mpr hbl
  have hA : ∀ q : Nat, s.heap.size ≤ q → lwA s q := fun _ h => h
  obtain ⟨ans, PD, PM, hd, hm, hrel⟩ := pr_told l g q r t1 t2 x9 v9 z u hR ((xs (i + 1)).toInt) ((xs (i + 2)).toInt) ((xs (i + 3)).toInt) (i_rng _) (i_rng _) (i_rng _)
  refine lv_aload_n hx hb dL_law_459 rfl (lv_at hl 1 rfl) ?_
  refine lv_aload_n hx hb dL_law_460 rfl (lv_at hl 0 rfl) ?_
  refine lv_iload_n hx hb dL_law_461 rfl (lv_at hl 3 rfl) ?_
  refine z_iconst hx hb dL_law_462 rfl ?_
  refine z_iadd hx hb (((i + 1) : Nat) : Int) (by omega) dL_law_463 ?_
  refine z_sld hx hb hX hbl hbA hS hL (i + 1) (by omega) dL_law_464 ?_
  refine lv_aload_n hx hb dL_law_465 rfl (lv_at hl 0 rfl) ?_
  refine lv_iload_n hx hb dL_law_466 rfl (lv_at hl 3 rfl) ?_
  refine z_iconst hx hb dL_law_467 rfl ?_
  refine z_iadd hx hb (((i + 2) : Nat) : Int) (by omega) dL_law_468 ?_
  refine z_sld hx hb hX hbl hbA hS hL (i + 2) (by omega) dL_law_469 ?_
  refine lv_aload_n hx hb dL_law_470 rfl (lv_at hl 0 rfl) ?_
  refine lv_iload_n hx hb dL_law_471 rfl (lv_at hl 3 rfl) ?_
  refine z_iconst hx hb dL_law_472 rfl ?_
  refine z_iadd hx hb (((i + 3) : Nat) : Int) (by omega) dL_law_473 ?_
  refine z_sld hx hb hX hbl hbA hS hL (i + 3) (by omega) dL_law_474 ?_
  refine z_xVl (As := [vI (xs (i + 1)).toInt, vI (xs (i + 2)).toInt, vI (xs (i + 3)).toInt]) (rest := []) ⟨hx, hb, hml, hown, hts⟩ hK hP hD hS hA [0] [1] rfl rfl rfl hd (cwV 3 hts gL_law_X9_told rfl rfl rfl (by decide +kernel) ⟨Nat.le_of_ble_eq_true rfl, Nat.le_of_ble_eq_true rfl⟩) 9 0 rfl rfl rfl zXL_b (zXL_s hXX hS) rfl hl.1 (Nat.le_of_ble_eq_true rfl) rfl dL_law_475 ⟨Nat.le_of_ble_eq_true rfl, Nat.le_of_ble_eq_true rfl⟩ (fun z1 H locs hPD hP hD hS => ?_)
  have hP : zP g [(mdlL g r u).flatten, (deskL g q z1).flatten] H := hP
  have hD : zD (lwA s) [(mdlL g r u).flatten, (deskL g q z1).flatten] := hD
  refine z_toL ans rfl ?_
  refine lv_aload_n hx hb dL_law_478 rfl (lv_at hl 2 rfl) ?_
  refine lv_aload_n hx hb dL_law_479 rfl (lv_at hl 0 rfl) ?_
  refine lv_iload_n hx hb dL_law_480 rfl (lv_at hl 3 rfl) ?_
  refine z_iconst hx hb dL_law_481 rfl ?_
  refine z_iadd hx hb (((i + 1) : Nat) : Int) (by omega) dL_law_482 ?_
  refine z_sld hx hb hX hbl hbA hS hL (i + 1) (by omega) dL_law_483 ?_
  refine lv_aload_n hx hb dL_law_484 rfl (lv_at hl 0 rfl) ?_
  refine lv_iload_n hx hb dL_law_485 rfl (lv_at hl 3 rfl) ?_
  refine z_iconst hx hb dL_law_486 rfl ?_
  refine z_iadd hx hb (((i + 2) : Nat) : Int) (by omega) dL_law_487 ?_
  refine z_sld hx hb hX hbl hbA hS hL (i + 2) (by omega) dL_law_488 ?_
  refine lv_aload_n hx hb dL_law_489 rfl (lv_at hl 0 rfl) ?_
  refine lv_iload_n hx hb dL_law_490 rfl (lv_at hl 3 rfl) ?_
  refine z_iconst hx hb dL_law_491 rfl ?_
  refine z_iadd hx hb (((i + 3) : Nat) : Int) (by omega) dL_law_492 ?_
  refine z_sld hx hb hX hbl hbA hS hL (i + 3) (by omega) dL_law_493 ?_
  refine z_cVl (As := [vI (xs (i + 1)).toInt, vI (xs (i + 2)).toInt, vI (xs (i + 3)).toInt]) (rest := [vL ans]) ⟨hx, hb, hml, hown, hts⟩ hK hP hD hS hA [0] [1] rfl rfl rfl hm (cwV 3 hts gL_law_X10_told rfl rfl rfl (by decide +kernel) ⟨Nat.le_of_ble_eq_true rfl, Nat.le_of_ble_eq_true rfl⟩) 10 0 rfl rfl rfl (fun _ _ _ _ _ _ => trivial) (fun _ _ _ => trivial) rfl hl.1 (Nat.le_of_ble_eq_true rfl) rfl dL_law_494 ⟨Nat.le_of_ble_eq_true rfl, Nat.le_of_ble_eq_true rfl⟩ (fun u1 H locs hPM hP hD hS => ?_)
  have hP : zP g [(deskL g q z1).flatten, (mdlL g r u1).flatten] H := hP
  have hD : zD (lwA s) [(deskL g q z1).flatten, (mdlL g r u1).flatten] := hD
  refine z_toL ans rfl ?_
  refine z_sameL (tgt := 1074) hx hb dL_law_497 dL_law_498 (by decide) ?_
  exact kont z1 u1 H locs (hrel z1 u1 hPD hPM) hP hD hS
set_option maxHeartbeats 4000000 in
set_option maxRecDepth 100000 in
theorem lw_c14 {p : Program} {l : Launch} {e : Env} {s : State} {m : MethodId} {below : List Frame} {meth : Method} {c : Code} {b L : Nat} {xs : Nat → Int32} {g : zG} {t1 t2 : Nat} {x9 v9 : Nat → Nat} (C : lC p s m meth c b L xs g t1 t2 x9 v9) {q r : Nat} {z : DS} {u : MS} {H : Heap} {locs : List Loc} {ls : Array Slot} {i : Nat} (hi : i + 8 ≤ L) (hR : REL z u) (hP : zP g [(deskL g q z).flatten, (mdlL g r u).flatten] H) (hD : zD (lwA s) [(deskL g q z).flatten, (mdlL g r u).flatten]) (hS : va_S (lwA s) s.heap H locs) (hl : lv_has ls 4 [(0, .ref b), (1, .ref q), (2, .ref r), (3, vI ((i : Nat) : Int))]) (kont : ∀ (z1 : DS) (u1 : MS) (H : Heap) (locs : List Loc), REL z1 u1 → zP g [(deskL g q z1).flatten, (mdlL g r u1).flatten] H → zD (lwA s) [(deskL g q z1).flatten, (mdlL g r u1).flatten] → va_S (lwA s) s.heap H locs → lGo p l e s m below meth c b H locs 1074 ls []) : lGo p l e s m below meth c b H locs 503 ls [] := by
  obtain ⟨hx, hb, hr, hml, hown, hts, hX, hbl, hlocks, hK, hXX, hL⟩ := id C
  have hbA : ¬ lwA s b := Nat.not_le.mpr hbl
  have hA : ∀ q : Nat, s.heap.size ≤ q → lwA s q := fun _ h => h
  obtain ⟨ans, PD, PM, hd, hm, hrel⟩ := pr_fold l g q r t1 t2 x9 v9 z u hR ((xs (i + 1)).toInt) ((xs (i + 2)).toInt) ((xs (i + 3)).toInt) (i_rng _) (i_rng _) (i_rng _)
  refine lv_aload_n hx hb dL_law_503 rfl (lv_at hl 1 rfl) ?_
  refine lv_aload_n hx hb dL_law_504 rfl (lv_at hl 0 rfl) ?_
  refine lv_iload_n hx hb dL_law_505 rfl (lv_at hl 3 rfl) ?_
  refine z_iconst hx hb dL_law_506 rfl ?_
  refine z_iadd hx hb (((i + 1) : Nat) : Int) (by omega) dL_law_507 ?_
  refine z_sld hx hb hX hbl hbA hS hL (i + 1) (by omega) dL_law_508 ?_
  refine lv_aload_n hx hb dL_law_509 rfl (lv_at hl 0 rfl) ?_
  refine lv_iload_n hx hb dL_law_510 rfl (lv_at hl 3 rfl) ?_
  refine z_iconst hx hb dL_law_511 rfl ?_
  refine z_iadd hx hb (((i + 2) : Nat) : Int) (by omega) dL_law_512 ?_
  refine z_sld hx hb hX hbl hbA hS hL (i + 2) (by omega) dL_law_513 ?_
  refine lv_aload_n hx hb dL_law_514 rfl (lv_at hl 0 rfl) ?_
  refine lv_iload_n hx hb dL_law_515 rfl (lv_at hl 3 rfl) ?_
  refine z_iconst hx hb dL_law_516 rfl ?_
  refine z_iadd hx hb (((i + 3) : Nat) : Int) (by omega) dL_law_517 ?_
  refine z_sld hx hb hX hbl hbA hS hL (i + 3) (by omega) dL_law_518 ?_
  refine z_xVl (As := [vI (xs (i + 1)).toInt, vI (xs (i + 2)).toInt, vI (xs (i + 3)).toInt]) (rest := []) ⟨hx, hb, hml, hown, hts⟩ hK hP hD hS hA [0] [1] rfl rfl rfl hd (cwV 3 hts gL_law_X9_fold rfl rfl rfl (by decide +kernel) ⟨Nat.le_of_ble_eq_true rfl, Nat.le_of_ble_eq_true rfl⟩) 9 0 rfl rfl rfl zXL_b (zXL_s hXX hS) rfl hl.1 (Nat.le_of_ble_eq_true rfl) rfl dL_law_519 ⟨Nat.le_of_ble_eq_true rfl, Nat.le_of_ble_eq_true rfl⟩ (fun z1 H locs hPD hP hD hS => ?_)
  have hP : zP g [(mdlL g r u).flatten, (deskL g q z1).flatten] H := hP
  have hD : zD (lwA s) [(mdlL g r u).flatten, (deskL g q z1).flatten] := hD
  refine z_toL ans rfl ?_
  refine lv_aload_n hx hb dL_law_522 rfl (lv_at hl 2 rfl) ?_
  refine lv_aload_n hx hb dL_law_523 rfl (lv_at hl 0 rfl) ?_
  refine lv_iload_n hx hb dL_law_524 rfl (lv_at hl 3 rfl) ?_
  refine z_iconst hx hb dL_law_525 rfl ?_
  refine z_iadd hx hb (((i + 1) : Nat) : Int) (by omega) dL_law_526 ?_
  refine z_sld hx hb hX hbl hbA hS hL (i + 1) (by omega) dL_law_527 ?_
  refine lv_aload_n hx hb dL_law_528 rfl (lv_at hl 0 rfl) ?_
  refine lv_iload_n hx hb dL_law_529 rfl (lv_at hl 3 rfl) ?_
  refine z_iconst hx hb dL_law_530 rfl ?_
  refine z_iadd hx hb (((i + 2) : Nat) : Int) (by omega) dL_law_531 ?_
  refine z_sld hx hb hX hbl hbA hS hL (i + 2) (by omega) dL_law_532 ?_
  refine lv_aload_n hx hb dL_law_533 rfl (lv_at hl 0 rfl) ?_
  refine lv_iload_n hx hb dL_law_534 rfl (lv_at hl 3 rfl) ?_
  refine z_iconst hx hb dL_law_535 rfl ?_
  refine z_iadd hx hb (((i + 3) : Nat) : Int) (by omega) dL_law_536 ?_
  refine z_sld hx hb hX hbl hbA hS hL (i + 3) (by omega) dL_law_537 ?_
  refine z_cVl (As := [vI (xs (i + 1)).toInt, vI (xs (i + 2)).toInt, vI (xs (i + 3)).toInt]) (rest := [vL ans]) ⟨hx, hb, hml, hown, hts⟩ hK hP hD hS hA [0] [1] rfl rfl rfl hm (cwV 3 hts gL_law_X10_fold rfl rfl rfl (by decide +kernel) ⟨Nat.le_of_ble_eq_true rfl, Nat.le_of_ble_eq_true rfl⟩) 10 0 rfl rfl rfl (fun _ _ _ _ _ _ => trivial) (fun _ _ _ => trivial) rfl hl.1 (Nat.le_of_ble_eq_true rfl) rfl dL_law_538 ⟨Nat.le_of_ble_eq_true rfl, Nat.le_of_ble_eq_true rfl⟩ (fun u1 H locs hPM hP hD hS => ?_)
  have hP : zP g [(deskL g q z1).flatten, (mdlL g r u1).flatten] H := hP
  have hD : zD (lwA s) [(deskL g q z1).flatten, (mdlL g r u1).flatten] := hD
  refine z_toL ans rfl ?_
  refine z_sameL (tgt := 1074) hx hb dL_law_541 dL_law_542 (by decide) ?_
  exact kont z1 u1 H locs (hrel z1 u1 hPD hPM) hP hD hS
set_option maxHeartbeats 4000000 in
set_option maxRecDepth 100000 in
theorem lw_c15 {p : Program} {l : Launch} {e : Env} {s : State} {m : MethodId} {below : List Frame} {meth : Method} {c : Code} {b L : Nat} {xs : Nat → Int32} {g : zG} {t1 t2 : Nat} {x9 v9 : Nat → Nat} (C : lC p s m meth c b L xs g t1 t2 x9 v9) {q r : Nat} {z : DS} {u : MS} {H : Heap} {locs : List Loc} {ls : Array Slot} {i : Nat} (hi : i + 8 ≤ L) (hR : REL z u) (hP : zP g [(deskL g q z).flatten, (mdlL g r u).flatten] H) (hD : zD (lwA s) [(deskL g q z).flatten, (mdlL g r u).flatten]) (hS : va_S (lwA s) s.heap H locs) (hl : lv_has ls 4 [(0, .ref b), (1, .ref q), (2, .ref r), (3, vI ((i : Nat) : Int))]) (kont : ∀ (z1 : DS) (u1 : MS) (H : Heap) (locs : List Loc), REL z1 u1 → zP g [(deskL g q z1).flatten, (mdlL g r u1).flatten] H → zD (lwA s) [(deskL g q z1).flatten, (mdlL g r u1).flatten] → va_S (lwA s) s.heap H locs → lGo p l e s m below meth c b H locs 1074 ls []) : lGo p l e s m below meth c b H locs 547 ls [] := by
  obtain ⟨hx, hb, hr, hml, hown, hts, hX, hbl, hlocks, hK, hXX, hL⟩ := id C
  have hbA : ¬ lwA s b := Nat.not_le.mpr hbl
  have hA : ∀ q : Nat, s.heap.size ≤ q → lwA s q := fun _ h => h
  obtain ⟨ans, PD, PM, hd, hm, hrel⟩ := pr_most l g q r t1 t2 x9 v9 z u hR ((xs (i + 1)).toInt) (i_rng _)
  refine lv_aload_n hx hb dL_law_547 rfl (lv_at hl 1 rfl) ?_
  refine lv_aload_n hx hb dL_law_548 rfl (lv_at hl 0 rfl) ?_
  refine lv_iload_n hx hb dL_law_549 rfl (lv_at hl 3 rfl) ?_
  refine z_iconst hx hb dL_law_550 rfl ?_
  refine z_iadd hx hb (((i + 1) : Nat) : Int) (by omega) dL_law_551 ?_
  refine z_sld hx hb hX hbl hbA hS hL (i + 1) (by omega) dL_law_552 ?_
  refine z_xVi (As := [vI (xs (i + 1)).toInt]) (rest := []) ⟨hx, hb, hml, hown, hts⟩ hK hP hD hS hA [0] [1] rfl rfl rfl hd (cwV 1 hts gL_law_X9_most rfl rfl rfl (by decide +kernel) ⟨Nat.le_of_ble_eq_true rfl, Nat.le_of_ble_eq_true rfl⟩) 9 0 rfl rfl rfl zXL_b (zXL_s hXX hS) rfl hl.1 (Nat.le_of_ble_eq_true rfl) rfl dL_law_553 ⟨Nat.le_of_ble_eq_true rfl, Nat.le_of_ble_eq_true rfl⟩ (fun z1 H locs hPD hP hD hS => ?_)
  have hP : zP g [(mdlL g r u).flatten, (deskL g q z1).flatten] H := hP
  have hD : zD (lwA s) [(mdlL g r u).flatten, (deskL g q z1).flatten] := hD
  refine z_toI ans rfl ?_
  refine lv_aload_n hx hb dL_law_556 rfl (lv_at hl 2 rfl) ?_
  refine lv_aload_n hx hb dL_law_557 rfl (lv_at hl 0 rfl) ?_
  refine lv_iload_n hx hb dL_law_558 rfl (lv_at hl 3 rfl) ?_
  refine z_iconst hx hb dL_law_559 rfl ?_
  refine z_iadd hx hb (((i + 1) : Nat) : Int) (by omega) dL_law_560 ?_
  refine z_sld hx hb hX hbl hbA hS hL (i + 1) (by omega) dL_law_561 ?_
  refine z_cVi (As := [vI (xs (i + 1)).toInt]) (rest := [vI ans]) ⟨hx, hb, hml, hown, hts⟩ hK hP hD hS hA [0] [1] rfl rfl rfl hm (cwV 1 hts gL_law_X10_most rfl rfl rfl (by decide +kernel) ⟨Nat.le_of_ble_eq_true rfl, Nat.le_of_ble_eq_true rfl⟩) 10 0 rfl rfl rfl (fun _ _ _ _ _ _ => trivial) (fun _ _ _ => trivial) rfl hl.1 (Nat.le_of_ble_eq_true rfl) rfl dL_law_562 ⟨Nat.le_of_ble_eq_true rfl, Nat.le_of_ble_eq_true rfl⟩ (fun u1 H locs hPM hP hD hS => ?_)
  have hP : zP g [(deskL g q z1).flatten, (mdlL g r u1).flatten] H := hP
  have hD : zD (lwA s) [(deskL g q z1).flatten, (mdlL g r u1).flatten] := hD
  refine z_toI ans rfl ?_
  refine z_sameI (tgt := 1074) hx hb dL_law_565 (by decide) ?_
  exact kont z1 u1 H locs (hrel z1 u1 hPD hPM) hP hD hS
set_option maxHeartbeats 4000000 in
set_option maxRecDepth 100000 in
theorem lw_c16 {p : Program} {l : Launch} {e : Env} {s : State} {m : MethodId} {below : List Frame} {meth : Method} {c : Code} {b L : Nat} {xs : Nat → Int32} {g : zG} {t1 t2 : Nat} {x9 v9 : Nat → Nat} (C : lC p s m meth c b L xs g t1 t2 x9 v9) {q r : Nat} {z : DS} {u : MS} {H : Heap} {locs : List Loc} {ls : Array Slot} {i : Nat} (hi : i + 8 ≤ L) (hR : REL z u) (hP : zP g [(deskL g q z).flatten, (mdlL g r u).flatten] H) (hD : zD (lwA s) [(deskL g q z).flatten, (mdlL g r u).flatten]) (hS : va_S (lwA s) s.heap H locs) (hl : lv_has ls 4 [(0, .ref b), (1, .ref q), (2, .ref r), (3, vI ((i : Nat) : Int))]) (kont : ∀ (z1 : DS) (u1 : MS) (H : Heap) (locs : List Loc), REL z1 u1 → zP g [(deskL g q z1).flatten, (mdlL g r u1).flatten] H → zD (lwA s) [(deskL g q z1).flatten, (mdlL g r u1).flatten] → va_S (lwA s) s.heap H locs → lGo p l e s m below meth c b H locs 1074 ls []) : lGo p l e s m below meth c b H locs 570 ls [] := by
  obtain ⟨hx, hb, hr, hml, hown, hts, hX, hbl, hlocks, hK, hXX, hL⟩ := id C
  have hbA : ¬ lwA s b := Nat.not_le.mpr hbl
  have hA : ∀ q : Nat, s.heap.size ≤ q → lwA s q := fun _ h => h
  obtain ⟨ans, PD, PM, hd, hm, hrel⟩ := pr_current l g q r t1 t2 x9 v9 z u hR ((xs (i + 1)).toInt) ((xs (i + 2)).toInt) ((xs (i + 3)).toInt) ((xs (i + 4)).toInt) ((xs (i + 5)).toInt) ((xs (i + 6)).toInt) (i_rng _) (i_rng _) (i_rng _) (i_rng _) (i_rng _) (i_rng _)
  refine lv_aload_n hx hb dL_law_570 rfl (lv_at hl 1 rfl) ?_
  refine lv_aload_n hx hb dL_law_571 rfl (lv_at hl 0 rfl) ?_
  refine lv_iload_n hx hb dL_law_572 rfl (lv_at hl 3 rfl) ?_
  refine z_iconst hx hb dL_law_573 rfl ?_
  refine z_iadd hx hb (((i + 1) : Nat) : Int) (by omega) dL_law_574 ?_
  refine z_sld hx hb hX hbl hbA hS hL (i + 1) (by omega) dL_law_575 ?_
  refine lv_aload_n hx hb dL_law_576 rfl (lv_at hl 0 rfl) ?_
  refine lv_iload_n hx hb dL_law_577 rfl (lv_at hl 3 rfl) ?_
  refine z_iconst hx hb dL_law_578 rfl ?_
  refine z_iadd hx hb (((i + 2) : Nat) : Int) (by omega) dL_law_579 ?_
  refine z_sld hx hb hX hbl hbA hS hL (i + 2) (by omega) dL_law_580 ?_
  refine lv_aload_n hx hb dL_law_581 rfl (lv_at hl 0 rfl) ?_
  refine lv_iload_n hx hb dL_law_582 rfl (lv_at hl 3 rfl) ?_
  refine z_iconst hx hb dL_law_583 rfl ?_
  refine z_iadd hx hb (((i + 3) : Nat) : Int) (by omega) dL_law_584 ?_
  refine z_sld hx hb hX hbl hbA hS hL (i + 3) (by omega) dL_law_585 ?_
  refine lv_aload_n hx hb dL_law_586 rfl (lv_at hl 0 rfl) ?_
  refine lv_iload_n hx hb dL_law_587 rfl (lv_at hl 3 rfl) ?_
  refine z_iconst hx hb dL_law_588 rfl ?_
  refine z_iadd hx hb (((i + 4) : Nat) : Int) (by omega) dL_law_589 ?_
  refine z_sld hx hb hX hbl hbA hS hL (i + 4) (by omega) dL_law_590 ?_
  refine lv_aload_n hx hb dL_law_591 rfl (lv_at hl 0 rfl) ?_
  refine lv_iload_n hx hb dL_law_592 rfl (lv_at hl 3 rfl) ?_
  refine z_iconst hx hb dL_law_593 rfl ?_
  refine z_iadd hx hb (((i + 5) : Nat) : Int) (by omega) dL_law_594 ?_
  refine z_sld hx hb hX hbl hbA hS hL (i + 5) (by omega) dL_law_595 ?_
  refine lv_aload_n hx hb dL_law_596 rfl (lv_at hl 0 rfl) ?_
  refine lv_iload_n hx hb dL_law_597 rfl (lv_at hl 3 rfl) ?_
  refine z_bipush hx hb 6 dL_law_598 rfl ?_
  refine z_iadd hx hb (((i + 6) : Nat) : Int) (by omega) dL_law_600 ?_
  refine z_sld hx hb hX hbl hbA hS hL (i + 6) (by omega) dL_law_601 ?_
  refine z_xVl (As := [vI (xs (i + 1)).toInt, vI (xs (i + 2)).toInt, vI (xs (i + 3)).toInt, vI (xs (i + 4)).toInt, vI (xs (i + 5)).toInt, vI (xs (i + 6)).toInt]) (rest := []) ⟨hx, hb, hml, hown, hts⟩ hK hP hD hS hA [0] [1] rfl rfl rfl hd (cwV 6 hts gL_law_X9_current rfl rfl rfl (by decide +kernel) ⟨Nat.le_of_ble_eq_true rfl, Nat.le_of_ble_eq_true rfl⟩) 9 0 rfl rfl rfl zXL_b (zXL_s hXX hS) rfl hl.1 (Nat.le_of_ble_eq_true rfl) rfl dL_law_602 ⟨Nat.le_of_ble_eq_true rfl, Nat.le_of_ble_eq_true rfl⟩ (fun z1 H locs hPD hP hD hS => ?_)
  have hP : zP g [(mdlL g r u).flatten, (deskL g q z1).flatten] H := hP
  have hD : zD (lwA s) [(mdlL g r u).flatten, (deskL g q z1).flatten] := hD
  refine z_toL ans rfl ?_
  refine lv_aload_n hx hb dL_law_605 rfl (lv_at hl 2 rfl) ?_
  refine lv_aload_n hx hb dL_law_606 rfl (lv_at hl 0 rfl) ?_
  refine lv_iload_n hx hb dL_law_607 rfl (lv_at hl 3 rfl) ?_
  refine z_iconst hx hb dL_law_608 rfl ?_
  refine z_iadd hx hb (((i + 1) : Nat) : Int) (by omega) dL_law_609 ?_
  refine z_sld hx hb hX hbl hbA hS hL (i + 1) (by omega) dL_law_610 ?_
  refine lv_aload_n hx hb dL_law_611 rfl (lv_at hl 0 rfl) ?_
  refine lv_iload_n hx hb dL_law_612 rfl (lv_at hl 3 rfl) ?_
  refine z_iconst hx hb dL_law_613 rfl ?_
  refine z_iadd hx hb (((i + 2) : Nat) : Int) (by omega) dL_law_614 ?_
  refine z_sld hx hb hX hbl hbA hS hL (i + 2) (by omega) dL_law_615 ?_
  refine lv_aload_n hx hb dL_law_616 rfl (lv_at hl 0 rfl) ?_
  refine lv_iload_n hx hb dL_law_617 rfl (lv_at hl 3 rfl) ?_
  refine z_iconst hx hb dL_law_618 rfl ?_
  refine z_iadd hx hb (((i + 3) : Nat) : Int) (by omega) dL_law_619 ?_
  refine z_sld hx hb hX hbl hbA hS hL (i + 3) (by omega) dL_law_620 ?_
  refine lv_aload_n hx hb dL_law_621 rfl (lv_at hl 0 rfl) ?_
  refine lv_iload_n hx hb dL_law_622 rfl (lv_at hl 3 rfl) ?_
  refine z_iconst hx hb dL_law_623 rfl ?_
  refine z_iadd hx hb (((i + 4) : Nat) : Int) (by omega) dL_law_624 ?_
  refine z_sld hx hb hX hbl hbA hS hL (i + 4) (by omega) dL_law_625 ?_
  refine lv_aload_n hx hb dL_law_626 rfl (lv_at hl 0 rfl) ?_
  refine lv_iload_n hx hb dL_law_627 rfl (lv_at hl 3 rfl) ?_
  refine z_iconst hx hb dL_law_628 rfl ?_
  refine z_iadd hx hb (((i + 5) : Nat) : Int) (by omega) dL_law_629 ?_
  refine z_sld hx hb hX hbl hbA hS hL (i + 5) (by omega) dL_law_630 ?_
  refine lv_aload_n hx hb dL_law_631 rfl (lv_at hl 0 rfl) ?_
  refine lv_iload_n hx hb dL_law_632 rfl (lv_at hl 3 rfl) ?_
  refine z_bipush hx hb 6 dL_law_633 rfl ?_
  refine z_iadd hx hb (((i + 6) : Nat) : Int) (by omega) dL_law_635 ?_
  refine z_sld hx hb hX hbl hbA hS hL (i + 6) (by omega) dL_law_636 ?_
  refine z_cVl (As := [vI (xs (i + 1)).toInt, vI (xs (i + 2)).toInt, vI (xs (i + 3)).toInt, vI (xs (i + 4)).toInt, vI (xs (i + 5)).toInt, vI (xs (i + 6)).toInt]) (rest := [vL ans]) ⟨hx, hb, hml, hown, hts⟩ hK hP hD hS hA [0] [1] rfl rfl rfl hm (cwV 6 hts gL_law_X10_current rfl rfl rfl (by decide +kernel) ⟨Nat.le_of_ble_eq_true rfl, Nat.le_of_ble_eq_true rfl⟩) 10 0 rfl rfl rfl (fun _ _ _ _ _ _ => trivial) (fun _ _ _ => trivial) rfl hl.1 (Nat.le_of_ble_eq_true rfl) rfl dL_law_637 ⟨Nat.le_of_ble_eq_true rfl, Nat.le_of_ble_eq_true rfl⟩ (fun u1 H locs hPM hP hD hS => ?_)
  have hP : zP g [(deskL g q z1).flatten, (mdlL g r u1).flatten] H := hP
  have hD : zD (lwA s) [(deskL g q z1).flatten, (mdlL g r u1).flatten] := hD
  refine z_toL ans rfl ?_
  refine z_sameL (tgt := 1074) hx hb dL_law_640 dL_law_641 (by decide) ?_
  exact kont z1 u1 H locs (hrel z1 u1 hPD hPM) hP hD hS
set_option maxHeartbeats 4000000 in
set_option maxRecDepth 100000 in
theorem lw_c17 {p : Program} {l : Launch} {e : Env} {s : State} {m : MethodId} {below : List Frame} {meth : Method} {c : Code} {b L : Nat} {xs : Nat → Int32} {g : zG} {t1 t2 : Nat} {x9 v9 : Nat → Nat} (C : lC p s m meth c b L xs g t1 t2 x9 v9) {q r : Nat} {z : DS} {u : MS} {H : Heap} {locs : List Loc} {ls : Array Slot} {i : Nat} (hi : i + 8 ≤ L) (hR : REL z u) (hP : zP g [(deskL g q z).flatten, (mdlL g r u).flatten] H) (hD : zD (lwA s) [(deskL g q z).flatten, (mdlL g r u).flatten]) (hS : va_S (lwA s) s.heap H locs) (hl : lv_has ls 4 [(0, .ref b), (1, .ref q), (2, .ref r), (3, vI ((i : Nat) : Int))]) (kont : ∀ (z1 : DS) (u1 : MS) (H : Heap) (locs : List Loc), REL z1 u1 → zP g [(deskL g q z1).flatten, (mdlL g r u1).flatten] H → zD (lwA s) [(deskL g q z1).flatten, (mdlL g r u1).flatten] → va_S (lwA s) s.heap H locs → lGo p l e s m below meth c b H locs 1074 ls []) : lGo p l e s m below meth c b H locs 646 ls [] := by
  obtain ⟨hx, hb, hr, hml, hown, hts, hX, hbl, hlocks, hK, hXX, hL⟩ := id C
  have hbA : ¬ lwA s b := Nat.not_le.mpr hbl
  have hA : ∀ q : Nat, s.heap.size ≤ q → lwA s q := fun _ h => h
  obtain ⟨ans, PD, PM, hd, hm, hrel⟩ := pr_voltage l g q r t1 t2 x9 v9 z u hR ((xs (i + 1)).toInt) ((xs (i + 2)).toInt) ((xs (i + 3)).toInt) ((xs (i + 4)).toInt) ((xs (i + 5)).toInt) ((xs (i + 6)).toInt) ((xs (i + 7)).toInt) (i_rng _) (i_rng _) (i_rng _) (i_rng _) (i_rng _) (i_rng _) (i_rng _)
  refine lv_aload_n hx hb dL_law_646 rfl (lv_at hl 1 rfl) ?_
  refine lv_aload_n hx hb dL_law_647 rfl (lv_at hl 0 rfl) ?_
  refine lv_iload_n hx hb dL_law_648 rfl (lv_at hl 3 rfl) ?_
  refine z_iconst hx hb dL_law_649 rfl ?_
  refine z_iadd hx hb (((i + 1) : Nat) : Int) (by omega) dL_law_650 ?_
  refine z_sld hx hb hX hbl hbA hS hL (i + 1) (by omega) dL_law_651 ?_
  refine lv_aload_n hx hb dL_law_652 rfl (lv_at hl 0 rfl) ?_
  refine lv_iload_n hx hb dL_law_653 rfl (lv_at hl 3 rfl) ?_
  refine z_iconst hx hb dL_law_654 rfl ?_
  refine z_iadd hx hb (((i + 2) : Nat) : Int) (by omega) dL_law_655 ?_
  refine z_sld hx hb hX hbl hbA hS hL (i + 2) (by omega) dL_law_656 ?_
  refine lv_aload_n hx hb dL_law_657 rfl (lv_at hl 0 rfl) ?_
  refine lv_iload_n hx hb dL_law_658 rfl (lv_at hl 3 rfl) ?_
  refine z_iconst hx hb dL_law_659 rfl ?_
  refine z_iadd hx hb (((i + 3) : Nat) : Int) (by omega) dL_law_660 ?_
  refine z_sld hx hb hX hbl hbA hS hL (i + 3) (by omega) dL_law_661 ?_
  refine lv_aload_n hx hb dL_law_662 rfl (lv_at hl 0 rfl) ?_
  refine lv_iload_n hx hb dL_law_663 rfl (lv_at hl 3 rfl) ?_
  refine z_iconst hx hb dL_law_664 rfl ?_
  refine z_iadd hx hb (((i + 4) : Nat) : Int) (by omega) dL_law_665 ?_
  refine z_sld hx hb hX hbl hbA hS hL (i + 4) (by omega) dL_law_666 ?_
  refine lv_aload_n hx hb dL_law_667 rfl (lv_at hl 0 rfl) ?_
  refine lv_iload_n hx hb dL_law_668 rfl (lv_at hl 3 rfl) ?_
  refine z_iconst hx hb dL_law_669 rfl ?_
  refine z_iadd hx hb (((i + 5) : Nat) : Int) (by omega) dL_law_670 ?_
  refine z_sld hx hb hX hbl hbA hS hL (i + 5) (by omega) dL_law_671 ?_
  refine lv_aload_n hx hb dL_law_672 rfl (lv_at hl 0 rfl) ?_
  refine lv_iload_n hx hb dL_law_673 rfl (lv_at hl 3 rfl) ?_
  refine z_bipush hx hb 6 dL_law_674 rfl ?_
  refine z_iadd hx hb (((i + 6) : Nat) : Int) (by omega) dL_law_676 ?_
  refine z_sld hx hb hX hbl hbA hS hL (i + 6) (by omega) dL_law_677 ?_
  refine lv_aload_n hx hb dL_law_678 rfl (lv_at hl 0 rfl) ?_
  refine lv_iload_n hx hb dL_law_679 rfl (lv_at hl 3 rfl) ?_
  refine z_bipush hx hb 7 dL_law_680 rfl ?_
  refine z_iadd hx hb (((i + 7) : Nat) : Int) (by omega) dL_law_682 ?_
  refine z_sld hx hb hX hbl hbA hS hL (i + 7) (by omega) dL_law_683 ?_
  refine z_xVl (As := [vI (xs (i + 1)).toInt, vI (xs (i + 2)).toInt, vI (xs (i + 3)).toInt, vI (xs (i + 4)).toInt, vI (xs (i + 5)).toInt, vI (xs (i + 6)).toInt, vI (xs (i + 7)).toInt]) (rest := []) ⟨hx, hb, hml, hown, hts⟩ hK hP hD hS hA [0] [1] rfl rfl rfl hd (cwV 7 hts gL_law_X9_voltage rfl rfl rfl (by decide +kernel) ⟨Nat.le_of_ble_eq_true rfl, Nat.le_of_ble_eq_true rfl⟩) 9 0 rfl rfl rfl zXL_b (zXL_s hXX hS) rfl hl.1 (Nat.le_of_ble_eq_true rfl) rfl dL_law_684 ⟨Nat.le_of_ble_eq_true rfl, Nat.le_of_ble_eq_true rfl⟩ (fun z1 H locs hPD hP hD hS => ?_)
  have hP : zP g [(mdlL g r u).flatten, (deskL g q z1).flatten] H := hP
  have hD : zD (lwA s) [(mdlL g r u).flatten, (deskL g q z1).flatten] := hD
  refine z_toL ans rfl ?_
  refine lv_aload_n hx hb dL_law_687 rfl (lv_at hl 2 rfl) ?_
  refine lv_aload_n hx hb dL_law_688 rfl (lv_at hl 0 rfl) ?_
  refine lv_iload_n hx hb dL_law_689 rfl (lv_at hl 3 rfl) ?_
  refine z_iconst hx hb dL_law_690 rfl ?_
  refine z_iadd hx hb (((i + 1) : Nat) : Int) (by omega) dL_law_691 ?_
  refine z_sld hx hb hX hbl hbA hS hL (i + 1) (by omega) dL_law_692 ?_
  refine lv_aload_n hx hb dL_law_693 rfl (lv_at hl 0 rfl) ?_
  refine lv_iload_n hx hb dL_law_694 rfl (lv_at hl 3 rfl) ?_
  refine z_iconst hx hb dL_law_695 rfl ?_
  refine z_iadd hx hb (((i + 2) : Nat) : Int) (by omega) dL_law_696 ?_
  refine z_sld hx hb hX hbl hbA hS hL (i + 2) (by omega) dL_law_697 ?_
  refine lv_aload_n hx hb dL_law_698 rfl (lv_at hl 0 rfl) ?_
  refine lv_iload_n hx hb dL_law_699 rfl (lv_at hl 3 rfl) ?_
  refine z_iconst hx hb dL_law_700 rfl ?_
  refine z_iadd hx hb (((i + 3) : Nat) : Int) (by omega) dL_law_701 ?_
  refine z_sld hx hb hX hbl hbA hS hL (i + 3) (by omega) dL_law_702 ?_
  refine lv_aload_n hx hb dL_law_703 rfl (lv_at hl 0 rfl) ?_
  refine lv_iload_n hx hb dL_law_704 rfl (lv_at hl 3 rfl) ?_
  refine z_iconst hx hb dL_law_705 rfl ?_
  refine z_iadd hx hb (((i + 4) : Nat) : Int) (by omega) dL_law_706 ?_
  refine z_sld hx hb hX hbl hbA hS hL (i + 4) (by omega) dL_law_707 ?_
  refine lv_aload_n hx hb dL_law_708 rfl (lv_at hl 0 rfl) ?_
  refine lv_iload_n hx hb dL_law_709 rfl (lv_at hl 3 rfl) ?_
  refine z_iconst hx hb dL_law_710 rfl ?_
  refine z_iadd hx hb (((i + 5) : Nat) : Int) (by omega) dL_law_711 ?_
  refine z_sld hx hb hX hbl hbA hS hL (i + 5) (by omega) dL_law_712 ?_
  refine lv_aload_n hx hb dL_law_713 rfl (lv_at hl 0 rfl) ?_
  refine lv_iload_n hx hb dL_law_714 rfl (lv_at hl 3 rfl) ?_
  refine z_bipush hx hb 6 dL_law_715 rfl ?_
  refine z_iadd hx hb (((i + 6) : Nat) : Int) (by omega) dL_law_717 ?_
  refine z_sld hx hb hX hbl hbA hS hL (i + 6) (by omega) dL_law_718 ?_
  refine lv_aload_n hx hb dL_law_719 rfl (lv_at hl 0 rfl) ?_
  refine lv_iload_n hx hb dL_law_720 rfl (lv_at hl 3 rfl) ?_
  refine z_bipush hx hb 7 dL_law_721 rfl ?_
  refine z_iadd hx hb (((i + 7) : Nat) : Int) (by omega) dL_law_723 ?_
  refine z_sld hx hb hX hbl hbA hS hL (i + 7) (by omega) dL_law_724 ?_
  refine z_cVl (As := [vI (xs (i + 1)).toInt, vI (xs (i + 2)).toInt, vI (xs (i + 3)).toInt, vI (xs (i + 4)).toInt, vI (xs (i + 5)).toInt, vI (xs (i + 6)).toInt, vI (xs (i + 7)).toInt]) (rest := [vL ans]) ⟨hx, hb, hml, hown, hts⟩ hK hP hD hS hA [0] [1] rfl rfl rfl hm (cwV 7 hts gL_law_X10_voltage rfl rfl rfl (by decide +kernel) ⟨Nat.le_of_ble_eq_true rfl, Nat.le_of_ble_eq_true rfl⟩) 10 0 rfl rfl rfl (fun _ _ _ _ _ _ => trivial) (fun _ _ _ => trivial) rfl hl.1 (Nat.le_of_ble_eq_true rfl) rfl dL_law_725 ⟨Nat.le_of_ble_eq_true rfl, Nat.le_of_ble_eq_true rfl⟩ (fun u1 H locs hPM hP hD hS => ?_)
  have hP : zP g [(deskL g q z1).flatten, (mdlL g r u1).flatten] H := hP
  have hD : zD (lwA s) [(deskL g q z1).flatten, (mdlL g r u1).flatten] := hD
  refine z_toL ans rfl ?_
  refine z_sameL (tgt := 1074) hx hb dL_law_728 dL_law_729 (by decide) ?_
  exact kont z1 u1 H locs (hrel z1 u1 hPD hPM) hP hD hS
set_option maxHeartbeats 4000000 in
set_option maxRecDepth 100000 in
theorem lw_c18 {p : Program} {l : Launch} {e : Env} {s : State} {m : MethodId} {below : List Frame} {meth : Method} {c : Code} {b L : Nat} {xs : Nat → Int32} {g : zG} {t1 t2 : Nat} {x9 v9 : Nat → Nat} (C : lC p s m meth c b L xs g t1 t2 x9 v9) {q r : Nat} {z : DS} {u : MS} {H : Heap} {locs : List Loc} {ls : Array Slot} {i : Nat} (hi : i + 8 ≤ L) (hR : REL z u) (hP : zP g [(deskL g q z).flatten, (mdlL g r u).flatten] H) (hD : zD (lwA s) [(deskL g q z).flatten, (mdlL g r u).flatten]) (hS : va_S (lwA s) s.heap H locs) (hl : lv_has ls 4 [(0, .ref b), (1, .ref q), (2, .ref r), (3, vI ((i : Nat) : Int))]) (kont : ∀ (z1 : DS) (u1 : MS) (H : Heap) (locs : List Loc), REL z1 u1 → zP g [(deskL g q z1).flatten, (mdlL g r u1).flatten] H → zD (lwA s) [(deskL g q z1).flatten, (mdlL g r u1).flatten] → va_S (lwA s) s.heap H locs → lGo p l e s m below meth c b H locs 1074 ls []) : lGo p l e s m below meth c b H locs 734 ls [] := by
  obtain ⟨hx, hb, hr, hml, hown, hts, hX, hbl, hlocks, hK, hXX, hL⟩ := id C
  have hbA : ¬ lwA s b := Nat.not_le.mpr hbl
  have hA : ∀ q : Nat, s.heap.size ≤ q → lwA s q := fun _ h => h
  obtain ⟨ans, PD, PM, hd, hm, hrel⟩ := pr_sag l g q r t1 t2 x9 v9 z u hR ((xs (i + 1)).toInt) ((xs (i + 2)).toInt) ((xs (i + 3)).toInt) ((xs (i + 4)).toInt) (i_rng _) (i_rng _) (i_rng _) (i_rng _)
  refine lv_aload_n hx hb dL_law_734 rfl (lv_at hl 1 rfl) ?_
  refine lv_aload_n hx hb dL_law_735 rfl (lv_at hl 0 rfl) ?_
  refine lv_iload_n hx hb dL_law_736 rfl (lv_at hl 3 rfl) ?_
  refine z_iconst hx hb dL_law_737 rfl ?_
  refine z_iadd hx hb (((i + 1) : Nat) : Int) (by omega) dL_law_738 ?_
  refine z_sld hx hb hX hbl hbA hS hL (i + 1) (by omega) dL_law_739 ?_
  refine lv_aload_n hx hb dL_law_740 rfl (lv_at hl 0 rfl) ?_
  refine lv_iload_n hx hb dL_law_741 rfl (lv_at hl 3 rfl) ?_
  refine z_iconst hx hb dL_law_742 rfl ?_
  refine z_iadd hx hb (((i + 2) : Nat) : Int) (by omega) dL_law_743 ?_
  refine z_sld hx hb hX hbl hbA hS hL (i + 2) (by omega) dL_law_744 ?_
  refine lv_aload_n hx hb dL_law_745 rfl (lv_at hl 0 rfl) ?_
  refine lv_iload_n hx hb dL_law_746 rfl (lv_at hl 3 rfl) ?_
  refine z_iconst hx hb dL_law_747 rfl ?_
  refine z_iadd hx hb (((i + 3) : Nat) : Int) (by omega) dL_law_748 ?_
  refine z_sld hx hb hX hbl hbA hS hL (i + 3) (by omega) dL_law_749 ?_
  refine lv_aload_n hx hb dL_law_750 rfl (lv_at hl 0 rfl) ?_
  refine lv_iload_n hx hb dL_law_751 rfl (lv_at hl 3 rfl) ?_
  refine z_iconst hx hb dL_law_752 rfl ?_
  refine z_iadd hx hb (((i + 4) : Nat) : Int) (by omega) dL_law_753 ?_
  refine z_sld hx hb hX hbl hbA hS hL (i + 4) (by omega) dL_law_754 ?_
  refine z_xVi (As := [vI (xs (i + 1)).toInt, vI (xs (i + 2)).toInt, vI (xs (i + 3)).toInt, vI (xs (i + 4)).toInt]) (rest := []) ⟨hx, hb, hml, hown, hts⟩ hK hP hD hS hA [0] [1] rfl rfl rfl hd (cwV 4 hts gL_law_X9_sag rfl rfl rfl (by decide +kernel) ⟨Nat.le_of_ble_eq_true rfl, Nat.le_of_ble_eq_true rfl⟩) 9 0 rfl rfl rfl zXL_b (zXL_s hXX hS) rfl hl.1 (Nat.le_of_ble_eq_true rfl) rfl dL_law_755 ⟨Nat.le_of_ble_eq_true rfl, Nat.le_of_ble_eq_true rfl⟩ (fun z1 H locs hPD hP hD hS => ?_)
  have hP : zP g [(mdlL g r u).flatten, (deskL g q z1).flatten] H := hP
  have hD : zD (lwA s) [(mdlL g r u).flatten, (deskL g q z1).flatten] := hD
  refine z_toI ans rfl ?_
  refine lv_aload_n hx hb dL_law_758 rfl (lv_at hl 2 rfl) ?_
  refine lv_aload_n hx hb dL_law_759 rfl (lv_at hl 0 rfl) ?_
  refine lv_iload_n hx hb dL_law_760 rfl (lv_at hl 3 rfl) ?_
  refine z_iconst hx hb dL_law_761 rfl ?_
  refine z_iadd hx hb (((i + 1) : Nat) : Int) (by omega) dL_law_762 ?_
  refine z_sld hx hb hX hbl hbA hS hL (i + 1) (by omega) dL_law_763 ?_
  refine lv_aload_n hx hb dL_law_764 rfl (lv_at hl 0 rfl) ?_
  refine lv_iload_n hx hb dL_law_765 rfl (lv_at hl 3 rfl) ?_
  refine z_iconst hx hb dL_law_766 rfl ?_
  refine z_iadd hx hb (((i + 2) : Nat) : Int) (by omega) dL_law_767 ?_
  refine z_sld hx hb hX hbl hbA hS hL (i + 2) (by omega) dL_law_768 ?_
  refine lv_aload_n hx hb dL_law_769 rfl (lv_at hl 0 rfl) ?_
  refine lv_iload_n hx hb dL_law_770 rfl (lv_at hl 3 rfl) ?_
  refine z_iconst hx hb dL_law_771 rfl ?_
  refine z_iadd hx hb (((i + 3) : Nat) : Int) (by omega) dL_law_772 ?_
  refine z_sld hx hb hX hbl hbA hS hL (i + 3) (by omega) dL_law_773 ?_
  refine lv_aload_n hx hb dL_law_774 rfl (lv_at hl 0 rfl) ?_
  refine lv_iload_n hx hb dL_law_775 rfl (lv_at hl 3 rfl) ?_
  refine z_iconst hx hb dL_law_776 rfl ?_
  refine z_iadd hx hb (((i + 4) : Nat) : Int) (by omega) dL_law_777 ?_
  refine z_sld hx hb hX hbl hbA hS hL (i + 4) (by omega) dL_law_778 ?_
  refine z_cVi (As := [vI (xs (i + 1)).toInt, vI (xs (i + 2)).toInt, vI (xs (i + 3)).toInt, vI (xs (i + 4)).toInt]) (rest := [vI ans]) ⟨hx, hb, hml, hown, hts⟩ hK hP hD hS hA [0] [1] rfl rfl rfl hm (cwV 4 hts gL_law_X10_sag rfl rfl rfl (by decide +kernel) ⟨Nat.le_of_ble_eq_true rfl, Nat.le_of_ble_eq_true rfl⟩) 10 0 rfl rfl rfl (fun _ _ _ _ _ _ => trivial) (fun _ _ _ => trivial) rfl hl.1 (Nat.le_of_ble_eq_true rfl) rfl dL_law_779 ⟨Nat.le_of_ble_eq_true rfl, Nat.le_of_ble_eq_true rfl⟩ (fun u1 H locs hPM hP hD hS => ?_)
  have hP : zP g [(deskL g q z1).flatten, (mdlL g r u1).flatten] H := hP
  have hD : zD (lwA s) [(deskL g q z1).flatten, (mdlL g r u1).flatten] := hD
  refine z_toI ans rfl ?_
  refine z_sameI (tgt := 1074) hx hb dL_law_782 (by decide) ?_
  exact kont z1 u1 H locs (hrel z1 u1 hPD hPM) hP hD hS
set_option maxHeartbeats 4000000 in
set_option maxRecDepth 100000 in
theorem lw_c19 {p : Program} {l : Launch} {e : Env} {s : State} {m : MethodId} {below : List Frame} {meth : Method} {c : Code} {b L : Nat} {xs : Nat → Int32} {g : zG} {t1 t2 : Nat} {x9 v9 : Nat → Nat} (C : lC p s m meth c b L xs g t1 t2 x9 v9) {q r : Nat} {z : DS} {u : MS} {H : Heap} {locs : List Loc} {ls : Array Slot} {i : Nat} (hi : i + 8 ≤ L) (hR : REL z u) (hP : zP g [(deskL g q z).flatten, (mdlL g r u).flatten] H) (hD : zD (lwA s) [(deskL g q z).flatten, (mdlL g r u).flatten]) (hS : va_S (lwA s) s.heap H locs) (hl : lv_has ls 4 [(0, .ref b), (1, .ref q), (2, .ref r), (3, vI ((i : Nat) : Int))]) (kont : ∀ (z1 : DS) (u1 : MS) (H : Heap) (locs : List Loc), REL z1 u1 → zP g [(deskL g q z1).flatten, (mdlL g r u1).flatten] H → zD (lwA s) [(deskL g q z1).flatten, (mdlL g r u1).flatten] → va_S (lwA s) s.heap H locs → lGo p l e s m below meth c b H locs 1074 ls []) : lGo p l e s m below meth c b H locs 787 ls [] := by
  obtain ⟨hx, hb, hr, hml, hown, hts, hX, hbl, hlocks, hK, hXX, hL⟩ := id C
  have hbA : ¬ lwA s b := Nat.not_le.mpr hbl
  have hA : ∀ q : Nat, s.heap.size ≤ q → lwA s q := fun _ h => h
  obtain ⟨ans, PD, PM, hd, hm, hrel⟩ := pr_trips l g q r t1 t2 x9 v9 z u hR ((xs (i + 1)).toInt) ((xs (i + 2)).toInt) ((xs (i + 3)).toInt) (i_rng _) (i_rng _) (i_rng _)
  refine lv_aload_n hx hb dL_law_787 rfl (lv_at hl 1 rfl) ?_
  refine lv_aload_n hx hb dL_law_788 rfl (lv_at hl 0 rfl) ?_
  refine lv_iload_n hx hb dL_law_789 rfl (lv_at hl 3 rfl) ?_
  refine z_iconst hx hb dL_law_790 rfl ?_
  refine z_iadd hx hb (((i + 1) : Nat) : Int) (by omega) dL_law_791 ?_
  refine z_sld hx hb hX hbl hbA hS hL (i + 1) (by omega) dL_law_792 ?_
  refine lv_aload_n hx hb dL_law_793 rfl (lv_at hl 0 rfl) ?_
  refine lv_iload_n hx hb dL_law_794 rfl (lv_at hl 3 rfl) ?_
  refine z_iconst hx hb dL_law_795 rfl ?_
  refine z_iadd hx hb (((i + 2) : Nat) : Int) (by omega) dL_law_796 ?_
  refine z_sld hx hb hX hbl hbA hS hL (i + 2) (by omega) dL_law_797 ?_
  refine lv_aload_n hx hb dL_law_798 rfl (lv_at hl 0 rfl) ?_
  refine lv_iload_n hx hb dL_law_799 rfl (lv_at hl 3 rfl) ?_
  refine z_iconst hx hb dL_law_800 rfl ?_
  refine z_iadd hx hb (((i + 3) : Nat) : Int) (by omega) dL_law_801 ?_
  refine z_sld hx hb hX hbl hbA hS hL (i + 3) (by omega) dL_law_802 ?_
  refine z_xVi (As := [vI (xs (i + 1)).toInt, vI (xs (i + 2)).toInt, vI (xs (i + 3)).toInt]) (rest := []) ⟨hx, hb, hml, hown, hts⟩ hK hP hD hS hA [0] [1] rfl rfl rfl hd (cwV 3 hts gL_law_X9_trips rfl rfl rfl (by decide +kernel) ⟨Nat.le_of_ble_eq_true rfl, Nat.le_of_ble_eq_true rfl⟩) 9 0 rfl rfl rfl zXL_b (zXL_s hXX hS) rfl hl.1 (Nat.le_of_ble_eq_true rfl) rfl dL_law_803 ⟨Nat.le_of_ble_eq_true rfl, Nat.le_of_ble_eq_true rfl⟩ (fun z1 H locs hPD hP hD hS => ?_)
  have hP : zP g [(mdlL g r u).flatten, (deskL g q z1).flatten] H := hP
  have hD : zD (lwA s) [(mdlL g r u).flatten, (deskL g q z1).flatten] := hD
  refine z_toI ans rfl ?_
  refine lv_aload_n hx hb dL_law_806 rfl (lv_at hl 2 rfl) ?_
  refine lv_aload_n hx hb dL_law_807 rfl (lv_at hl 0 rfl) ?_
  refine lv_iload_n hx hb dL_law_808 rfl (lv_at hl 3 rfl) ?_
  refine z_iconst hx hb dL_law_809 rfl ?_
  refine z_iadd hx hb (((i + 1) : Nat) : Int) (by omega) dL_law_810 ?_
  refine z_sld hx hb hX hbl hbA hS hL (i + 1) (by omega) dL_law_811 ?_
  refine lv_aload_n hx hb dL_law_812 rfl (lv_at hl 0 rfl) ?_
  refine lv_iload_n hx hb dL_law_813 rfl (lv_at hl 3 rfl) ?_
  refine z_iconst hx hb dL_law_814 rfl ?_
  refine z_iadd hx hb (((i + 2) : Nat) : Int) (by omega) dL_law_815 ?_
  refine z_sld hx hb hX hbl hbA hS hL (i + 2) (by omega) dL_law_816 ?_
  refine lv_aload_n hx hb dL_law_817 rfl (lv_at hl 0 rfl) ?_
  refine lv_iload_n hx hb dL_law_818 rfl (lv_at hl 3 rfl) ?_
  refine z_iconst hx hb dL_law_819 rfl ?_
  refine z_iadd hx hb (((i + 3) : Nat) : Int) (by omega) dL_law_820 ?_
  refine z_sld hx hb hX hbl hbA hS hL (i + 3) (by omega) dL_law_821 ?_
  refine z_cVi (As := [vI (xs (i + 1)).toInt, vI (xs (i + 2)).toInt, vI (xs (i + 3)).toInt]) (rest := [vI ans]) ⟨hx, hb, hml, hown, hts⟩ hK hP hD hS hA [0] [1] rfl rfl rfl hm (cwV 3 hts gL_law_X10_trips rfl rfl rfl (by decide +kernel) ⟨Nat.le_of_ble_eq_true rfl, Nat.le_of_ble_eq_true rfl⟩) 10 0 rfl rfl rfl (fun _ _ _ _ _ _ => trivial) (fun _ _ _ => trivial) rfl hl.1 (Nat.le_of_ble_eq_true rfl) rfl dL_law_822 ⟨Nat.le_of_ble_eq_true rfl, Nat.le_of_ble_eq_true rfl⟩ (fun u1 H locs hPM hP hD hS => ?_)
  have hP : zP g [(deskL g q z1).flatten, (mdlL g r u1).flatten] H := hP
  have hD : zD (lwA s) [(deskL g q z1).flatten, (mdlL g r u1).flatten] := hD
  refine z_toI ans rfl ?_
  refine z_sameI (tgt := 1074) hx hb dL_law_825 (by decide) ?_
  exact kont z1 u1 H locs (hrel z1 u1 hPD hPM) hP hD hS
set_option maxHeartbeats 4000000 in
set_option maxRecDepth 100000 in
theorem lw_c20 {p : Program} {l : Launch} {e : Env} {s : State} {m : MethodId} {below : List Frame} {meth : Method} {c : Code} {b L : Nat} {xs : Nat → Int32} {g : zG} {t1 t2 : Nat} {x9 v9 : Nat → Nat} (C : lC p s m meth c b L xs g t1 t2 x9 v9) {q r : Nat} {z : DS} {u : MS} {H : Heap} {locs : List Loc} {ls : Array Slot} {i : Nat} (hi : i + 8 ≤ L) (hR : REL z u) (hP : zP g [(deskL g q z).flatten, (mdlL g r u).flatten] H) (hD : zD (lwA s) [(deskL g q z).flatten, (mdlL g r u).flatten]) (hS : va_S (lwA s) s.heap H locs) (hl : lv_has ls 4 [(0, .ref b), (1, .ref q), (2, .ref r), (3, vI ((i : Nat) : Int))]) (kont : ∀ (z1 : DS) (u1 : MS) (H : Heap) (locs : List Loc), REL z1 u1 → zP g [(deskL g q z1).flatten, (mdlL g r u1).flatten] H → zD (lwA s) [(deskL g q z1).flatten, (mdlL g r u1).flatten] → va_S (lwA s) s.heap H locs → lGo p l e s m below meth c b H locs 1074 ls []) : lGo p l e s m below meth c b H locs 830 ls [] := by
  obtain ⟨hx, hb, hr, hml, hown, hts, hX, hbl, hlocks, hK, hXX, hL⟩ := id C
  have hbA : ¬ lwA s b := Nat.not_le.mpr hbl
  have hA : ∀ q : Nat, s.heap.size ≤ q → lwA s q := fun _ h => h
  obtain ⟨ans, PD, PM, hd, hm, hrel⟩ := pr_worst l g q r t1 t2 x9 v9 z u hR ((xs (i + 1)).toInt) ((xs (i + 2)).toInt) (i_rng _) (i_rng _)
  refine lv_aload_n hx hb dL_law_830 rfl (lv_at hl 1 rfl) ?_
  refine lv_aload_n hx hb dL_law_831 rfl (lv_at hl 0 rfl) ?_
  refine lv_iload_n hx hb dL_law_832 rfl (lv_at hl 3 rfl) ?_
  refine z_iconst hx hb dL_law_833 rfl ?_
  refine z_iadd hx hb (((i + 1) : Nat) : Int) (by omega) dL_law_834 ?_
  refine z_sld hx hb hX hbl hbA hS hL (i + 1) (by omega) dL_law_835 ?_
  refine lv_aload_n hx hb dL_law_836 rfl (lv_at hl 0 rfl) ?_
  refine lv_iload_n hx hb dL_law_837 rfl (lv_at hl 3 rfl) ?_
  refine z_iconst hx hb dL_law_838 rfl ?_
  refine z_iadd hx hb (((i + 2) : Nat) : Int) (by omega) dL_law_839 ?_
  refine z_sld hx hb hX hbl hbA hS hL (i + 2) (by omega) dL_law_840 ?_
  refine z_xVi (As := [vI (xs (i + 1)).toInt, vI (xs (i + 2)).toInt]) (rest := []) ⟨hx, hb, hml, hown, hts⟩ hK hP hD hS hA [0] [1] rfl rfl rfl hd (cwV 2 hts gL_law_X9_worst rfl rfl rfl (by decide +kernel) ⟨Nat.le_of_ble_eq_true rfl, Nat.le_of_ble_eq_true rfl⟩) 9 0 rfl rfl rfl zXL_b (zXL_s hXX hS) rfl hl.1 (Nat.le_of_ble_eq_true rfl) rfl dL_law_841 ⟨Nat.le_of_ble_eq_true rfl, Nat.le_of_ble_eq_true rfl⟩ (fun z1 H locs hPD hP hD hS => ?_)
  have hP : zP g [(mdlL g r u).flatten, (deskL g q z1).flatten] H := hP
  have hD : zD (lwA s) [(mdlL g r u).flatten, (deskL g q z1).flatten] := hD
  refine z_toI ans rfl ?_
  refine lv_aload_n hx hb dL_law_844 rfl (lv_at hl 2 rfl) ?_
  refine lv_aload_n hx hb dL_law_845 rfl (lv_at hl 0 rfl) ?_
  refine lv_iload_n hx hb dL_law_846 rfl (lv_at hl 3 rfl) ?_
  refine z_iconst hx hb dL_law_847 rfl ?_
  refine z_iadd hx hb (((i + 1) : Nat) : Int) (by omega) dL_law_848 ?_
  refine z_sld hx hb hX hbl hbA hS hL (i + 1) (by omega) dL_law_849 ?_
  refine lv_aload_n hx hb dL_law_850 rfl (lv_at hl 0 rfl) ?_
  refine lv_iload_n hx hb dL_law_851 rfl (lv_at hl 3 rfl) ?_
  refine z_iconst hx hb dL_law_852 rfl ?_
  refine z_iadd hx hb (((i + 2) : Nat) : Int) (by omega) dL_law_853 ?_
  refine z_sld hx hb hX hbl hbA hS hL (i + 2) (by omega) dL_law_854 ?_
  refine z_cVi (As := [vI (xs (i + 1)).toInt, vI (xs (i + 2)).toInt]) (rest := [vI ans]) ⟨hx, hb, hml, hown, hts⟩ hK hP hD hS hA [0] [1] rfl rfl rfl hm (cwV 2 hts gL_law_X10_worst rfl rfl rfl (by decide +kernel) ⟨Nat.le_of_ble_eq_true rfl, Nat.le_of_ble_eq_true rfl⟩) 10 0 rfl rfl rfl (fun _ _ _ _ _ _ => trivial) (fun _ _ _ => trivial) rfl hl.1 (Nat.le_of_ble_eq_true rfl) rfl dL_law_855 ⟨Nat.le_of_ble_eq_true rfl, Nat.le_of_ble_eq_true rfl⟩ (fun u1 H locs hPM hP hD hS => ?_)
  have hP : zP g [(deskL g q z1).flatten, (mdlL g r u1).flatten] H := hP
  have hD : zD (lwA s) [(deskL g q z1).flatten, (mdlL g r u1).flatten] := hD
  refine z_toI ans rfl ?_
  refine z_sameI (tgt := 1074) hx hb dL_law_858 (by decide) ?_
  exact kont z1 u1 H locs (hrel z1 u1 hPD hPM) hP hD hS
set_option maxHeartbeats 4000000 in
set_option maxRecDepth 100000 in
theorem lw_c21 {p : Program} {l : Launch} {e : Env} {s : State} {m : MethodId} {below : List Frame} {meth : Method} {c : Code} {b L : Nat} {xs : Nat → Int32} {g : zG} {t1 t2 : Nat} {x9 v9 : Nat → Nat} (C : lC p s m meth c b L xs g t1 t2 x9 v9) {q r : Nat} {z : DS} {u : MS} {H : Heap} {locs : List Loc} {ls : Array Slot} {i : Nat} (hi : i + 8 ≤ L) (hR : REL z u) (hP : zP g [(deskL g q z).flatten, (mdlL g r u).flatten] H) (hD : zD (lwA s) [(deskL g q z).flatten, (mdlL g r u).flatten]) (hS : va_S (lwA s) s.heap H locs) (hl : lv_has ls 4 [(0, .ref b), (1, .ref q), (2, .ref r), (3, vI ((i : Nat) : Int))]) (kont : ∀ (z1 : DS) (u1 : MS) (H : Heap) (locs : List Loc), REL z1 u1 → zP g [(deskL g q z1).flatten, (mdlL g r u1).flatten] H → zD (lwA s) [(deskL g q z1).flatten, (mdlL g r u1).flatten] → va_S (lwA s) s.heap H locs → lGo p l e s m below meth c b H locs 1074 ls []) : lGo p l e s m below meth c b H locs 863 ls [] := by
  obtain ⟨hx, hb, hr, hml, hown, hts, hX, hbl, hlocks, hK, hXX, hL⟩ := id C
  have hbA : ¬ lwA s b := Nat.not_le.mpr hbl
  have hA : ∀ q : Nat, s.heap.size ≤ q → lwA s q := fun _ h => h
  obtain ⟨ans, PD, PM, hd, hm, hrel⟩ := pr_match l g q r t1 t2 x9 v9 z u hR ((xs (i + 1)).toInt) (i_rng _)
  refine lv_aload_n hx hb dL_law_863 rfl (lv_at hl 1 rfl) ?_
  refine lv_aload_n hx hb dL_law_864 rfl (lv_at hl 0 rfl) ?_
  refine lv_iload_n hx hb dL_law_865 rfl (lv_at hl 3 rfl) ?_
  refine z_iconst hx hb dL_law_866 rfl ?_
  refine z_iadd hx hb (((i + 1) : Nat) : Int) (by omega) dL_law_867 ?_
  refine z_sld hx hb hX hbl hbA hS hL (i + 1) (by omega) dL_law_868 ?_
  refine z_xVi (As := [vI (xs (i + 1)).toInt]) (rest := []) ⟨hx, hb, hml, hown, hts⟩ hK hP hD hS hA [0] [1] rfl rfl rfl hd (cwV 1 hts gL_law_X9_match rfl rfl rfl (by decide +kernel) ⟨Nat.le_of_ble_eq_true rfl, Nat.le_of_ble_eq_true rfl⟩) 9 0 rfl rfl rfl zXL_b (zXL_s hXX hS) rfl hl.1 (Nat.le_of_ble_eq_true rfl) rfl dL_law_869 ⟨Nat.le_of_ble_eq_true rfl, Nat.le_of_ble_eq_true rfl⟩ (fun z1 H locs hPD hP hD hS => ?_)
  have hP : zP g [(mdlL g r u).flatten, (deskL g q z1).flatten] H := hP
  have hD : zD (lwA s) [(mdlL g r u).flatten, (deskL g q z1).flatten] := hD
  refine z_toI ans rfl ?_
  refine lv_aload_n hx hb dL_law_872 rfl (lv_at hl 2 rfl) ?_
  refine lv_aload_n hx hb dL_law_873 rfl (lv_at hl 0 rfl) ?_
  refine lv_iload_n hx hb dL_law_874 rfl (lv_at hl 3 rfl) ?_
  refine z_iconst hx hb dL_law_875 rfl ?_
  refine z_iadd hx hb (((i + 1) : Nat) : Int) (by omega) dL_law_876 ?_
  refine z_sld hx hb hX hbl hbA hS hL (i + 1) (by omega) dL_law_877 ?_
  refine z_cVi (As := [vI (xs (i + 1)).toInt]) (rest := [vI ans]) ⟨hx, hb, hml, hown, hts⟩ hK hP hD hS hA [0] [1] rfl rfl rfl hm (cwV 1 hts gL_law_X10_match rfl rfl rfl (by decide +kernel) ⟨Nat.le_of_ble_eq_true rfl, Nat.le_of_ble_eq_true rfl⟩) 10 0 rfl rfl rfl (fun _ _ _ _ _ _ => trivial) (fun _ _ _ => trivial) rfl hl.1 (Nat.le_of_ble_eq_true rfl) rfl dL_law_878 ⟨Nat.le_of_ble_eq_true rfl, Nat.le_of_ble_eq_true rfl⟩ (fun u1 H locs hPM hP hD hS => ?_)
  have hP : zP g [(deskL g q z1).flatten, (mdlL g r u1).flatten] H := hP
  have hD : zD (lwA s) [(deskL g q z1).flatten, (mdlL g r u1).flatten] := hD
  refine z_toI ans rfl ?_
  refine z_sameI (tgt := 1074) hx hb dL_law_881 (by decide) ?_
  exact kont z1 u1 H locs (hrel z1 u1 hPD hPM) hP hD hS
set_option maxHeartbeats 4000000 in
set_option maxRecDepth 100000 in
theorem lw_c22 {p : Program} {l : Launch} {e : Env} {s : State} {m : MethodId} {below : List Frame} {meth : Method} {c : Code} {b L : Nat} {xs : Nat → Int32} {g : zG} {t1 t2 : Nat} {x9 v9 : Nat → Nat} (C : lC p s m meth c b L xs g t1 t2 x9 v9) {q r : Nat} {z : DS} {u : MS} {H : Heap} {locs : List Loc} {ls : Array Slot} {i : Nat} (hi : i + 8 ≤ L) (hR : REL z u) (hP : zP g [(deskL g q z).flatten, (mdlL g r u).flatten] H) (hD : zD (lwA s) [(deskL g q z).flatten, (mdlL g r u).flatten]) (hS : va_S (lwA s) s.heap H locs) (hl : lv_has ls 4 [(0, .ref b), (1, .ref q), (2, .ref r), (3, vI ((i : Nat) : Int))]) (kont : ∀ (z1 : DS) (u1 : MS) (H : Heap) (locs : List Loc), REL z1 u1 → zP g [(deskL g q z1).flatten, (mdlL g r u1).flatten] H → zD (lwA s) [(deskL g q z1).flatten, (mdlL g r u1).flatten] → va_S (lwA s) s.heap H locs → lGo p l e s m below meth c b H locs 1074 ls []) : lGo p l e s m below meth c b H locs 886 ls [] := by
  obtain ⟨hx, hb, hr, hml, hown, hts, hX, hbl, hlocks, hK, hXX, hL⟩ := id C
  have hbA : ¬ lwA s b := Nat.not_le.mpr hbl
  have hA : ∀ q : Nat, s.heap.size ≤ q → lwA s q := fun _ h => h
  obtain ⟨ans, PD, PM, hd, hm, hrel⟩ := pr_store l g q r t1 t2 x9 v9 z u hR ((xs (i + 1)).toInt) (i_rng _)
  refine lv_aload_n hx hb dL_law_886 rfl (lv_at hl 1 rfl) ?_
  refine lv_aload_n hx hb dL_law_887 rfl (lv_at hl 0 rfl) ?_
  refine lv_iload_n hx hb dL_law_888 rfl (lv_at hl 3 rfl) ?_
  refine z_iconst hx hb dL_law_889 rfl ?_
  refine z_iadd hx hb (((i + 1) : Nat) : Int) (by omega) dL_law_890 ?_
  refine z_sld hx hb hX hbl hbA hS hL (i + 1) (by omega) dL_law_891 ?_
  refine z_xVi (As := [vI (xs (i + 1)).toInt]) (rest := []) ⟨hx, hb, hml, hown, hts⟩ hK hP hD hS hA [0] [1] rfl rfl rfl hd (cwV 1 hts gL_law_X9_store rfl rfl rfl (by decide +kernel) ⟨Nat.le_of_ble_eq_true rfl, Nat.le_of_ble_eq_true rfl⟩) 9 0 rfl rfl rfl zXL_b (zXL_s hXX hS) rfl hl.1 (Nat.le_of_ble_eq_true rfl) rfl dL_law_892 ⟨Nat.le_of_ble_eq_true rfl, Nat.le_of_ble_eq_true rfl⟩ (fun z1 H locs hPD hP hD hS => ?_)
  have hP : zP g [(mdlL g r u).flatten, (deskL g q z1).flatten] H := hP
  have hD : zD (lwA s) [(mdlL g r u).flatten, (deskL g q z1).flatten] := hD
  refine z_toI ans rfl ?_
  refine lv_aload_n hx hb dL_law_895 rfl (lv_at hl 2 rfl) ?_
  refine lv_aload_n hx hb dL_law_896 rfl (lv_at hl 0 rfl) ?_
  refine lv_iload_n hx hb dL_law_897 rfl (lv_at hl 3 rfl) ?_
  refine z_iconst hx hb dL_law_898 rfl ?_
  refine z_iadd hx hb (((i + 1) : Nat) : Int) (by omega) dL_law_899 ?_
  refine z_sld hx hb hX hbl hbA hS hL (i + 1) (by omega) dL_law_900 ?_
  refine z_cVi (As := [vI (xs (i + 1)).toInt]) (rest := [vI ans]) ⟨hx, hb, hml, hown, hts⟩ hK hP hD hS hA [0] [1] rfl rfl rfl hm (cwV 1 hts gL_law_X10_store rfl rfl rfl (by decide +kernel) ⟨Nat.le_of_ble_eq_true rfl, Nat.le_of_ble_eq_true rfl⟩) 10 0 rfl rfl rfl (fun _ _ _ _ _ _ => trivial) (fun _ _ _ => trivial) rfl hl.1 (Nat.le_of_ble_eq_true rfl) rfl dL_law_901 ⟨Nat.le_of_ble_eq_true rfl, Nat.le_of_ble_eq_true rfl⟩ (fun u1 H locs hPM hP hD hS => ?_)
  have hP : zP g [(deskL g q z1).flatten, (mdlL g r u1).flatten] H := hP
  have hD : zD (lwA s) [(deskL g q z1).flatten, (mdlL g r u1).flatten] := hD
  refine z_toI ans rfl ?_
  refine z_sameI (tgt := 1074) hx hb dL_law_904 (by decide) ?_
  exact kont z1 u1 H locs (hrel z1 u1 hPD hPM) hP hD hS
set_option maxHeartbeats 4000000 in
set_option maxRecDepth 100000 in
theorem lw_c23 {p : Program} {l : Launch} {e : Env} {s : State} {m : MethodId} {below : List Frame} {meth : Method} {c : Code} {b L : Nat} {xs : Nat → Int32} {g : zG} {t1 t2 : Nat} {x9 v9 : Nat → Nat} (C : lC p s m meth c b L xs g t1 t2 x9 v9) {q r : Nat} {z : DS} {u : MS} {H : Heap} {locs : List Loc} {ls : Array Slot} {i : Nat} (hi : i + 8 ≤ L) (hR : REL z u) (hP : zP g [(deskL g q z).flatten, (mdlL g r u).flatten] H) (hD : zD (lwA s) [(deskL g q z).flatten, (mdlL g r u).flatten]) (hS : va_S (lwA s) s.heap H locs) (hl : lv_has ls 4 [(0, .ref b), (1, .ref q), (2, .ref r), (3, vI ((i : Nat) : Int))]) (kont : ∀ (z1 : DS) (u1 : MS) (H : Heap) (locs : List Loc), REL z1 u1 → zP g [(deskL g q z1).flatten, (mdlL g r u1).flatten] H → zD (lwA s) [(deskL g q z1).flatten, (mdlL g r u1).flatten] → va_S (lwA s) s.heap H locs → lGo p l e s m below meth c b H locs 1074 ls []) : lGo p l e s m below meth c b H locs 909 ls [] := by
  obtain ⟨hx, hb, hr, hml, hown, hts, hX, hbl, hlocks, hK, hXX, hL⟩ := id C
  have hbA : ¬ lwA s b := Nat.not_le.mpr hbl
  have hA : ∀ q : Nat, s.heap.size ≤ q → lwA s q := fun _ h => h
  obtain ⟨ans, PD, PM, hd, hm, hrel⟩ := pr_put l g q r t1 t2 x9 v9 z u hR ((xs (i + 1)).toInt) ((xs (i + 2)).toInt) ((xs (i + 3)).toInt) ((xs (i + 4)).toInt) (i_rng _) (i_rng _) (i_rng _) (i_rng _)
  refine lv_aload_n hx hb dL_law_909 rfl (lv_at hl 1 rfl) ?_
  refine lv_aload_n hx hb dL_law_910 rfl (lv_at hl 0 rfl) ?_
  refine lv_iload_n hx hb dL_law_911 rfl (lv_at hl 3 rfl) ?_
  refine z_iconst hx hb dL_law_912 rfl ?_
  refine z_iadd hx hb (((i + 1) : Nat) : Int) (by omega) dL_law_913 ?_
  refine z_sld hx hb hX hbl hbA hS hL (i + 1) (by omega) dL_law_914 ?_
  refine lv_aload_n hx hb dL_law_915 rfl (lv_at hl 0 rfl) ?_
  refine lv_iload_n hx hb dL_law_916 rfl (lv_at hl 3 rfl) ?_
  refine z_iconst hx hb dL_law_917 rfl ?_
  refine z_iadd hx hb (((i + 2) : Nat) : Int) (by omega) dL_law_918 ?_
  refine z_sld hx hb hX hbl hbA hS hL (i + 2) (by omega) dL_law_919 ?_
  refine lv_aload_n hx hb dL_law_920 rfl (lv_at hl 0 rfl) ?_
  refine lv_iload_n hx hb dL_law_921 rfl (lv_at hl 3 rfl) ?_
  refine z_iconst hx hb dL_law_922 rfl ?_
  refine z_iadd hx hb (((i + 3) : Nat) : Int) (by omega) dL_law_923 ?_
  refine z_sld hx hb hX hbl hbA hS hL (i + 3) (by omega) dL_law_924 ?_
  refine lv_aload_n hx hb dL_law_925 rfl (lv_at hl 0 rfl) ?_
  refine lv_iload_n hx hb dL_law_926 rfl (lv_at hl 3 rfl) ?_
  refine z_iconst hx hb dL_law_927 rfl ?_
  refine z_iadd hx hb (((i + 4) : Nat) : Int) (by omega) dL_law_928 ?_
  refine z_sld hx hb hX hbl hbA hS hL (i + 4) (by omega) dL_law_929 ?_
  refine z_xVi (As := [vI (xs (i + 1)).toInt, vI (xs (i + 2)).toInt, vI (xs (i + 3)).toInt, vI (xs (i + 4)).toInt]) (rest := []) ⟨hx, hb, hml, hown, hts⟩ hK hP hD hS hA [0] [1] rfl rfl rfl hd (cwV 4 hts gL_law_X9_put rfl rfl rfl (by decide +kernel) ⟨Nat.le_of_ble_eq_true rfl, Nat.le_of_ble_eq_true rfl⟩) 9 0 rfl rfl rfl zXL_b (zXL_s hXX hS) rfl hl.1 (Nat.le_of_ble_eq_true rfl) rfl dL_law_930 ⟨Nat.le_of_ble_eq_true rfl, Nat.le_of_ble_eq_true rfl⟩ (fun z1 H locs hPD hP hD hS => ?_)
  have hP : zP g [(mdlL g r u).flatten, (deskL g q z1).flatten] H := hP
  have hD : zD (lwA s) [(mdlL g r u).flatten, (deskL g q z1).flatten] := hD
  refine z_toI ans rfl ?_
  refine lv_aload_n hx hb dL_law_933 rfl (lv_at hl 2 rfl) ?_
  refine lv_aload_n hx hb dL_law_934 rfl (lv_at hl 0 rfl) ?_
  refine lv_iload_n hx hb dL_law_935 rfl (lv_at hl 3 rfl) ?_
  refine z_iconst hx hb dL_law_936 rfl ?_
  refine z_iadd hx hb (((i + 1) : Nat) : Int) (by omega) dL_law_937 ?_
  refine z_sld hx hb hX hbl hbA hS hL (i + 1) (by omega) dL_law_938 ?_
  refine lv_aload_n hx hb dL_law_939 rfl (lv_at hl 0 rfl) ?_
  refine lv_iload_n hx hb dL_law_940 rfl (lv_at hl 3 rfl) ?_
  refine z_iconst hx hb dL_law_941 rfl ?_
  refine z_iadd hx hb (((i + 2) : Nat) : Int) (by omega) dL_law_942 ?_
  refine z_sld hx hb hX hbl hbA hS hL (i + 2) (by omega) dL_law_943 ?_
  refine lv_aload_n hx hb dL_law_944 rfl (lv_at hl 0 rfl) ?_
  refine lv_iload_n hx hb dL_law_945 rfl (lv_at hl 3 rfl) ?_
  refine z_iconst hx hb dL_law_946 rfl ?_
  refine z_iadd hx hb (((i + 3) : Nat) : Int) (by omega) dL_law_947 ?_
  refine z_sld hx hb hX hbl hbA hS hL (i + 3) (by omega) dL_law_948 ?_
  refine lv_aload_n hx hb dL_law_949 rfl (lv_at hl 0 rfl) ?_
  refine lv_iload_n hx hb dL_law_950 rfl (lv_at hl 3 rfl) ?_
  refine z_iconst hx hb dL_law_951 rfl ?_
  refine z_iadd hx hb (((i + 4) : Nat) : Int) (by omega) dL_law_952 ?_
  refine z_sld hx hb hX hbl hbA hS hL (i + 4) (by omega) dL_law_953 ?_
  refine z_cVi (As := [vI (xs (i + 1)).toInt, vI (xs (i + 2)).toInt, vI (xs (i + 3)).toInt, vI (xs (i + 4)).toInt]) (rest := [vI ans]) ⟨hx, hb, hml, hown, hts⟩ hK hP hD hS hA [0] [1] rfl rfl rfl hm (cwV 4 hts gL_law_X10_put rfl rfl rfl (by decide +kernel) ⟨Nat.le_of_ble_eq_true rfl, Nat.le_of_ble_eq_true rfl⟩) 10 0 rfl rfl rfl (fun _ _ _ _ _ _ => trivial) (fun _ _ _ => trivial) rfl hl.1 (Nat.le_of_ble_eq_true rfl) rfl dL_law_954 ⟨Nat.le_of_ble_eq_true rfl, Nat.le_of_ble_eq_true rfl⟩ (fun u1 H locs hPM hP hD hS => ?_)
  have hP : zP g [(deskL g q z1).flatten, (mdlL g r u1).flatten] H := hP
  have hD : zD (lwA s) [(deskL g q z1).flatten, (mdlL g r u1).flatten] := hD
  refine z_toI ans rfl ?_
  refine z_sameI (tgt := 1074) hx hb dL_law_957 (by decide) ?_
  exact kont z1 u1 H locs (hrel z1 u1 hPD hPM) hP hD hS
set_option maxHeartbeats 4000000 in
set_option maxRecDepth 100000 in
theorem lw_c24 {p : Program} {l : Launch} {e : Env} {s : State} {m : MethodId} {below : List Frame} {meth : Method} {c : Code} {b L : Nat} {xs : Nat → Int32} {g : zG} {t1 t2 : Nat} {x9 v9 : Nat → Nat} (C : lC p s m meth c b L xs g t1 t2 x9 v9) {q r : Nat} {z : DS} {u : MS} {H : Heap} {locs : List Loc} {ls : Array Slot} {i : Nat} (hi : i + 8 ≤ L) (hR : REL z u) (hP : zP g [(deskL g q z).flatten, (mdlL g r u).flatten] H) (hD : zD (lwA s) [(deskL g q z).flatten, (mdlL g r u).flatten]) (hS : va_S (lwA s) s.heap H locs) (hl : lv_has ls 4 [(0, .ref b), (1, .ref q), (2, .ref r), (3, vI ((i : Nat) : Int))]) (kont : ∀ (z1 : DS) (u1 : MS) (H : Heap) (locs : List Loc), REL z1 u1 → zP g [(deskL g q z1).flatten, (mdlL g r u1).flatten] H → zD (lwA s) [(deskL g q z1).flatten, (mdlL g r u1).flatten] → va_S (lwA s) s.heap H locs → lGo p l e s m below meth c b H locs 1074 ls []) : lGo p l e s m below meth c b H locs 962 ls [] := by
  obtain ⟨hx, hb, hr, hml, hown, hts, hX, hbl, hlocks, hK, hXX, hL⟩ := id C
  have hbA : ¬ lwA s b := Nat.not_le.mpr hbl
  have hA : ∀ q : Nat, s.heap.size ≤ q → lwA s q := fun _ h => h
  obtain ⟨ans, PD, PM, hd, hm, hrel⟩ := pr_take l g q r t1 t2 x9 v9 z u hR ((xs (i + 1)).toInt) ((xs (i + 2)).toInt) (i_rng _) (i_rng _)
  refine lv_aload_n hx hb dL_law_962 rfl (lv_at hl 1 rfl) ?_
  refine lv_aload_n hx hb dL_law_963 rfl (lv_at hl 0 rfl) ?_
  refine lv_iload_n hx hb dL_law_964 rfl (lv_at hl 3 rfl) ?_
  refine z_iconst hx hb dL_law_965 rfl ?_
  refine z_iadd hx hb (((i + 1) : Nat) : Int) (by omega) dL_law_966 ?_
  refine z_sld hx hb hX hbl hbA hS hL (i + 1) (by omega) dL_law_967 ?_
  refine lv_aload_n hx hb dL_law_968 rfl (lv_at hl 0 rfl) ?_
  refine lv_iload_n hx hb dL_law_969 rfl (lv_at hl 3 rfl) ?_
  refine z_iconst hx hb dL_law_970 rfl ?_
  refine z_iadd hx hb (((i + 2) : Nat) : Int) (by omega) dL_law_971 ?_
  refine z_sld hx hb hX hbl hbA hS hL (i + 2) (by omega) dL_law_972 ?_
  refine z_xVi (As := [vI (xs (i + 1)).toInt, vI (xs (i + 2)).toInt]) (rest := []) ⟨hx, hb, hml, hown, hts⟩ hK hP hD hS hA [0] [1] rfl rfl rfl hd (cwV 2 hts gL_law_X9_take rfl rfl rfl (by decide +kernel) ⟨Nat.le_of_ble_eq_true rfl, Nat.le_of_ble_eq_true rfl⟩) 9 0 rfl rfl rfl zXL_b (zXL_s hXX hS) rfl hl.1 (Nat.le_of_ble_eq_true rfl) rfl dL_law_973 ⟨Nat.le_of_ble_eq_true rfl, Nat.le_of_ble_eq_true rfl⟩ (fun z1 H locs hPD hP hD hS => ?_)
  have hP : zP g [(mdlL g r u).flatten, (deskL g q z1).flatten] H := hP
  have hD : zD (lwA s) [(mdlL g r u).flatten, (deskL g q z1).flatten] := hD
  refine z_toI ans rfl ?_
  refine lv_aload_n hx hb dL_law_976 rfl (lv_at hl 2 rfl) ?_
  refine lv_aload_n hx hb dL_law_977 rfl (lv_at hl 0 rfl) ?_
  refine lv_iload_n hx hb dL_law_978 rfl (lv_at hl 3 rfl) ?_
  refine z_iconst hx hb dL_law_979 rfl ?_
  refine z_iadd hx hb (((i + 1) : Nat) : Int) (by omega) dL_law_980 ?_
  refine z_sld hx hb hX hbl hbA hS hL (i + 1) (by omega) dL_law_981 ?_
  refine lv_aload_n hx hb dL_law_982 rfl (lv_at hl 0 rfl) ?_
  refine lv_iload_n hx hb dL_law_983 rfl (lv_at hl 3 rfl) ?_
  refine z_iconst hx hb dL_law_984 rfl ?_
  refine z_iadd hx hb (((i + 2) : Nat) : Int) (by omega) dL_law_985 ?_
  refine z_sld hx hb hX hbl hbA hS hL (i + 2) (by omega) dL_law_986 ?_
  refine z_cVi (As := [vI (xs (i + 1)).toInt, vI (xs (i + 2)).toInt]) (rest := [vI ans]) ⟨hx, hb, hml, hown, hts⟩ hK hP hD hS hA [0] [1] rfl rfl rfl hm (cwV 2 hts gL_law_X10_take rfl rfl rfl (by decide +kernel) ⟨Nat.le_of_ble_eq_true rfl, Nat.le_of_ble_eq_true rfl⟩) 10 0 rfl rfl rfl (fun _ _ _ _ _ _ => trivial) (fun _ _ _ => trivial) rfl hl.1 (Nat.le_of_ble_eq_true rfl) rfl dL_law_987 ⟨Nat.le_of_ble_eq_true rfl, Nat.le_of_ble_eq_true rfl⟩ (fun u1 H locs hPM hP hD hS => ?_)
  have hP : zP g [(deskL g q z1).flatten, (mdlL g r u1).flatten] H := hP
  have hD : zD (lwA s) [(deskL g q z1).flatten, (mdlL g r u1).flatten] := hD
  refine z_toI ans rfl ?_
  refine z_sameI (tgt := 1074) hx hb dL_law_990 (by decide) ?_
  exact kont z1 u1 H locs (hrel z1 u1 hPD hPM) hP hD hS
set_option maxHeartbeats 4000000 in
set_option maxRecDepth 100000 in
theorem lw_c25 {p : Program} {l : Launch} {e : Env} {s : State} {m : MethodId} {below : List Frame} {meth : Method} {c : Code} {b L : Nat} {xs : Nat → Int32} {g : zG} {t1 t2 : Nat} {x9 v9 : Nat → Nat} (C : lC p s m meth c b L xs g t1 t2 x9 v9) {q r : Nat} {z : DS} {u : MS} {H : Heap} {locs : List Loc} {ls : Array Slot} {i : Nat} (hi : i + 8 ≤ L) (hR : REL z u) (hP : zP g [(deskL g q z).flatten, (mdlL g r u).flatten] H) (hD : zD (lwA s) [(deskL g q z).flatten, (mdlL g r u).flatten]) (hS : va_S (lwA s) s.heap H locs) (hl : lv_has ls 4 [(0, .ref b), (1, .ref q), (2, .ref r), (3, vI ((i : Nat) : Int))]) (kont : ∀ (z1 : DS) (u1 : MS) (H : Heap) (locs : List Loc), REL z1 u1 → zP g [(deskL g q z1).flatten, (mdlL g r u1).flatten] H → zD (lwA s) [(deskL g q z1).flatten, (mdlL g r u1).flatten] → va_S (lwA s) s.heap H locs → lGo p l e s m below meth c b H locs 1074 ls []) : lGo p l e s m below meth c b H locs 995 ls [] := by
  obtain ⟨hx, hb, hr, hml, hown, hts, hX, hbl, hlocks, hK, hXX, hL⟩ := id C
  have hbA : ¬ lwA s b := Nat.not_le.mpr hbl
  have hA : ∀ q : Nat, s.heap.size ≤ q → lwA s q := fun _ h => h
  obtain ⟨ans, PD, PM, hd, hm, hrel⟩ := pr_sum l g q r t1 t2 x9 v9 z u hR ((xs (i + 1)).toInt) ((xs (i + 2)).toInt) (i_rng _) (i_rng _)
  refine lv_aload_n hx hb dL_law_995 rfl (lv_at hl 1 rfl) ?_
  refine lv_aload_n hx hb dL_law_996 rfl (lv_at hl 0 rfl) ?_
  refine lv_iload_n hx hb dL_law_997 rfl (lv_at hl 3 rfl) ?_
  refine z_iconst hx hb dL_law_998 rfl ?_
  refine z_iadd hx hb (((i + 1) : Nat) : Int) (by omega) dL_law_999 ?_
  refine z_sld hx hb hX hbl hbA hS hL (i + 1) (by omega) dL_law_1000 ?_
  refine lv_aload_n hx hb dL_law_1001 rfl (lv_at hl 0 rfl) ?_
  refine lv_iload_n hx hb dL_law_1002 rfl (lv_at hl 3 rfl) ?_
  refine z_iconst hx hb dL_law_1003 rfl ?_
  refine z_iadd hx hb (((i + 2) : Nat) : Int) (by omega) dL_law_1004 ?_
  refine z_sld hx hb hX hbl hbA hS hL (i + 2) (by omega) dL_law_1005 ?_
  refine z_xVi (As := [vI (xs (i + 1)).toInt, vI (xs (i + 2)).toInt]) (rest := []) ⟨hx, hb, hml, hown, hts⟩ hK hP hD hS hA [0] [1] rfl rfl rfl hd (cwV 2 hts gL_law_X9_sum rfl rfl rfl (by decide +kernel) ⟨Nat.le_of_ble_eq_true rfl, Nat.le_of_ble_eq_true rfl⟩) 9 0 rfl rfl rfl zXL_b (zXL_s hXX hS) rfl hl.1 (Nat.le_of_ble_eq_true rfl) rfl dL_law_1006 ⟨Nat.le_of_ble_eq_true rfl, Nat.le_of_ble_eq_true rfl⟩ (fun z1 H locs hPD hP hD hS => ?_)
  have hP : zP g [(mdlL g r u).flatten, (deskL g q z1).flatten] H := hP
  have hD : zD (lwA s) [(mdlL g r u).flatten, (deskL g q z1).flatten] := hD
  refine z_toI ans rfl ?_
  refine lv_aload_n hx hb dL_law_1009 rfl (lv_at hl 2 rfl) ?_
  refine lv_aload_n hx hb dL_law_1010 rfl (lv_at hl 0 rfl) ?_
  refine lv_iload_n hx hb dL_law_1011 rfl (lv_at hl 3 rfl) ?_
  refine z_iconst hx hb dL_law_1012 rfl ?_
  refine z_iadd hx hb (((i + 1) : Nat) : Int) (by omega) dL_law_1013 ?_
  refine z_sld hx hb hX hbl hbA hS hL (i + 1) (by omega) dL_law_1014 ?_
  refine lv_aload_n hx hb dL_law_1015 rfl (lv_at hl 0 rfl) ?_
  refine lv_iload_n hx hb dL_law_1016 rfl (lv_at hl 3 rfl) ?_
  refine z_iconst hx hb dL_law_1017 rfl ?_
  refine z_iadd hx hb (((i + 2) : Nat) : Int) (by omega) dL_law_1018 ?_
  refine z_sld hx hb hX hbl hbA hS hL (i + 2) (by omega) dL_law_1019 ?_
  refine z_cVi (As := [vI (xs (i + 1)).toInt, vI (xs (i + 2)).toInt]) (rest := [vI ans]) ⟨hx, hb, hml, hown, hts⟩ hK hP hD hS hA [0] [1] rfl rfl rfl hm (cwV 2 hts gL_law_X10_sum rfl rfl rfl (by decide +kernel) ⟨Nat.le_of_ble_eq_true rfl, Nat.le_of_ble_eq_true rfl⟩) 10 0 rfl rfl rfl (fun _ _ _ _ _ _ => trivial) (fun _ _ _ => trivial) rfl hl.1 (Nat.le_of_ble_eq_true rfl) rfl dL_law_1020 ⟨Nat.le_of_ble_eq_true rfl, Nat.le_of_ble_eq_true rfl⟩ (fun u1 H locs hPM hP hD hS => ?_)
  have hP : zP g [(deskL g q z1).flatten, (mdlL g r u1).flatten] H := hP
  have hD : zD (lwA s) [(deskL g q z1).flatten, (mdlL g r u1).flatten] := hD
  refine z_toI ans rfl ?_
  refine z_sameI (tgt := 1074) hx hb dL_law_1023 (by decide) ?_
  exact kont z1 u1 H locs (hrel z1 u1 hPD hPM) hP hD hS
set_option maxHeartbeats 4000000 in
set_option maxRecDepth 100000 in
theorem lw_c26 {p : Program} {l : Launch} {e : Env} {s : State} {m : MethodId} {below : List Frame} {meth : Method} {c : Code} {b L : Nat} {xs : Nat → Int32} {g : zG} {t1 t2 : Nat} {x9 v9 : Nat → Nat} (C : lC p s m meth c b L xs g t1 t2 x9 v9) {q r : Nat} {z : DS} {u : MS} {H : Heap} {locs : List Loc} {ls : Array Slot} {i : Nat} (hi : i + 8 ≤ L) (hR : REL z u) (hP : zP g [(deskL g q z).flatten, (mdlL g r u).flatten] H) (hD : zD (lwA s) [(deskL g q z).flatten, (mdlL g r u).flatten]) (hS : va_S (lwA s) s.heap H locs) (hl : lv_has ls 4 [(0, .ref b), (1, .ref q), (2, .ref r), (3, vI ((i : Nat) : Int))]) (kont : ∀ (z1 : DS) (u1 : MS) (H : Heap) (locs : List Loc), REL z1 u1 → zP g [(deskL g q z1).flatten, (mdlL g r u1).flatten] H → zD (lwA s) [(deskL g q z1).flatten, (mdlL g r u1).flatten] → va_S (lwA s) s.heap H locs → lGo p l e s m below meth c b H locs 1074 ls []) : lGo p l e s m below meth c b H locs 1028 ls [] := by
  obtain ⟨hx, hb, hr, hml, hown, hts, hX, hbl, hlocks, hK, hXX, hL⟩ := id C
  have hbA : ¬ lwA s b := Nat.not_le.mpr hbl
  have hA : ∀ q : Nat, s.heap.size ≤ q → lwA s q := fun _ h => h
  obtain ⟨ans, PD, PM, hd, hm, hrel⟩ := pr_drop l g q r t1 t2 x9 v9 z u hR ((xs (i + 1)).toInt) (i_rng _)
  refine lv_aload_n hx hb dL_law_1028 rfl (lv_at hl 1 rfl) ?_
  refine lv_aload_n hx hb dL_law_1029 rfl (lv_at hl 0 rfl) ?_
  refine lv_iload_n hx hb dL_law_1030 rfl (lv_at hl 3 rfl) ?_
  refine z_iconst hx hb dL_law_1031 rfl ?_
  refine z_iadd hx hb (((i + 1) : Nat) : Int) (by omega) dL_law_1032 ?_
  refine z_sld hx hb hX hbl hbA hS hL (i + 1) (by omega) dL_law_1033 ?_
  refine z_xVi (As := [vI (xs (i + 1)).toInt]) (rest := []) ⟨hx, hb, hml, hown, hts⟩ hK hP hD hS hA [0] [1] rfl rfl rfl hd (cwV 1 hts gL_law_X9_drop rfl rfl rfl (by decide +kernel) ⟨Nat.le_of_ble_eq_true rfl, Nat.le_of_ble_eq_true rfl⟩) 9 0 rfl rfl rfl zXL_b (zXL_s hXX hS) rfl hl.1 (Nat.le_of_ble_eq_true rfl) rfl dL_law_1034 ⟨Nat.le_of_ble_eq_true rfl, Nat.le_of_ble_eq_true rfl⟩ (fun z1 H locs hPD hP hD hS => ?_)
  have hP : zP g [(mdlL g r u).flatten, (deskL g q z1).flatten] H := hP
  have hD : zD (lwA s) [(mdlL g r u).flatten, (deskL g q z1).flatten] := hD
  refine z_toI ans rfl ?_
  refine lv_aload_n hx hb dL_law_1037 rfl (lv_at hl 2 rfl) ?_
  refine lv_aload_n hx hb dL_law_1038 rfl (lv_at hl 0 rfl) ?_
  refine lv_iload_n hx hb dL_law_1039 rfl (lv_at hl 3 rfl) ?_
  refine z_iconst hx hb dL_law_1040 rfl ?_
  refine z_iadd hx hb (((i + 1) : Nat) : Int) (by omega) dL_law_1041 ?_
  refine z_sld hx hb hX hbl hbA hS hL (i + 1) (by omega) dL_law_1042 ?_
  refine z_cVi (As := [vI (xs (i + 1)).toInt]) (rest := [vI ans]) ⟨hx, hb, hml, hown, hts⟩ hK hP hD hS hA [0] [1] rfl rfl rfl hm (cwV 1 hts gL_law_X10_drop rfl rfl rfl (by decide +kernel) ⟨Nat.le_of_ble_eq_true rfl, Nat.le_of_ble_eq_true rfl⟩) 10 0 rfl rfl rfl (fun _ _ _ _ _ _ => trivial) (fun _ _ _ => trivial) rfl hl.1 (Nat.le_of_ble_eq_true rfl) rfl dL_law_1043 ⟨Nat.le_of_ble_eq_true rfl, Nat.le_of_ble_eq_true rfl⟩ (fun u1 H locs hPM hP hD hS => ?_)
  have hP : zP g [(deskL g q z1).flatten, (mdlL g r u1).flatten] H := hP
  have hD : zD (lwA s) [(deskL g q z1).flatten, (mdlL g r u1).flatten] := hD
  refine z_toI ans rfl ?_
  refine z_sameI (tgt := 1074) hx hb dL_law_1046 (by decide) ?_
  exact kont z1 u1 H locs (hrel z1 u1 hPD hPM) hP hD hS
set_option maxHeartbeats 4000000 in
set_option maxRecDepth 100000 in
theorem lw_c27 {p : Program} {l : Launch} {e : Env} {s : State} {m : MethodId} {below : List Frame} {meth : Method} {c : Code} {b L : Nat} {xs : Nat → Int32} {g : zG} {t1 t2 : Nat} {x9 v9 : Nat → Nat} (C : lC p s m meth c b L xs g t1 t2 x9 v9) {q r : Nat} {z : DS} {u : MS} {H : Heap} {locs : List Loc} {ls : Array Slot} {i : Nat} (hi : i + 8 ≤ L) (hR : REL z u) (hP : zP g [(deskL g q z).flatten, (mdlL g r u).flatten] H) (hD : zD (lwA s) [(deskL g q z).flatten, (mdlL g r u).flatten]) (hS : va_S (lwA s) s.heap H locs) (hl : lv_has ls 4 [(0, .ref b), (1, .ref q), (2, .ref r), (3, vI ((i : Nat) : Int))]) (kont : ∀ (z1 : DS) (u1 : MS) (H : Heap) (locs : List Loc), REL z1 u1 → zP g [(deskL g q z1).flatten, (mdlL g r u1).flatten] H → zD (lwA s) [(deskL g q z1).flatten, (mdlL g r u1).flatten] → va_S (lwA s) s.heap H locs → lGo p l e s m below meth c b H locs 1074 ls []) : lGo p l e s m below meth c b H locs 1051 ls [] := by
  obtain ⟨hx, hb, hr, hml, hown, hts, hX, hbl, hlocks, hK, hXX, hL⟩ := id C
  have hbA : ¬ lwA s b := Nat.not_le.mpr hbl
  have hA : ∀ q : Nat, s.heap.size ≤ q → lwA s q := fun _ h => h
  obtain ⟨ans, PD, PM, hd, hm, hrel⟩ := pr_count l g q r t1 t2 x9 v9 z u hR ((xs (i + 1)).toInt) (i_rng _)
  refine lv_aload_n hx hb dL_law_1051 rfl (lv_at hl 1 rfl) ?_
  refine lv_aload_n hx hb dL_law_1052 rfl (lv_at hl 0 rfl) ?_
  refine lv_iload_n hx hb dL_law_1053 rfl (lv_at hl 3 rfl) ?_
  refine z_iconst hx hb dL_law_1054 rfl ?_
  refine z_iadd hx hb (((i + 1) : Nat) : Int) (by omega) dL_law_1055 ?_
  refine z_sld hx hb hX hbl hbA hS hL (i + 1) (by omega) dL_law_1056 ?_
  refine z_xVi (As := [vI (xs (i + 1)).toInt]) (rest := []) ⟨hx, hb, hml, hown, hts⟩ hK hP hD hS hA [0] [1] rfl rfl rfl hd (cwV 1 hts gL_law_X9_count rfl rfl rfl (by decide +kernel) ⟨Nat.le_of_ble_eq_true rfl, Nat.le_of_ble_eq_true rfl⟩) 9 0 rfl rfl rfl zXL_b (zXL_s hXX hS) rfl hl.1 (Nat.le_of_ble_eq_true rfl) rfl dL_law_1057 ⟨Nat.le_of_ble_eq_true rfl, Nat.le_of_ble_eq_true rfl⟩ (fun z1 H locs hPD hP hD hS => ?_)
  have hP : zP g [(mdlL g r u).flatten, (deskL g q z1).flatten] H := hP
  have hD : zD (lwA s) [(mdlL g r u).flatten, (deskL g q z1).flatten] := hD
  refine z_toI ans rfl ?_
  refine lv_aload_n hx hb dL_law_1060 rfl (lv_at hl 2 rfl) ?_
  refine lv_aload_n hx hb dL_law_1061 rfl (lv_at hl 0 rfl) ?_
  refine lv_iload_n hx hb dL_law_1062 rfl (lv_at hl 3 rfl) ?_
  refine z_iconst hx hb dL_law_1063 rfl ?_
  refine z_iadd hx hb (((i + 1) : Nat) : Int) (by omega) dL_law_1064 ?_
  refine z_sld hx hb hX hbl hbA hS hL (i + 1) (by omega) dL_law_1065 ?_
  refine z_cVi (As := [vI (xs (i + 1)).toInt]) (rest := [vI ans]) ⟨hx, hb, hml, hown, hts⟩ hK hP hD hS hA [0] [1] rfl rfl rfl hm (cwV 1 hts gL_law_X10_count rfl rfl rfl (by decide +kernel) ⟨Nat.le_of_ble_eq_true rfl, Nat.le_of_ble_eq_true rfl⟩) 10 0 rfl rfl rfl (fun _ _ _ _ _ _ => trivial) (fun _ _ _ => trivial) rfl hl.1 (Nat.le_of_ble_eq_true rfl) rfl dL_law_1066 ⟨Nat.le_of_ble_eq_true rfl, Nat.le_of_ble_eq_true rfl⟩ (fun u1 H locs hPM hP hD hS => ?_)
  have hP : zP g [(deskL g q z1).flatten, (mdlL g r u1).flatten] H := hP
  have hD : zD (lwA s) [(deskL g q z1).flatten, (mdlL g r u1).flatten] := hD
  refine z_toI ans rfl ?_
  refine z_sameI (tgt := 1074) hx hb dL_law_1069 (by decide) ?_
  exact kont z1 u1 H locs (hrel z1 u1 hPD hPM) hP hD hS
