set_option maxHeartbeats 4000000 in
set_option maxRecDepth 100000 in
theorem whole_start {p : Program} {e : Env} {s : State} {m : MethodId} {below : List Frame} {meth : Method} {c : Code} (l : Launch) (hflags : l.flags = flags0) {b L : Nat} {xs : Nat → Int32} (hL : L ≤ 4096) (C0 : lw_At p s m meth c b L xs) : W p l e room_1 s m #[Value.ref b] below meth c s.heap [] 0 0 (lw_Z below #[Value.ref b] s) (entryFrame m ([Value.ref b] : List Value).toArray 4) := by
  obtain ⟨hx, hb, hr, hml, hown, htb, hX, hbl, hlocks, hgv⟩ := id C0
  have hb : c.code = cL_law := hb
  have hown : s.vm.findClass RL = some m.cls := hown
  obtain ⟨g, hK⟩ := law_K htb
  obtain ⟨t1, hX1⟩ := law_XS htb hgv
  obtain ⟨t2, hX2⟩ := law_XJ htb hgv
  obtain ⟨x9, v9, hX3⟩ := law_XW htb hgv
  have hXN := law_XN htb (lwA s)
  have hts : ∀ w ∈ wsL_law, w.before #[Value.ref b] s = true := fun w hw => htb w (wsL_law_in w hw)
  have C : lC p s m meth c b L xs g t1 t2 x9 v9 := ⟨hx, hb, hr, hml, hown, hts, hX, hbl, hlocks, hK, ⟨hXN, hX1, hX2, hX3⟩, hL⟩
  have hA : ∀ q : Nat, s.heap.size ≤ q → lwA s q := fun _ h => h
  have hS : va_S (lwA s) s.heap s.heap [] := va_S.rf
  have hP : zP g [] s.heap := fun k q h => by simp at h
  have hD : zD (lwA s) [] := ⟨fun i j p q h => by simp at h, fun k q h => by simp at h⟩
  have hl := lv_entry ([.ref b]) (n := 4) (Nat.le_of_ble_eq_true rfl)
  rw [lg_entry_eq]
  generalize (lg_sl ([.ref b]) ++ List.replicate (4 - (lg_sl ([.ref b])).length) Slot.unset).toArray = ls at hl ⊢
  have hl : lv_has ls 4 [(0, .ref b)] := hl
  refine z_new hx hb htb zw_wsX90 tyX9 tyX9_ok hown (htb (.classLink RL 7 RX9) (List.mem_of_getElem? (i := 72) (by decide +kernel))) (htb (.instantiable RX9 12) (List.mem_of_getElem? (i := 73) (by decide +kernel))) (htb (.initialized RX9) (List.mem_of_getElem? (i := 55) (by decide +kernel))) hK hP hD hS hA (ci := 9) rfl (fs := [.null, .null, .null, .null, .null, .null, .null, .null, .null, .null, .null, .null]) (by decide) (Nat.le_of_ble_eq_true rfl) (Nat.le_of_ble_eq_true rfl) dL_law_0 (fun q H hP hD hS => ?_)
  have hP : zP g [[(q, .inr (9, [.null, .null, .null, .null, .null, .null, .null, .null, .null, .null, .null, .null]))]] H := hP
  have hD : zD (lwA s) [[(q, .inr (9, [.null, .null, .null, .null, .null, .null, .null, .null, .null, .null, .null, .null]))]] := hD
  refine lv_dup hx hb dL_law_3 rfl ?_
  refine z_cIv (As := []) (rest := [.ref q]) ⟨hx, hb, hml, hown, hts⟩ hK hP hD hS hA [0] [] rfl rfl rfl (c_X9_init2 l g q) (cwI 0 hts gL_law_X9_init rfl rfl rfl (htb (.initialized RX9) (List.mem_of_getElem? (i := 55) (by decide +kernel))) (htb (.methodLink RL 9 yX9_init) (List.mem_of_getElem? (i := 74) (by decide +kernel))) (htb (.instanceMethod yX9_init) (List.mem_of_getElem? (i := 75) (by decide +kernel))) rfl (by decide +kernel) ⟨Nat.le_of_ble_eq_true rfl, Nat.le_of_ble_eq_true rfl⟩) zXN_b (zXN_s hXN) rfl hl.1 (Nat.le_of_ble_eq_true rfl) rfl dL_law_4 ⟨Nat.le_of_ble_eq_true rfl, Nat.le_of_ble_eq_true rfl⟩ (fun uD H locs hwuD hP hD hS => ?_)
  have hP : zP g [(deskL g q (st0 uD)).flatten] H := by show va_P g.1 vwCl [(deskL g q (st0 uD)).flatten].flatten H; rw [zs_one]; exact hP
  have hD : zD (lwA s) [(deskL g q (st0 uD)).flatten] := by show va_D (lwA s) [(deskL g q (st0 uD)).flatten].flatten; rw [zs_one]; exact hD
  refine lv_astore_n (lv' := [(1, .ref q), (0, .ref b)]) hx hb dL_law_7 rfl hl (by decide) rfl (fun ls hl => ?_)
  refine z_new hx hb htb zw_wsX100 tyX10 tyX10_ok hown (htb (.classLink RL 10 RX10) (List.mem_of_getElem? (i := 854) (by decide +kernel))) (htb (.instantiable RX10 26) (List.mem_of_getElem? (i := 855) (by decide +kernel))) (htb (.initialized RX10) (List.mem_of_getElem? (i := 65) (by decide +kernel))) hK hP hD hS hA (ci := 10) rfl (fs := [.null, .null, vI 0, vI 0, .null, .null, .null, vI 0, .null, .null, vI 0, .null, .null, .null, .null, vI 0, vI 0, vI 0, vI 0, vI 0, .null, .null, vI 0, vL 0, .null, .null]) (by decide) (Nat.le_of_ble_eq_true rfl) (Nat.le_of_ble_eq_true rfl) dL_law_8 (fun r H hP hD hS => ?_)
  have hP : zP g [(deskL g q (st0 uD)).flatten, [(r, .inr (10, [.null, .null, vI 0, vI 0, .null, .null, .null, vI 0, .null, .null, vI 0, .null, .null, .null, .null, vI 0, vI 0, vI 0, vI 0, vI 0, .null, .null, vI 0, vL 0, .null, .null]))]] H := hP
  have hD : zD (lwA s) [(deskL g q (st0 uD)).flatten, [(r, .inr (10, [.null, .null, vI 0, vI 0, .null, .null, .null, vI 0, .null, .null, vI 0, .null, .null, .null, .null, vI 0, vI 0, vI 0, vI 0, vI 0, .null, .null, vI 0, vL 0, .null, .null]))]] := hD
  refine lv_dup hx hb dL_law_11 rfl ?_
  refine z_cIv (As := []) (rest := [.ref r]) ⟨hx, hb, hml, hown, hts⟩ hK hP hD hS hA [1] [0] rfl rfl rfl (c_X10_init l g r) (cwI 0 hts gL_law_X10_init rfl rfl rfl (htb (.initialized RX10) (List.mem_of_getElem? (i := 65) (by decide +kernel))) (htb (.methodLink RL 12 yX10_init) (List.mem_of_getElem? (i := 856) (by decide +kernel))) (htb (.instanceMethod yX10_init) (List.mem_of_getElem? (i := 857) (by decide +kernel))) rfl (by decide +kernel) ⟨Nat.le_of_ble_eq_true rfl, Nat.le_of_ble_eq_true rfl⟩) (fun _ _ _ _ _ _ => trivial) (fun _ _ _ => trivial) rfl hl.1 (Nat.le_of_ble_eq_true rfl) rfl dL_law_12 ⟨Nat.le_of_ble_eq_true rfl, Nat.le_of_ble_eq_true rfl⟩ (fun uM H locs hwuM hP hD hS => ?_)
  have hP : zP g ((deskL g q (st0 uD)).flatten :: mdlL g r (mt0 uM)) H := hP
  have hD : zD (lwA s) ((deskL g q (st0 uD)).flatten :: mdlL g r (mt0 uM)) := hD
  have e2 : ((deskL g q (st0 uD)).flatten :: mdlL g r (mt0 uM)).flatten = [(deskL g q (st0 uD)).flatten, (mdlL g r (mt0 uM)).flatten].flatten := by simp
  have hP : zP g [(deskL g q (st0 uD)).flatten, (mdlL g r (mt0 uM)).flatten] H := by unfold zP at hP ⊢; rw [← e2]; exact hP
  have hD : zD (lwA s) [(deskL g q (st0 uD)).flatten, (mdlL g r (mt0 uM)).flatten] := by unfold zD at hD ⊢; rw [← e2]; exact hD
  refine lv_astore_n (lv' := [(2, .ref r), (1, .ref q), (0, .ref b)]) hx hb dL_law_15 rfl hl (by decide) rfl (fun ls hl => ?_)
  refine z_iconst hx hb dL_law_16 rfl ?_
  refine lv_istore_n (lv' := [(3, vI 0), (2, .ref r), (1, .ref q), (0, .ref b)]) hx hb dL_law_17 rfl hl (by decide) rfl (fun ls hl => ?_)
  refine W.widen (k := 600000) (n := 7302250) (Nat.le_of_ble_eq_true rfl) (Nat.le_of_ble_eq_true rfl) ?_
  exact lw_loop C (L + 9) 0 (st0 uD) (mt0 uM) H locs ls (by omega) (by omega) (rel_0 uD uM hwuM) hP hD hS (lv_sub hl [3, 2, 1, 0] rfl)
