theorem arr_1 {args : Array Value} {s : State} (h : (Cond.arrayClass .int).before args s = true) : ∃ cA : ClassId, ArrOfT s cA .int ∧ va_RA s cA .int := by
  obtain ⟨c, k, comp, h1, h2, h3⟩ := Cond.arrayClass_spec h
  exact ⟨c, fun n z => ⟨fun k h => (by cases h), k, h2, comp, h3⟩, h1⟩
theorem arr_2 {args : Array Value} {s : State} (h : (Cond.arrayClass .long).before args s = true) : ∃ cA : ClassId, ArrOfT s cA .long ∧ va_RA s cA .long := by
  obtain ⟨c, k, comp, h1, h2, h3⟩ := Cond.arrayClass_spec h
  exact ⟨c, fun n z => ⟨fun k h => (by cases h), k, h2, comp, h3⟩, h1⟩
theorem arr_3 {args : Array Value} {s : State} (h : (Cond.arrayClass .boolean).before args s = true) : ∃ cA : ClassId, ArrOfT s cA .boolean ∧ va_RA s cA .boolean := by
  obtain ⟨c, k, comp, h1, h2, h3⟩ := Cond.arrayClass_spec h
  exact ⟨c, fun n z => ⟨fun k h => (by cases h), k, h2, comp, h3⟩, h1⟩
theorem arr_4 {args : Array Value} {s : State} {C : String} (h : (Cond.arrayOver (.object C)).before args s = true) : ∃ cA : ClassId, ArrOfT s cA (.object C) ∧ va_RA s cA (.object C) := by
  obtain ⟨comp, c, k, h1, h2, h3, h4, h5⟩ := Cond.arrayOver_spec h
  exact ⟨c, fun n z => ⟨fun k h => (by cases h), k, h3, comp, h4⟩, k, comp, h3, h4, h1, h5⟩
theorem law_K {args : Array Value} {s : State} (htb : ∀ w ∈ lw_tbl, w.before args s = true) : ∃ g : zG, zK g s := by
  obtain ⟨c0, i0, k0⟩ := u_known (C := RX0) (T := TX0) (N := 4) (n := 4) htb zw_wsX00 (htb (.instantiable RX0 4) (List.mem_of_getElem? (i := 259) (by decide +kernel)))
  obtain ⟨c1, i1, k1⟩ := u_known (C := RX1) (T := TX1) (N := 3) (n := 3) htb zw_wsX10 (htb (.instantiable RX1 3) (List.mem_of_getElem? (i := 171) (by decide +kernel)))
  obtain ⟨c2, i2, k2⟩ := u_known (C := RX2) (T := TX2) (N := 5) (n := 5) htb zw_wsX20 (htb (.instantiable RX2 5) (List.mem_of_getElem? (i := 112) (by decide +kernel)))
  obtain ⟨c3, i3, k3⟩ := u_known (C := RX3) (T := TX3) (N := 3) (n := 3) htb zw_wsX30 (htb (.instantiable RX3 3) (List.mem_of_getElem? (i := 212) (by decide +kernel)))
  obtain ⟨c4, i4, k4⟩ := u_known (C := RX4) (T := TX4) (N := 2) (n := 2) htb zw_wsX40 (htb (.instantiable RX4 2) (List.mem_of_getElem? (i := 165) (by decide +kernel)))
  obtain ⟨c5, i5, k5⟩ := u_known (C := RX5) (T := TX5) (N := 5) (n := 5) htb zw_wsX50 (htb (.instantiable RX5 5) (List.mem_of_getElem? (i := 232) (by decide +kernel)))
  obtain ⟨c6, i6, k6⟩ := u_known (C := RX6) (T := TX6) (N := 5) (n := 5) htb zw_wsX60 (htb (.instantiable RX6 5) (List.mem_of_getElem? (i := 280) (by decide +kernel)))
  obtain ⟨c7, i7, k7⟩ := u_known (C := RX7) (T := TX7) (N := 7) (n := 7) htb zw_wsX70 (htb (.instantiable RX7 7) (List.mem_of_getElem? (i := 81) (by decide +kernel)))
  obtain ⟨c8, i8, k8⟩ := u_known (C := RX8) (T := TX8) (N := 1) (n := 1) htb zw_wsX80 (htb (.instantiable RX8 1) (List.mem_of_getElem? (i := 158) (by decide +kernel)))
  obtain ⟨c9, i9, k9⟩ := u_known (C := RX9) (T := TX9) (N := 12) (n := 12) htb zw_wsX90 (htb (.instantiable RX9 12) (List.mem_of_getElem? (i := 73) (by decide +kernel)))
  obtain ⟨c10, i10, k10⟩ := u_known (C := RX10) (T := TX10) (N := 26) (n := 26) htb zw_wsX100 (htb (.instantiable RX10 26) (List.mem_of_getElem? (i := 855) (by decide +kernel)))
  obtain ⟨a0, b0⟩ := arr_1 (htb (.arrayClass .int) (List.mem_of_getElem? (i := 110) (by decide +kernel)))
  obtain ⟨a1, b1⟩ := arr_2 (htb (.arrayClass .long) (List.mem_of_getElem? (i := 939) (by decide +kernel)))
  obtain ⟨a2, b2⟩ := arr_3 (htb (.arrayClass .boolean) (List.mem_of_getElem? (i := 257) (by decide +kernel)))
  obtain ⟨a3, b3⟩ := arr_4 (htb (.arrayOver (.object "FaultDesk$Num")) (List.mem_of_getElem? (i := 164) (by decide +kernel)))
  obtain ⟨a4, b4⟩ := arr_4 (htb (.arrayOver (.object "FaultDesk$Store")) (List.mem_of_getElem? (i := 279) (by decide +kernel)))
  obtain ⟨a5, b5⟩ := arr_4 (htb (.arrayOver (.object "FaultDesk$Three")) (List.mem_of_getElem? (i := 218) (by decide +kernel)))
  refine ⟨((fun k => ([c0, c1, c2, c3, c4, c5, c6, c7, c8, c9, c10] : List ClassId).getD k c0, fun k => ([i0, i1, i2, i3, i4, i5, i6, i7, i8, i9, i10] : List (Nat → Nat)).getD k i0), fun k => ([a0, a1, a2, a3, a4, a5] : List ClassId).getD k a0), ?_, ?_⟩
  · intro k q hq
    match k, hq with
    | 0, hq => cases hq; exact k0
    | 1, hq => cases hq; exact k1
    | 2, hq => cases hq; exact k2
    | 3, hq => cases hq; exact k3
    | 4, hq => cases hq; exact k4
    | 5, hq => cases hq; exact k5
    | 6, hq => cases hq; exact k6
    | 7, hq => cases hq; exact k7
    | 8, hq => cases hq; exact k8
    | 9, hq => cases hq; exact k9
    | 10, hq => cases hq; exact k10
    | k + 11, hq => simp [vwCl] at hq
  · intro k q hq
    match k, hq with
    | 0, hq => cases hq; exact b0
    | 1, hq => cases hq; exact b1
    | 2, hq => cases hq; exact b2
    | 3, hq => cases hq; exact b3
    | 4, hq => cases hq; exact b4
    | 5, hq => cases hq; exact b5
    | k + 6, hq => simp [zT] at hq
theorem zNs_in : ∀ w ∈ zNs.map (fun q => Cond.methodLinkNest q.1 q.2.1 q.2.2 "FaultDesk"), w ∈ lw_tbl := zw_in [82, 159, 166, 172, 219, 233, 238, 240, 260, 281, 719] (by decide +kernel)
theorem law_XN {args : Array Value} {s : State} (htb : ∀ w ∈ lw_tbl, w.before args s = true) (A : Nat → Prop) : zXN A s := ⟨fun q hq => va_Nw.of rfl (htb _ (zNs_in _ (List.mem_map.mpr ⟨q, hq, rfl⟩))), va_AO.of (htb (.arrayOver (.object "FaultDesk$Num")) (List.mem_of_getElem? (i := 164) (by decide +kernel))), va_AO.of (htb (.arrayOver (.object "FaultDesk$Store")) (List.mem_of_getElem? (i := 279) (by decide +kernel))), va_AO.of (htb (.arrayOver (.object "FaultDesk$Three")) (List.mem_of_getElem? (i := 218) (by decide +kernel)))⟩
theorem not_old (s : State) : ∀ a : Nat, a < s.heap.size → ¬ lwA s a := fun _ h => Nat.not_le.mpr h
theorem law_XS {args : Array Value} {s : State} (htb : ∀ w ∈ lw_tbl, w.before args s = true) (hgv : (Jvm.Cond.and given_1 narrow_1).before args s = true) : ∃ t : Nat, zXP "SPLIT_TURNS" t tnS (lwA s) s := by
  have hs := flat_of_before _ hgv
  obtain ⟨t, h1, h2⟩ := va_Tof (tm := (Term.static "FaultDesk" "SPLIT_TURNS" "[I")) (ty := .int) (N := 6) (f := tnS) (A := lwA s) (by decide) (hs (Cond.arrayOf (Term.static "FaultDesk" "SPLIT_TURNS" "[I") .int) (by decide +kernel)) (va_eqt (hs (Cond.eq (.length (Term.static "FaultDesk" "SPLIT_TURNS" "[I")) (.int 6)) (by decide +kernel))) (fun j hj => by
    match j, hj with
    | 0, _ => exact va_eqt (hs (Cond.eq (.elem (Term.static "FaultDesk" "SPLIT_TURNS" "[I") (.int 0)) (.int 0)) (by decide +kernel))
    | 1, _ => exact va_eqt (hs (Cond.eq (.elem (Term.static "FaultDesk" "SPLIT_TURNS" "[I") (.int 1)) (.int 0)) (by decide +kernel))
    | 2, _ => exact va_eqt (hs (Cond.eq (.elem (Term.static "FaultDesk" "SPLIT_TURNS" "[I") (.int 2)) (.int 1)) (by decide +kernel))
    | 3, _ => exact va_eqt (hs (Cond.eq (.elem (Term.static "FaultDesk" "SPLIT_TURNS" "[I") (.int 3)) (.int 2)) (by decide +kernel))
    | 4, _ => exact va_eqt (hs (Cond.eq (.elem (Term.static "FaultDesk" "SPLIT_TURNS" "[I") (.int 4)) (.int 2)) (by decide +kernel))
    | 5, _ => exact va_eqt (hs (Cond.eq (.elem (Term.static "FaultDesk" "SPLIT_TURNS" "[I") (.int 5)) (.int 1)) (by decide +kernel))
    | j + 6, hj => exact absurd hj (by omega)) (not_old s)
  exact ⟨t, va_Zof (htb (.laysStatic "FaultDesk" "SPLIT_TURNS" "[I") (List.mem_of_getElem? (i := 541) (by decide +kernel))) (htb (.initialized "FaultDesk") (List.mem_of_getElem? (i := 55) (by decide +kernel))) h1 (not_old s), h2⟩
theorem law_XJ {args : Array Value} {s : State} (htb : ∀ w ∈ lw_tbl, w.before args s = true) (hgv : (Jvm.Cond.and given_1 narrow_1).before args s = true) : ∃ t : Nat, zXP "JOIN_TURNS" t tnJ (lwA s) s := by
  have hs := flat_of_before _ hgv
  obtain ⟨t, h1, h2⟩ := va_Tof (tm := (Term.static "FaultDesk" "JOIN_TURNS" "[I")) (ty := .int) (N := 6) (f := tnJ) (A := lwA s) (by decide) (hs (Cond.arrayOf (Term.static "FaultDesk" "JOIN_TURNS" "[I") .int) (by decide +kernel)) (va_eqt (hs (Cond.eq (.length (Term.static "FaultDesk" "JOIN_TURNS" "[I")) (.int 6)) (by decide +kernel))) (fun j hj => by
    match j, hj with
    | 0, _ => exact va_eqt (hs (Cond.eq (.elem (Term.static "FaultDesk" "JOIN_TURNS" "[I") (.int 0)) (.int 0)) (by decide +kernel))
    | 1, _ => exact va_eqt (hs (Cond.eq (.elem (Term.static "FaultDesk" "JOIN_TURNS" "[I") (.int 1)) (.int 0)) (by decide +kernel))
    | 2, _ => exact va_eqt (hs (Cond.eq (.elem (Term.static "FaultDesk" "JOIN_TURNS" "[I") (.int 2)) (.int 2)) (by decide +kernel))
    | 3, _ => exact va_eqt (hs (Cond.eq (.elem (Term.static "FaultDesk" "JOIN_TURNS" "[I") (.int 3)) (.int 1)) (by decide +kernel))
    | 4, _ => exact va_eqt (hs (Cond.eq (.elem (Term.static "FaultDesk" "JOIN_TURNS" "[I") (.int 4)) (.int 1)) (by decide +kernel))
    | 5, _ => exact va_eqt (hs (Cond.eq (.elem (Term.static "FaultDesk" "JOIN_TURNS" "[I") (.int 5)) (.int 2)) (by decide +kernel))
    | j + 6, hj => exact absurd hj (by omega)) (not_old s)
  exact ⟨t, va_Zof (htb (.laysStatic "FaultDesk" "JOIN_TURNS" "[I") (List.mem_of_getElem? (i := 596) (by decide +kernel))) (htb (.initialized "FaultDesk") (List.mem_of_getElem? (i := 55) (by decide +kernel))) h1 (not_old s), h2⟩
theorem str_ok {args : Array Value} {s : State} {k : Nat} {tx : String} {bs : List Int} (hb : bs.length < 2 ^ 31) (hr : (Cond.stringRef RX7 k tx).before args s = true) (hex : (Cond.exactly (.string RX7 k) "java/lang/String").before args s = true) (hco : (Cond.eq (.field (.string RX7 k) "java/lang/String" "coder" "B") (.int 0)).before args s = true) (har : (Cond.arrayOf (.field (.string RX7 k) "java/lang/String" "value" "[B") .byte).before args s = true) (hle : (Term.length (.field (.string RX7 k) "java/lang/String" "value" "[B")).eval args s none [] s = some (.int (Int32.ofNat bs.length)))
    (hel : ∀ j : Nat, j < bs.length → (Term.elem (.field (.string RX7 k) "java/lang/String" "value" "[B") (.int (Int32.ofNat j))).eval args s none [] s = some (vI (bs.getD j 0))) (hZ : va_Z "java/lang/String" "COMPACT_STRINGS" "Z" (vI 1) (lwA s) s s.heap) (hq : va_Zq "jdk/internal/util/Preconditions" "SIOOBE_FORMATTER" "Ljava/util/function/BiFunction;" (lwA s) s s.heap) : ∃ a av : Nat, vk_R RX7 k tx a s ∧ zXS a av bs (lwA s) s := by
  obtain ⟨a, c, cA, kA, q1, -⟩ := Cond.exactly_spec (args := args) (first := s) (o := none) (s := s) (idx := []) (t := .string RX7 k) (cls := "java/lang/String") hex
  obtain ⟨t, ht, hT⟩ := va_Tof (f := fun j => vI (bs.getD j 0)) (A := lwA s) hb har hle hel (not_old s)
  exact ⟨a, t, vk_R.of hr q1, hZ, hq, va_Oof hex q1 (not_old s), vk_OFof q1 (va_eqt hco) (not_old s), vk_OFof q1 ht (not_old s), hT⟩
theorem law_XW {args : Array Value} {s : State} (htb : ∀ w ∈ lw_tbl, w.before args s = true) (hgv : (Jvm.Cond.and given_1 narrow_1).before args s = true) : ∃ x v : Nat → Nat, zXW x v (lwA s) s := by
  have hs := flat_of_before _ hgv
  have hZ : va_Z "java/lang/String" "COMPACT_STRINGS" "Z" (vI 1) (lwA s) s s.heap := va_Zof (htb (.laysStatic "java/lang/String" "COMPACT_STRINGS" "Z") (List.mem_of_getElem? (i := 397) (by decide +kernel))) (htb (.initialized "java/lang/String") (List.mem_of_getElem? (i := 67) (by decide +kernel))) (va_eqt (hs (Cond.eq (.static "java/lang/String" "COMPACT_STRINGS" "Z") (.int 1)) (by decide +kernel))) (not_old s)
  have hq : va_Zq "jdk/internal/util/Preconditions" "SIOOBE_FORMATTER" "Ljava/util/function/BiFunction;" (lwA s) s s.heap := va_Zqof (htb (.laysStatic "jdk/internal/util/Preconditions" "SIOOBE_FORMATTER" "Ljava/util/function/BiFunction;") (List.mem_of_getElem? (i := 413) (by decide +kernel))) (htb (.initialized "jdk/internal/util/Preconditions") (List.mem_of_getElem? (i := 69) (by decide +kernel))) (hs (Cond.isRef (.static "jdk/internal/util/Preconditions" "SIOOBE_FORMATTER" "Ljava/util/function/BiFunction;")) (by decide +kernel)) (not_old s)
  obtain ⟨a0, v0, r0, y0⟩ := str_ok (k := 45) (tx := "net") (bs := wNet) (by decide) (htb (.stringRef RX7 45 "net") (List.mem_of_getElem? (i := 383) (by decide +kernel))) (hs (Cond.exactly (.string RX7 45) "java/lang/String") (by decide +kernel)) (hs (Cond.eq (.field (.string RX7 45) "java/lang/String" "coder" "B") (.int 0)) (by decide +kernel)) (hs (Cond.arrayOf (.field (.string RX7 45) "java/lang/String" "value" "[B") .byte) (by decide +kernel)) (va_eqt (hs (Cond.eq (.length (.field (.string RX7 45) "java/lang/String" "value" "[B")) (.int 3)) (by decide +kernel))) (fun j hj => by
    match j, hj with
    | 0, _ => exact va_eqt (hs (Cond.eq (.elem (.field (.string RX7 45) "java/lang/String" "value" "[B") (.int 0)) (.int 110)) (by decide +kernel))
    | 1, _ => exact va_eqt (hs (Cond.eq (.elem (.field (.string RX7 45) "java/lang/String" "value" "[B") (.int 1)) (.int 101)) (by decide +kernel))
    | 2, _ => exact va_eqt (hs (Cond.eq (.elem (.field (.string RX7 45) "java/lang/String" "value" "[B") (.int 2)) (.int 116)) (by decide +kernel))
    | j + 3, hj => exact absurd hj (by show ¬ j + 3 < 3; omega)) hZ hq
  obtain ⟨a1, v1, r1, y1⟩ := str_ok (k := 61) (tx := "source") (bs := wSou) (by decide) (htb (.stringRef RX7 61 "source") (List.mem_of_getElem? (i := 441) (by decide +kernel))) (hs (Cond.exactly (.string RX7 61) "java/lang/String") (by decide +kernel)) (hs (Cond.eq (.field (.string RX7 61) "java/lang/String" "coder" "B") (.int 0)) (by decide +kernel)) (hs (Cond.arrayOf (.field (.string RX7 61) "java/lang/String" "value" "[B") .byte) (by decide +kernel)) (va_eqt (hs (Cond.eq (.length (.field (.string RX7 61) "java/lang/String" "value" "[B")) (.int 6)) (by decide +kernel))) (fun j hj => by
    match j, hj with
    | 0, _ => exact va_eqt (hs (Cond.eq (.elem (.field (.string RX7 61) "java/lang/String" "value" "[B") (.int 0)) (.int 115)) (by decide +kernel))
    | 1, _ => exact va_eqt (hs (Cond.eq (.elem (.field (.string RX7 61) "java/lang/String" "value" "[B") (.int 1)) (.int 111)) (by decide +kernel))
    | 2, _ => exact va_eqt (hs (Cond.eq (.elem (.field (.string RX7 61) "java/lang/String" "value" "[B") (.int 2)) (.int 117)) (by decide +kernel))
    | 3, _ => exact va_eqt (hs (Cond.eq (.elem (.field (.string RX7 61) "java/lang/String" "value" "[B") (.int 3)) (.int 114)) (by decide +kernel))
    | 4, _ => exact va_eqt (hs (Cond.eq (.elem (.field (.string RX7 61) "java/lang/String" "value" "[B") (.int 4)) (.int 99)) (by decide +kernel))
    | 5, _ => exact va_eqt (hs (Cond.eq (.elem (.field (.string RX7 61) "java/lang/String" "value" "[B") (.int 5)) (.int 101)) (by decide +kernel))
    | j + 6, hj => exact absurd hj (by show ¬ j + 6 < 6; omega)) hZ hq
  obtain ⟨a2, v2, r2, y2⟩ := str_ok (k := 70) (tx := "bus") (bs := wBus) (by decide) (htb (.stringRef RX7 70 "bus") (List.mem_of_getElem? (i := 447) (by decide +kernel))) (hs (Cond.exactly (.string RX7 70) "java/lang/String") (by decide +kernel)) (hs (Cond.eq (.field (.string RX7 70) "java/lang/String" "coder" "B") (.int 0)) (by decide +kernel)) (hs (Cond.arrayOf (.field (.string RX7 70) "java/lang/String" "value" "[B") .byte) (by decide +kernel)) (va_eqt (hs (Cond.eq (.length (.field (.string RX7 70) "java/lang/String" "value" "[B")) (.int 3)) (by decide +kernel))) (fun j hj => by
    match j, hj with
    | 0, _ => exact va_eqt (hs (Cond.eq (.elem (.field (.string RX7 70) "java/lang/String" "value" "[B") (.int 0)) (.int 98)) (by decide +kernel))
    | 1, _ => exact va_eqt (hs (Cond.eq (.elem (.field (.string RX7 70) "java/lang/String" "value" "[B") (.int 1)) (.int 117)) (by decide +kernel))
    | 2, _ => exact va_eqt (hs (Cond.eq (.elem (.field (.string RX7 70) "java/lang/String" "value" "[B") (.int 2)) (.int 115)) (by decide +kernel))
    | j + 3, hj => exact absurd hj (by show ¬ j + 3 < 3; omega)) hZ hq
  obtain ⟨a3, v3, r3, y3⟩ := str_ok (k := 81) (tx := "relay") (bs := wRel) (by decide) (htb (.stringRef RX7 81 "relay") (List.mem_of_getElem? (i := 450) (by decide +kernel))) (hs (Cond.exactly (.string RX7 81) "java/lang/String") (by decide +kernel)) (hs (Cond.eq (.field (.string RX7 81) "java/lang/String" "coder" "B") (.int 0)) (by decide +kernel)) (hs (Cond.arrayOf (.field (.string RX7 81) "java/lang/String" "value" "[B") .byte) (by decide +kernel)) (va_eqt (hs (Cond.eq (.length (.field (.string RX7 81) "java/lang/String" "value" "[B")) (.int 5)) (by decide +kernel))) (fun j hj => by
    match j, hj with
    | 0, _ => exact va_eqt (hs (Cond.eq (.elem (.field (.string RX7 81) "java/lang/String" "value" "[B") (.int 0)) (.int 114)) (by decide +kernel))
    | 1, _ => exact va_eqt (hs (Cond.eq (.elem (.field (.string RX7 81) "java/lang/String" "value" "[B") (.int 1)) (.int 101)) (by decide +kernel))
    | 2, _ => exact va_eqt (hs (Cond.eq (.elem (.field (.string RX7 81) "java/lang/String" "value" "[B") (.int 2)) (.int 108)) (by decide +kernel))
    | 3, _ => exact va_eqt (hs (Cond.eq (.elem (.field (.string RX7 81) "java/lang/String" "value" "[B") (.int 3)) (.int 97)) (by decide +kernel))
    | 4, _ => exact va_eqt (hs (Cond.eq (.elem (.field (.string RX7 81) "java/lang/String" "value" "[B") (.int 4)) (.int 121)) (by decide +kernel))
    | j + 5, hj => exact absurd hj (by show ¬ j + 5 < 5; omega)) hZ hq
  exact ⟨lA [a0, a1, a2, a3], lA [v0, v1, v2, v3], ⟨r0, r1, r2, r3⟩, y0, y1, y2, y3⟩
