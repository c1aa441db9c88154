set_option maxHeartbeats 4000000 in
set_option maxRecDepth 100000 in
theorem lw_loop {p : Program} {l : Launch} {e : Env} {s : State} {m : MethodId} {below : List Frame} {meth : Method} {c : Code} {b L : Nat} {xs : Nat → Int32} {g : zG} {t1 t2 : Nat} {x9 v9 : Nat → Nat} (C : lC p s m meth c b L xs g t1 t2 x9 v9) {q r : Nat} : ∀ (n i : Nat) (z : DS) (u : MS) (H : Heap) (locs : List Loc) (ls : Array Slot), L + 8 - i < n → i ≤ L + 8 → REL z u → zP g [(deskL g q z).flatten, (mdlL g r u).flatten] H → zD (lwA s) [(deskL g q z).flatten, (mdlL g r u).flatten] → va_S (lwA s) s.heap H locs → lv_has ls 4 [(0, .ref b), (1, .ref q), (2, .ref r), (3, vI ((i : Nat) : Int))] → lGo p l e s m below meth c b H locs 18 ls [] := by
  obtain ⟨hx, hb, hr, hml, hown, hts, hX, hbl, hlocks, hK, hXX, hL⟩ := id C
  have hbA : ¬ lwA s b := Nat.not_le.mpr hbl
  intro n
  induction n with
  | zero => intro i z u H locs ls hn; exact absurd hn (Nat.not_lt_zero _)
  | succ n ih =>
    intro i z u H locs ls hn hiL hR hP hD hS hl
    refine lv_iload_n hx hb dL_law_18 rfl (lv_at hl 3 rfl) ?_
    refine lv_aload_n hx hb dL_law_19 rfl (lv_at hl 0 rfl) ?_
    refine z_slen hx hb hX hbl hbA hS dL_law_20 ?_
    refine z_bipush hx hb 8 dL_law_21 rfl ?_
    refine z_isub hx hb ((L : Int) - 8) rfl dL_law_23 ?_
    refine z_icmp_gt (tgt := 1080) hx hb (by omega) (by omega) dL_law_24 (by decide) (fun h1 => ?_) (fun h1 => ?_)
    · refine z_iconst hx hb dL_law_1080 rfl ?_
      refine va_forget (fun y hy => hS.2.2 y hy) ?_
      exact lw_ret hx hb hr hlocks dL_law_1081
    · have hi : i + 8 ≤ L := by omega
      have kont : ∀ (z1 : DS) (u1 : MS) (H : Heap) (locs : List Loc), REL z1 u1 → zP g [(deskL g q z1).flatten, (mdlL g r u1).flatten] H → zD (lwA s) [(deskL g q z1).flatten, (mdlL g r u1).flatten] → va_S (lwA s) s.heap H locs → lGo p l e s m below meth c b H locs 1074 ls [] := by
        intro z1 u1 H locs hR hP hD hS
        refine z_iinc hx hb (((i + 8) : Nat) : Int) (lv' := [(3, vI (((i + 8) : Nat) : Int)), (0, .ref b), (1, .ref q), (2, .ref r)]) dL_law_1074 hl (k := 3) rfl (by omega) (by decide) rfl (fun ls hl => ?_)
        refine lv_goto (tgt := 18) hx hb dL_law_1077 (by decide) ?_
        exact ih (i + 8) z1 u1 H locs ls (by omega) (by omega) hR hP hD hS (lv_sub hl [1, 2, 3, 0] rfl)
      refine lv_aload_n hx hb dL_law_27 rfl (lv_at hl 0 rfl) ?_
      refine lv_iload_n hx hb dL_law_28 rfl (lv_at hl 3 rfl) ?_
      refine z_sld hx hb hX hbl hbA hS hL i (by omega) dL_law_29 ?_
      refine z_bipush hx hb 31 dL_law_30 rfl ?_
      refine lv_iand hx hb dL_law_32 ?_
      obtain ⟨k, hk⟩ : ∃ k : Int, k = (Int32.ofInt (xs i).toInt &&& Int32.ofInt 31).toInt := ⟨_, rfl⟩
      have hk2 := i_rng (Int32.ofInt (xs i).toInt &&& Int32.ofInt 31)
      rw [← hk] at hk2
      refine z_asI k (by rw [hk]; exact (i_ofToInt _).symm) ?_
      rcases (show k = 0 ∨ k = 1 ∨ k = 2 ∨ k = 3 ∨ k = 4 ∨ k = 5 ∨ k = 6 ∨ k = 7 ∨ k = 8 ∨ k = 9 ∨ k = 10 ∨ k = 11 ∨ k = 12 ∨ k = 13 ∨ k = 14 ∨ k = 15 ∨ k = 16 ∨ k = 17 ∨ k = 18 ∨ k = 19 ∨ k = 20 ∨ k = 21 ∨ k = 22 ∨ k = 23 ∨ k = 24 ∨ k = 25 ∨ k = 26 ∨ k = 27 ∨ (k < 0 ∨ 27 < k) by omega) with h9 | h9 | h9 | h9 | h9 | h9 | h9 | h9 | h9 | h9 | h9 | h9 | h9 | h9 | h9 | h9 | h9 | h9 | h9 | h9 | h9 | h9 | h9 | h9 | h9 | h9 | h9 | h9 | h9
      · refine z_swIn hx hb 0 160 h9 (by decide) dL_law_33 (by decide) (by decide) rfl (by decide) ?_
        exact lw_c0 C hi hR hP hD hS hl kont
      · refine z_swIn hx hb 1 183 h9 (by decide) dL_law_33 (by decide) (by decide) rfl (by decide) ?_
        exact lw_c1 C hi hR hP hD hS hl kont
      · refine z_swIn hx hb 2 196 h9 (by decide) dL_law_33 (by decide) (by decide) rfl (by decide) ?_
        exact lw_c2 C hi hR hP hD hS hl kont
      · refine z_swIn hx hb 3 209 h9 (by decide) dL_law_33 (by decide) (by decide) rfl (by decide) ?_
        exact lw_c3 C hi hR hP hD hS hl kont
      · refine z_swIn hx hb 4 222 h9 (by decide) dL_law_33 (by decide) (by decide) rfl (by decide) ?_
        exact lw_c4 C hi hR hP hD hS hl kont
      · refine z_swIn hx hb 5 255 h9 (by decide) dL_law_33 (by decide) (by decide) rfl (by decide) ?_
        exact lw_c5 C hi hR hP hD hS hl kont
      · refine z_swIn hx hb 6 318 h9 (by decide) dL_law_33 (by decide) (by decide) rfl (by decide) ?_
        exact lw_c6 C hi hR hP hD hS hl kont
      · refine z_swIn hx hb 7 331 h9 (by decide) dL_law_33 (by decide) (by decide) rfl (by decide) ?_
        exact lw_c7 C hi hR hP hD hS hl kont
      · refine z_swIn hx hb 8 344 h9 (by decide) dL_law_33 (by decide) (by decide) rfl (by decide) ?_
        exact lw_c8 C hi hR hP hD hS hl kont
      · refine z_swIn hx hb 9 357 h9 (by decide) dL_law_33 (by decide) (by decide) rfl (by decide) ?_
        exact lw_c9 C hi hR hP hD hS hl kont
      · refine z_swIn hx hb 10 400 h9 (by decide) dL_law_33 (by decide) (by decide) rfl (by decide) ?_
        exact lw_c10 C hi hR hP hD hS hl kont
      · refine z_swIn hx hb 11 413 h9 (by decide) dL_law_33 (by decide) (by decide) rfl (by decide) ?_
        exact lw_c11 C hi hR hP hD hS hl kont
      · refine z_swIn hx hb 12 436 h9 (by decide) dL_law_33 (by decide) (by decide) rfl (by decide) ?_
        exact lw_c12 C hi hR hP hD hS hl kont
      · refine z_swIn hx hb 13 459 h9 (by decide) dL_law_33 (by decide) (by decide) rfl (by decide) ?_
        exact lw_c13 C hi hR hP hD hS hl kont
      · refine z_swIn hx hb 14 503 h9 (by decide) dL_law_33 (by decide) (by decide) rfl (by decide) ?_
        exact lw_c14 C hi hR hP hD hS hl kont
      · refine z_swIn hx hb 15 547 h9 (by decide) dL_law_33 (by decide) (by decide) rfl (by decide) ?_
        exact lw_c15 C hi hR hP hD hS hl kont
      · refine z_swIn hx hb 16 570 h9 (by decide) dL_law_33 (by decide) (by decide) rfl (by decide) ?_
        exact lw_c16 C hi hR hP hD hS hl kont
      · refine z_swIn hx hb 17 646 h9 (by decide) dL_law_33 (by decide) (by decide) rfl (by decide) ?_
        exact lw_c17 C hi hR hP hD hS hl kont
      · refine z_swIn hx hb 18 734 h9 (by decide) dL_law_33 (by decide) (by decide) rfl (by decide) ?_
        exact lw_c18 C hi hR hP hD hS hl kont
      · refine z_swIn hx hb 19 787 h9 (by decide) dL_law_33 (by decide) (by decide) rfl (by decide) ?_
        exact lw_c19 C hi hR hP hD hS hl kont
      · refine z_swIn hx hb 20 830 h9 (by decide) dL_law_33 (by decide) (by decide) rfl (by decide) ?_
        exact lw_c20 C hi hR hP hD hS hl kont
      · refine z_swIn hx hb 21 863 h9 (by decide) dL_law_33 (by decide) (by decide) rfl (by decide) ?_
        exact lw_c21 C hi hR hP hD hS hl kont
      · refine z_swIn hx hb 22 886 h9 (by decide) dL_law_33 (by decide) (by decide) rfl (by decide) ?_
        exact lw_c22 C hi hR hP hD hS hl kont
      · refine z_swIn hx hb 23 909 h9 (by decide) dL_law_33 (by decide) (by decide) rfl (by decide) ?_
        exact lw_c23 C hi hR hP hD hS hl kont
      · refine z_swIn hx hb 24 962 h9 (by decide) dL_law_33 (by decide) (by decide) rfl (by decide) ?_
        exact lw_c24 C hi hR hP hD hS hl kont
      · refine z_swIn hx hb 25 995 h9 (by decide) dL_law_33 (by decide) (by decide) rfl (by decide) ?_
        exact lw_c25 C hi hR hP hD hS hl kont
      · refine z_swIn hx hb 26 1028 h9 (by decide) dL_law_33 (by decide) (by decide) rfl (by decide) ?_
        exact lw_c26 C hi hR hP hD hS hl kont
      · refine z_swIn hx hb 27 1051 h9 (by decide) dL_law_33 (by decide) (by decide) rfl (by decide) ?_
        exact lw_c27 C hi hR hP hD hS hl kont
      · refine z_swOut hx hb 1074 hk2 dL_law_33 h9 (by decide) ?_
        exact kont z u H locs hR hP hD hS
