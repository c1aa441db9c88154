set_option maxHeartbeats 4000000 in
set_option maxRecDepth 100000 in
theorem pr_write (l : Launch) (g : zG) (q r t1 t2 : Nat) (xs vs : Nat → Nat) (s : DS) (z : MS) (hR : REL s z) (A1 : Int) (hA1 : -2147483648 ≤ A1 ∧ A1 < 2147483648) : PrI l g q r yX9_write wsX9_write yX10_write wsX10_write [vI A1] (zXL t1 t2 xs vs) s z := by
  obtain ⟨d, tx, n, c_, k, s_, e_, f, m_, gx, v, b, h, o, l_, dx, v0, b0, h0, o0, l0, px, t, rx, u, e5, y, X, T, sz, nx, k0, k1, X0, T0, X1, T1, fk, cx_, w_, p0, p1, p2, p3, g0, g1, g2, g3, s0, xs0, tt0, nn0, fa0, fb0, fp0, s1, xs1, tt1, nn1, fa1, fb1, fp1, s2, xs2, tt2, nn2, fa2, fb2, fp2⟩ := s
  obtain ⟨ma, mx, mu, ml, mh, mo, mll, mk, mf, mz, mkd, mfa, mfb, mn, mw, mp, mwh⟩ := z
  have hR0 := hR
  obtain ⟨hRT, hRG, hRP, hRN, hRK, hS0, hS1, hS2, hRM⟩ := hR
  have hmf : f = mf := hRT.2.2.2.symm
  have hmo : o = mo := hRG.2.2.2.2.2.1.symm
  have hml : l_ = mll := hRG.2.2.2.2.2.2.1.symm
  subst hmf hmo hml
  have hRT : RT n f (mx 3) f := hRT
  have hRG : RG (v, b, h, o, l_) (mx 0) (mx 1) mh o l_ := hRG
  have hRP : RPh t ((mu, ml, mx 9) : RS) := hRP
  have hRN : (RNo sz nx T ((mu, ml, mx 9) : RS) ∧ mx 2 = (sz : Int)) := hRN
  have hRK : RKe fk T0 T1 mk ((mu, ml, mx 9) : RS) := hRK
  have hS0 : RSt 0 tt0 nn0 fa0 fb0 fp0 mz mkd mfa mfb := hS0
  have hS1 : RSt 1 tt1 nn1 fa1 fb1 fp1 mz mkd mfa mfb := hS1
  have hS2 : RSt 2 tt2 nn2 fa2 fb2 fp2 mz mkd mfa mfb := hS2
  have hRM : RM mz mkd (mx 9) mw := hRM
  obtain ⟨hT1, hT2, hx3, -⟩ := id hRT
  obtain ⟨hN, hh0, hx1, hx0, hmh, -, -, hl0⟩ := id hRG
  have hN : nok v b h o l_ := hN
  have hh0 : h 0 = -1 := hh0
  have hx1 : mx 1 = (b : Int) := hx1
  have hx0 : mx 0 = v := hx0
  have hmh : ∀ i, 1 ≤ i → mh i = h i := hmh
  have hl0 : l_ 0 = 0 := hl0
  obtain ⟨ht, hS6⟩ := id hRP
  obtain ⟨hNo, hx2⟩ := id hRN
  obtain ⟨hsz, hnx, hTT, hNo4⟩ := id hNo
  obtain ⟨hz8, hkd, hx9, hmw⟩ := id hRM
  have hNm : nok (mx 0) b mh o l_ := RN_nok (X := (v, b, h, o, l_)) ⟨hx0, rfl, hmh, rfl, rfl, hl0⟩ hN
  have hRNx : RN (v, b, h, o, l_) (mx 0) b mh o l_ := ⟨hx0, rfl, hmh, rfl, rfl, hl0⟩
  have hrk : ∀ k, k < 6 → rk ((mu, ml, mx 9) : RS) k := tS6_rk hS6 ht
  by_cases h1 : 0 ≤ A1 ∧ A1 ≤ 255
  · by_cases h2 : n < 200
    · refine ⟨(((n + 1) : Nat) : Int), _, _, zfr_i (cr := [(netW g (d 1) gx v b h o l_), (netW g (d 2) dx v0 b0 h0 o0 l0), (threeW g (d 3) px t), (threeW g (d 4) rx u), (noteW g (d 5) e5 y X T sz nx), [((d 6), .inl (g.2 5, 2, .inr (.inr (.inr (.inr (rA [k0, k1]))))))], (threeW g k0 X0 T0), (threeW g k1 X1 T1), [((d 7), .inl (g.2 2, 2, .inl (aI fk)))], (recW g (d 8) cx_ w_), [flw (d 9) p0 p1 p2 p3], [flw (d 10) g0 g1 g2 g3], [((d 11), .inl (g.2 4, 3, .inr (.inr (.inr (.inr (rA [s0, s1, s2]))))))], (storeW g s0 xs0 tt0 nn0 fa0 fb0 fp0), (storeW g s1 xs1 tt1 nn1 fa1 fb1 fp1), (storeW g s2 xs2 tt2 nn2 fa2 fb2 fp2)]) (c_X9_write_ok l g q d tx n c_ k s_ e_ f m_ A1 (by first | assumption | omega) (by first | assumption | omega) (by first | assumption | omega)) (by decide) zXm_0 [0, 1] [2, 3, 4, 5, 6, 7, 8, 9, 10, 11, 12, 13, 14, 15, 16, 17] rfl rfl rfl (fun (_ : Unit) => ((d, tx, (n + 1), c_, k, s_, e_, (uI f n A1), m_, gx, v, b, h, o, l_, dx, v0, b0, h0, o0, l0, px, t, rx, u, e5, y, X, T, sz, nx, k0, k1, X0, T0, X1, T1, fk, cx_, w_, p0, p1, p2, p3, g0, g1, g2, g3, s0, xs0, tt0, nn0, fa0, fb0, fp0, s1, xs1, tt1, nn1, fa1, fb1, fp1, s2, xs2, tt2, nn2, fa2, fb2, fp2) : DS)) (deskL g q) [16, 17, 0, 1, 2, 3, 4, 5, 6, 7, 8, 9, 10, 11, 12, 13, 14, 15] rfl (fun _ => rfl) (((n + 1) : Nat) : Int) (fun _ _ => rfl), zfr_i (cr := [[((ma 0), .inl (g.2 1, 88, .inr (.inl (aL mu))))], [((ma 1), .inl (g.2 1, 88, .inr (.inl (aL ml))))], [((ma 2), .inl (g.2 0, 6, .inl (aI mh)))], [((ma 3), .inl (g.2 0, 18, .inl (aI o)))], [((ma 4), .inl (g.2 0, 6, .inl (aI l_)))], [((ma 5), .inl (g.2 2, 2, .inl (aI mk)))], [((ma 7), .inl (g.2 0, 3, .inl (aI mz)))], [((ma 8), .inl (g.2 0, 24, .inl (aI mkd)))], [((ma 9), .inl (g.2 0, 24, .inl (aI mfa)))], [((ma 10), .inl (g.2 0, 24, .inl (aI mfb)))], [((ma 11), .inl (g.2 0, 4, .inl (aI mn)))], [((ma 12), .inl (g.2 0, 24, .inl (aI mw)))], [((ma 13), .inl (g.2 1, 3, .inr (.inl (aL mp))))], [((ma 14), .inl (g.2 1, 6, .inr (.inl (aL mwh))))]]) (c_X10_write_ok l g r ma mx f n A1 (by first | assumption | omega) (by first | assumption | omega) (by first | assumption | omega) (by first | assumption | omega)) (by decide) zXm_0 [0, 7] [1, 2, 3, 4, 5, 6, 8, 9, 10, 11, 12, 13, 14, 15] rfl rfl rfl (fun (_ : Unit) => ((ma, (uI mx 3 (((n + 1) : Nat) : Int)), mu, ml, mh, o, l_, mk, (uI f n A1), mz, mkd, mfa, mfb, mn, mw, mp, mwh) : MS)) (mdlL g r) [14, 0, 1, 2, 3, 4, 5, 15, 6, 7, 8, 9, 10, 11, 12, 13] rfl (fun _ => rfl) (((n + 1) : Nat) : Int) (fun _ _ => rfl), ?_⟩
      rintro _ _ ⟨uD, huD, rfl⟩ ⟨uM, huM, rfl⟩
      exact ⟨⟨by show n + 1 ≤ 200; omega, uI_255 hT2 h1, rfl, rfl⟩, hRG, hRP, hRN, hRK, hS0, hS1, hS2, hRM⟩
    · refine ⟨(-2000000003), _, _, zfr_i (cr := [(netW g (d 1) gx v b h o l_), (netW g (d 2) dx v0 b0 h0 o0 l0), (threeW g (d 3) px t), (threeW g (d 4) rx u), (noteW g (d 5) e5 y X T sz nx), [((d 6), .inl (g.2 5, 2, .inr (.inr (.inr (.inr (rA [k0, k1]))))))], (threeW g k0 X0 T0), (threeW g k1 X1 T1), [((d 7), .inl (g.2 2, 2, .inl (aI fk)))], (recW g (d 8) cx_ w_), [flw (d 9) p0 p1 p2 p3], [flw (d 10) g0 g1 g2 g3], [((d 11), .inl (g.2 4, 3, .inr (.inr (.inr (.inr (rA [s0, s1, s2]))))))], (storeW g s0 xs0 tt0 nn0 fa0 fb0 fp0), (storeW g s1 xs1 tt1 nn1 fa1 fb1 fp1), (storeW g s2 xs2 tt2 nn2 fa2 fb2 fp2)]) (c_X9_write_full l g q d tx n c_ k s_ e_ f m_ A1 (by first | assumption | omega) (by first | assumption | omega) (by first | assumption | omega)) (by decide) zXm_0 [0, 1] [2, 3, 4, 5, 6, 7, 8, 9, 10, 11, 12, 13, 14, 15, 16, 17] rfl rfl rfl (fun (_ : Unit) => ((d, tx, n, c_, k, s_, e_, f, m_, gx, v, b, h, o, l_, dx, v0, b0, h0, o0, l0, px, t, rx, u, e5, y, X, T, sz, nx, k0, k1, X0, T0, X1, T1, fk, cx_, w_, p0, p1, p2, p3, g0, g1, g2, g3, s0, xs0, tt0, nn0, fa0, fb0, fp0, s1, xs1, tt1, nn1, fa1, fb1, fp1, s2, xs2, tt2, nn2, fa2, fb2, fp2) : DS)) (deskL g q) [16, 17, 0, 1, 2, 3, 4, 5, 6, 7, 8, 9, 10, 11, 12, 13, 14, 15] rfl (fun _ => rfl) (-2000000003) (fun _ _ => rfl), zfr_i (cr := [[((ma 0), .inl (g.2 1, 88, .inr (.inl (aL mu))))], [((ma 1), .inl (g.2 1, 88, .inr (.inl (aL ml))))], [((ma 2), .inl (g.2 0, 6, .inl (aI mh)))], [((ma 3), .inl (g.2 0, 18, .inl (aI o)))], [((ma 4), .inl (g.2 0, 6, .inl (aI l_)))], [((ma 5), .inl (g.2 2, 2, .inl (aI mk)))], [((ma 7), .inl (g.2 0, 3, .inl (aI mz)))], [((ma 8), .inl (g.2 0, 24, .inl (aI mkd)))], [((ma 9), .inl (g.2 0, 24, .inl (aI mfa)))], [((ma 10), .inl (g.2 0, 24, .inl (aI mfb)))], [((ma 11), .inl (g.2 0, 4, .inl (aI mn)))], [((ma 12), .inl (g.2 0, 24, .inl (aI mw)))], [((ma 13), .inl (g.2 1, 3, .inr (.inl (aL mp))))], [((ma 14), .inl (g.2 1, 6, .inr (.inl (aL mwh))))]]) (c_X10_write_full l g r ma mx f n A1 (by first | assumption | omega) (by first | assumption | omega) (by first | assumption | omega) (by first | assumption | omega)) (by decide) zXm_0 [0, 7] [1, 2, 3, 4, 5, 6, 8, 9, 10, 11, 12, 13, 14, 15] rfl rfl rfl (fun (_ : Unit) => ((ma, mx, mu, ml, mh, o, l_, mk, f, mz, mkd, mfa, mfb, mn, mw, mp, mwh) : MS)) (mdlL g r) [14, 0, 1, 2, 3, 4, 5, 15, 6, 7, 8, 9, 10, 11, 12, 13] rfl (fun _ => rfl) (-2000000003) (fun _ _ => rfl), ?_⟩
      rintro _ _ ⟨uD, huD, rfl⟩ ⟨uM, huM, rfl⟩
      exact hR0
  · refine ⟨(-2000000002), _, _, zfr_i (cr := [(netW g (d 1) gx v b h o l_), (netW g (d 2) dx v0 b0 h0 o0 l0), (threeW g (d 3) px t), (threeW g (d 4) rx u), (noteW g (d 5) e5 y X T sz nx), [((d 6), .inl (g.2 5, 2, .inr (.inr (.inr (.inr (rA [k0, k1]))))))], (threeW g k0 X0 T0), (threeW g k1 X1 T1), [((d 7), .inl (g.2 2, 2, .inl (aI fk)))], (recW g (d 8) cx_ w_), [flw (d 9) p0 p1 p2 p3], [flw (d 10) g0 g1 g2 g3], [((d 11), .inl (g.2 4, 3, .inr (.inr (.inr (.inr (rA [s0, s1, s2]))))))], (storeW g s0 xs0 tt0 nn0 fa0 fb0 fp0), (storeW g s1 xs1 tt1 nn1 fa1 fb1 fp1), (storeW g s2 xs2 tt2 nn2 fa2 fb2 fp2)]) (c_X9_write_out l g q d tx n c_ k s_ e_ f m_ A1 (by first | assumption | omega) (by first | assumption | omega)) (by decide) zXm_0 [0, 1] [2, 3, 4, 5, 6, 7, 8, 9, 10, 11, 12, 13, 14, 15, 16, 17] rfl rfl rfl (fun (_ : Unit) => ((d, tx, n, c_, k, s_, e_, f, m_, gx, v, b, h, o, l_, dx, v0, b0, h0, o0, l0, px, t, rx, u, e5, y, X, T, sz, nx, k0, k1, X0, T0, X1, T1, fk, cx_, w_, p0, p1, p2, p3, g0, g1, g2, g3, s0, xs0, tt0, nn0, fa0, fb0, fp0, s1, xs1, tt1, nn1, fa1, fb1, fp1, s2, xs2, tt2, nn2, fa2, fb2, fp2) : DS)) (deskL g q) [16, 17, 0, 1, 2, 3, 4, 5, 6, 7, 8, 9, 10, 11, 12, 13, 14, 15] rfl (fun _ => rfl) (-2000000002) (fun _ _ => rfl), zfr_i (cr := [[((ma 0), .inl (g.2 1, 88, .inr (.inl (aL mu))))], [((ma 1), .inl (g.2 1, 88, .inr (.inl (aL ml))))], [((ma 2), .inl (g.2 0, 6, .inl (aI mh)))], [((ma 3), .inl (g.2 0, 18, .inl (aI o)))], [((ma 4), .inl (g.2 0, 6, .inl (aI l_)))], [((ma 5), .inl (g.2 2, 2, .inl (aI mk)))], [((ma 7), .inl (g.2 0, 3, .inl (aI mz)))], [((ma 8), .inl (g.2 0, 24, .inl (aI mkd)))], [((ma 9), .inl (g.2 0, 24, .inl (aI mfa)))], [((ma 10), .inl (g.2 0, 24, .inl (aI mfb)))], [((ma 11), .inl (g.2 0, 4, .inl (aI mn)))], [((ma 12), .inl (g.2 0, 24, .inl (aI mw)))], [((ma 13), .inl (g.2 1, 3, .inr (.inl (aL mp))))], [((ma 14), .inl (g.2 1, 6, .inr (.inl (aL mwh))))]]) (c_X10_write_out l g r ma mx f n A1 (by first | assumption | omega) (by first | assumption | omega) (by first | assumption | omega)) (by decide) zXm_0 [0, 7] [1, 2, 3, 4, 5, 6, 8, 9, 10, 11, 12, 13, 14, 15] rfl rfl rfl (fun (_ : Unit) => ((ma, mx, mu, ml, mh, o, l_, mk, f, mz, mkd, mfa, mfb, mn, mw, mp, mwh) : MS)) (mdlL g r) [14, 0, 1, 2, 3, 4, 5, 15, 6, 7, 8, 9, 10, 11, 12, 13] rfl (fun _ => rfl) (-2000000002) (fun _ _ => rfl), ?_⟩
    rintro _ _ ⟨uD, huD, rfl⟩ ⟨uM, huM, rfl⟩
    exact hR0
set_option maxHeartbeats 4000000 in
set_option maxRecDepth 100000 in
theorem pr_erase (l : Launch) (g : zG) (q r t1 t2 : Nat) (xs vs : Nat → Nat) (s : DS) (z : MS) (hR : REL s z) : PrI l g q r yX9_erase wsX9_erase yX10_erase wsX10_erase [] (zXL t1 t2 xs vs) s z := by
  obtain ⟨d, tx, n, c_, k, s_, e_, f, m_, gx, v, b, h, o, l_, dx, v0, b0, h0, o0, l0, px, t, rx, u, e5, y, X, T, sz, nx, k0, k1, X0, T0, X1, T1, fk, cx_, w_, p0, p1, p2, p3, g0, g1, g2, g3, s0, xs0, tt0, nn0, fa0, fb0, fp0, s1, xs1, tt1, nn1, fa1, fb1, fp1, s2, xs2, tt2, nn2, fa2, fb2, fp2⟩ := s
  obtain ⟨ma, mx, mu, ml, mh, mo, mll, mk, mf, mz, mkd, mfa, mfb, mn, mw, mp, mwh⟩ := z
  have hR0 := hR
  obtain ⟨hRT, hRG, hRP, hRN, hRK, hS0, hS1, hS2, hRM⟩ := hR
  have hmf : f = mf := hRT.2.2.2.symm
  have hmo : o = mo := hRG.2.2.2.2.2.1.symm
  have hml : l_ = mll := hRG.2.2.2.2.2.2.1.symm
  subst hmf hmo hml
  have hRT : RT n f (mx 3) f := hRT
  have hRG : RG (v, b, h, o, l_) (mx 0) (mx 1) mh o l_ := hRG
  have hRP : RPh t ((mu, ml, mx 9) : RS) := hRP
  have hRN : (RNo sz nx T ((mu, ml, mx 9) : RS) ∧ mx 2 = (sz : Int)) := hRN
  have hRK : RKe fk T0 T1 mk ((mu, ml, mx 9) : RS) := hRK
  have hS0 : RSt 0 tt0 nn0 fa0 fb0 fp0 mz mkd mfa mfb := hS0
  have hS1 : RSt 1 tt1 nn1 fa1 fb1 fp1 mz mkd mfa mfb := hS1
  have hS2 : RSt 2 tt2 nn2 fa2 fb2 fp2 mz mkd mfa mfb := hS2
  have hRM : RM mz mkd (mx 9) mw := hRM
  obtain ⟨hT1, hT2, hx3, -⟩ := id hRT
  obtain ⟨hN, hh0, hx1, hx0, hmh, -, -, hl0⟩ := id hRG
  have hN : nok v b h o l_ := hN
  have hh0 : h 0 = -1 := hh0
  have hx1 : mx 1 = (b : Int) := hx1
  have hx0 : mx 0 = v := hx0
  have hmh : ∀ i, 1 ≤ i → mh i = h i := hmh
  have hl0 : l_ 0 = 0 := hl0
  obtain ⟨ht, hS6⟩ := id hRP
  obtain ⟨hNo, hx2⟩ := id hRN
  obtain ⟨hsz, hnx, hTT, hNo4⟩ := id hNo
  obtain ⟨hz8, hkd, hx9, hmw⟩ := id hRM
  have hNm : nok (mx 0) b mh o l_ := RN_nok (X := (v, b, h, o, l_)) ⟨hx0, rfl, hmh, rfl, rfl, hl0⟩ hN
  have hRNx : RN (v, b, h, o, l_) (mx 0) b mh o l_ := ⟨hx0, rfl, hmh, rfl, rfl, hl0⟩
  have hrk : ∀ k, k < 6 → rk ((mu, ml, mx 9) : RS) k := tS6_rk hS6 ht
  refine ⟨((n : Nat) : Int), _, _, zfr_i (cr := [(netW g (d 1) gx v b h o l_), (netW g (d 2) dx v0 b0 h0 o0 l0), (threeW g (d 3) px t), (threeW g (d 4) rx u), (noteW g (d 5) e5 y X T sz nx), [((d 6), .inl (g.2 5, 2, .inr (.inr (.inr (.inr (rA [k0, k1]))))))], (threeW g k0 X0 T0), (threeW g k1 X1 T1), [((d 7), .inl (g.2 2, 2, .inl (aI fk)))], (recW g (d 8) cx_ w_), [flw (d 9) p0 p1 p2 p3], [flw (d 10) g0 g1 g2 g3], [((d 11), .inl (g.2 4, 3, .inr (.inr (.inr (.inr (rA [s0, s1, s2]))))))], (storeW g s0 xs0 tt0 nn0 fa0 fb0 fp0), (storeW g s1 xs1 tt1 nn1 fa1 fb1 fp1), (storeW g s2 xs2 tt2 nn2 fa2 fb2 fp2)]) (c_X9_erase l g q d tx n c_ k s_ e_ f m_ ) (by decide) zXm_0 [0, 1] [2, 3, 4, 5, 6, 7, 8, 9, 10, 11, 12, 13, 14, 15, 16, 17] rfl rfl rfl (fun (_ : Unit) => ((d, tx, 0, c_, k, s_, e_, f, m_, gx, v, b, h, o, l_, dx, v0, b0, h0, o0, l0, px, t, rx, u, e5, y, X, T, sz, nx, k0, k1, X0, T0, X1, T1, fk, cx_, w_, p0, p1, p2, p3, g0, g1, g2, g3, s0, xs0, tt0, nn0, fa0, fb0, fp0, s1, xs1, tt1, nn1, fa1, fb1, fp1, s2, xs2, tt2, nn2, fa2, fb2, fp2) : DS)) (deskL g q) [16, 17, 0, 1, 2, 3, 4, 5, 6, 7, 8, 9, 10, 11, 12, 13, 14, 15] rfl (fun _ => rfl) ((n : Nat) : Int) (fun _ _ => rfl), zfr_i (cr := [[((ma 0), .inl (g.2 1, 88, .inr (.inl (aL mu))))], [((ma 1), .inl (g.2 1, 88, .inr (.inl (aL ml))))], [((ma 2), .inl (g.2 0, 6, .inl (aI mh)))], [((ma 3), .inl (g.2 0, 18, .inl (aI o)))], [((ma 4), .inl (g.2 0, 6, .inl (aI l_)))], [((ma 5), .inl (g.2 2, 2, .inl (aI mk)))], [((ma 6), .inl (g.2 0, 200, .inl (aI f)))], [((ma 7), .inl (g.2 0, 3, .inl (aI mz)))], [((ma 8), .inl (g.2 0, 24, .inl (aI mkd)))], [((ma 9), .inl (g.2 0, 24, .inl (aI mfa)))], [((ma 10), .inl (g.2 0, 24, .inl (aI mfb)))], [((ma 11), .inl (g.2 0, 4, .inl (aI mn)))], [((ma 12), .inl (g.2 0, 24, .inl (aI mw)))], [((ma 13), .inl (g.2 1, 3, .inr (.inl (aL mp))))], [((ma 14), .inl (g.2 1, 6, .inr (.inl (aL mwh))))]]) (c_X10_erase l g r ma mx ) (by decide) zXm_0 [0] [1, 2, 3, 4, 5, 6, 7, 8, 9, 10, 11, 12, 13, 14, 15] rfl rfl rfl (fun (_ : Unit) => ((ma, (uI mx 3 0), mu, ml, mh, o, l_, mk, f, mz, mkd, mfa, mfb, mn, mw, mp, mwh) : MS)) (mdlL g r) [15, 0, 1, 2, 3, 4, 5, 6, 7, 8, 9, 10, 11, 12, 13, 14] rfl (fun _ => rfl) ((n : Nat) : Int) (fun _ _ => hx3), ?_⟩
  rintro _ _ ⟨uD, huD, rfl⟩ ⟨uM, huM, rfl⟩
  exact ⟨⟨by show 0 ≤ 200; omega, hT2, rfl, rfl⟩, hRG, hRP, hRN, hRK, hS0, hS1, hS2, hRM⟩
set_option maxHeartbeats 4000000 in
set_option maxRecDepth 100000 in
theorem pr_fault (l : Launch) (g : zG) (q r t1 t2 : Nat) (xs vs : Nat → Nat) (s : DS) (z : MS) (hR : REL s z) : PrI l g q r yX9_fault wsX9_fault yX10_fault wsX10_fault [] (zXL t1 t2 xs vs) s z := by
  obtain ⟨d, tx, n, c_, k, s_, e_, f, m_, gx, v, b, h, o, l_, dx, v0, b0, h0, o0, l0, px, t, rx, u, e5, y, X, T, sz, nx, k0, k1, X0, T0, X1, T1, fk, cx_, w_, p0, p1, p2, p3, g0, g1, g2, g3, s0, xs0, tt0, nn0, fa0, fb0, fp0, s1, xs1, tt1, nn1, fa1, fb1, fp1, s2, xs2, tt2, nn2, fa2, fb2, fp2⟩ := s
  obtain ⟨ma, mx, mu, ml, mh, mo, mll, mk, mf, mz, mkd, mfa, mfb, mn, mw, mp, mwh⟩ := z
  have hR0 := hR
  obtain ⟨hRT, hRG, hRP, hRN, hRK, hS0, hS1, hS2, hRM⟩ := hR
  have hmf : f = mf := hRT.2.2.2.symm
  have hmo : o = mo := hRG.2.2.2.2.2.1.symm
  have hml : l_ = mll := hRG.2.2.2.2.2.2.1.symm
  subst hmf hmo hml
  have hRT : RT n f (mx 3) f := hRT
  have hRG : RG (v, b, h, o, l_) (mx 0) (mx 1) mh o l_ := hRG
  have hRP : RPh t ((mu, ml, mx 9) : RS) := hRP
  have hRN : (RNo sz nx T ((mu, ml, mx 9) : RS) ∧ mx 2 = (sz : Int)) := hRN
  have hRK : RKe fk T0 T1 mk ((mu, ml, mx 9) : RS) := hRK
  have hS0 : RSt 0 tt0 nn0 fa0 fb0 fp0 mz mkd mfa mfb := hS0
  have hS1 : RSt 1 tt1 nn1 fa1 fb1 fp1 mz mkd mfa mfb := hS1
  have hS2 : RSt 2 tt2 nn2 fa2 fb2 fp2 mz mkd mfa mfb := hS2
  have hRM : RM mz mkd (mx 9) mw := hRM
  obtain ⟨hT1, hT2, hx3, -⟩ := id hRT
  obtain ⟨hN, hh0, hx1, hx0, hmh, -, -, hl0⟩ := id hRG
  have hN : nok v b h o l_ := hN
  have hh0 : h 0 = -1 := hh0
  have hx1 : mx 1 = (b : Int) := hx1
  have hx0 : mx 0 = v := hx0
  have hmh : ∀ i, 1 ≤ i → mh i = h i := hmh
  have hl0 : l_ 0 = 0 := hl0
  obtain ⟨ht, hS6⟩ := id hRP
  obtain ⟨hNo, hx2⟩ := id hRN
  obtain ⟨hsz, hnx, hTT, hNo4⟩ := id hNo
  obtain ⟨hz8, hkd, hx9, hmw⟩ := id hRM
  have hNm : nok (mx 0) b mh o l_ := RN_nok (X := (v, b, h, o, l_)) ⟨hx0, rfl, hmh, rfl, rfl, hl0⟩ hN
  have hRNx : RN (v, b, h, o, l_) (mx 0) b mh o l_ := ⟨hx0, rfl, hmh, rfl, rfl, hl0⟩
  have hrk : ∀ k, k < 6 → rk ((mu, ml, mx 9) : RS) k := tS6_rk hS6 ht
  refine ⟨((pA f n 24 0 (v, b, h, o, l_) 0).1), _, _, zfr_i (cr := [(threeW g (d 3) px t), (threeW g (d 4) rx u), (noteW g (d 5) e5 y X T sz nx), [((d 6), .inl (g.2 5, 2, .inr (.inr (.inr (.inr (rA [k0, k1]))))))], (threeW g k0 X0 T0), (threeW g k1 X1 T1), [((d 7), .inl (g.2 2, 2, .inl (aI fk)))], (recW g (d 8) cx_ w_), [flw (d 9) p0 p1 p2 p3], [flw (d 10) g0 g1 g2 g3], [((d 11), .inl (g.2 4, 3, .inr (.inr (.inr (.inr (rA [s0, s1, s2]))))))], (storeW g s0 xs0 tt0 nn0 fa0 fb0 fp0), (storeW g s1 xs1 tt1 nn1 fa1 fb1 fp1), (storeW g s2 xs2 tt2 nn2 fa2 fb2 fp2)]) (c_X9_fault l g q d tx n c_ k s_ e_ f m_ gx v b h o l_ dx v0 b0 h0 o0 l0 xs vs hT1 hT2 hN) (by decide) zXm_W [0, 1, 2, 3] [4, 5, 6, 7, 8, 9, 10, 11, 12, 13, 14, 15, 16, 17] rfl rfl rfl (fun (u_ : Nat × Nat × Nat × Nat × (Nat → Int) × Int × Nat × (Nat → Int) × (Nat → Int) × (Nat → Int)) => ((d, tx, n, u_.1, u_.2.1, u_.2.2.1, u_.2.2.2.1, f, u_.2.2.2.2.1, gx, v, b, h, o, l_, dx, u_.2.2.2.2.2.1, u_.2.2.2.2.2.2.1, u_.2.2.2.2.2.2.2.1, u_.2.2.2.2.2.2.2.2.1, u_.2.2.2.2.2.2.2.2.2, px, t, rx, u, e5, y, X, T, sz, nx, k0, k1, X0, T0, X1, T1, fk, cx_, w_, p0, p1, p2, p3, g0, g1, g2, g3, s0, xs0, tt0, nn0, fa0, fb0, fp0, s1, xs1, tt1, nn1, fa1, fb1, fp1, s2, xs2, tt2, nn2, fa2, fb2, fp2) : DS)) (deskL g q) [14, 15, 16, 17, 0, 1, 2, 3, 4, 5, 6, 7, 8, 9, 10, 11, 12, 13] rfl (fun _ => rfl) ((pA f n 24 0 (v, b, h, o, l_) 0).1) (fun _ _ => rfl), zfr_i (cr := [[((ma 0), .inl (g.2 1, 88, .inr (.inl (aL mu))))], [((ma 1), .inl (g.2 1, 88, .inr (.inl (aL ml))))], [((ma 2), .inl (g.2 0, 6, .inl (aI mh)))], [((ma 3), .inl (g.2 0, 18, .inl (aI o)))], [((ma 4), .inl (g.2 0, 6, .inl (aI l_)))], [((ma 5), .inl (g.2 2, 2, .inl (aI mk)))], [((ma 7), .inl (g.2 0, 3, .inl (aI mz)))], [((ma 8), .inl (g.2 0, 24, .inl (aI mkd)))], [((ma 9), .inl (g.2 0, 24, .inl (aI mfa)))], [((ma 10), .inl (g.2 0, 24, .inl (aI mfb)))], [((ma 13), .inl (g.2 1, 3, .inr (.inl (aL mp))))], [((ma 14), .inl (g.2 1, 6, .inr (.inl (aL mwh))))]]) (c_X10_fault l g r ma mx f n mw mn b (v, b, h, o, l_) hx3 hT1 hT2 hmw hx1 rfl hN) (by decide) zXm_0 [0, 7, 13, 12] [1, 2, 3, 4, 5, 6, 8, 9, 10, 11, 14, 15] rfl rfl rfl (fun (u_ : (Nat → Int) × (Nat → Int)) => ((ma, u_.1, mu, ml, mh, o, l_, mk, f, mz, mkd, mfa, mfb, u_.2, mw, mp, mwh) : MS)) (mdlL g r) [12, 0, 1, 2, 3, 4, 5, 13, 6, 7, 8, 9, 15, 14, 10, 11] rfl (fun _ => rfl) ((pA f n 24 0 (v, b, h, o, l_) 0).1) (fun _ _ => rfl), ?_⟩
  rintro _ _ ⟨uD, huD, rfl⟩ ⟨uM, huM, rfl⟩
  exact ⟨⟨hT1, hT2, (huM 3 (by omega)).trans hx3, rfl⟩, ⟨hN, hh0, (huM 1 (by omega)).trans hx1, (huM 0 (by omega)).trans hx0, hmh, rfl, rfl, hl0⟩, hRP, ⟨hNo, (huM 2 (by omega)).trans hx2⟩, hRK, hS0, hS1, hS2, ⟨hz8, hkd, by first | exact hx9 | (rw [huM 9 (by omega)]; exact hx9), hmw⟩⟩
set_option maxHeartbeats 4000000 in
set_option maxRecDepth 100000 in
theorem pr_net (l : Launch) (g : zG) (q r t1 t2 : Nat) (xs vs : Nat → Nat) (s : DS) (z : MS) (hR : REL s z) : PrI l g q r yX9_net wsX9_net yX10_net wsX10_net [] (zXL t1 t2 xs vs) s z := by
  obtain ⟨d, tx, n, c_, k, s_, e_, f, m_, gx, v, b, h, o, l_, dx, v0, b0, h0, o0, l0, px, t, rx, u, e5, y, X, T, sz, nx, k0, k1, X0, T0, X1, T1, fk, cx_, w_, p0, p1, p2, p3, g0, g1, g2, g3, s0, xs0, tt0, nn0, fa0, fb0, fp0, s1, xs1, tt1, nn1, fa1, fb1, fp1, s2, xs2, tt2, nn2, fa2, fb2, fp2⟩ := s
  obtain ⟨ma, mx, mu, ml, mh, mo, mll, mk, mf, mz, mkd, mfa, mfb, mn, mw, mp, mwh⟩ := z
  have hR0 := hR
  obtain ⟨hRT, hRG, hRP, hRN, hRK, hS0, hS1, hS2, hRM⟩ := hR
  have hmf : f = mf := hRT.2.2.2.symm
  have hmo : o = mo := hRG.2.2.2.2.2.1.symm
  have hml : l_ = mll := hRG.2.2.2.2.2.2.1.symm
  subst hmf hmo hml
  have hRT : RT n f (mx 3) f := hRT
  have hRG : RG (v, b, h, o, l_) (mx 0) (mx 1) mh o l_ := hRG
  have hRP : RPh t ((mu, ml, mx 9) : RS) := hRP
  have hRN : (RNo sz nx T ((mu, ml, mx 9) : RS) ∧ mx 2 = (sz : Int)) := hRN
  have hRK : RKe fk T0 T1 mk ((mu, ml, mx 9) : RS) := hRK
  have hS0 : RSt 0 tt0 nn0 fa0 fb0 fp0 mz mkd mfa mfb := hS0
  have hS1 : RSt 1 tt1 nn1 fa1 fb1 fp1 mz mkd mfa mfb := hS1
  have hS2 : RSt 2 tt2 nn2 fa2 fb2 fp2 mz mkd mfa mfb := hS2
  have hRM : RM mz mkd (mx 9) mw := hRM
  obtain ⟨hT1, hT2, hx3, -⟩ := id hRT
  obtain ⟨hN, hh0, hx1, hx0, hmh, -, -, hl0⟩ := id hRG
  have hN : nok v b h o l_ := hN
  have hh0 : h 0 = -1 := hh0
  have hx1 : mx 1 = (b : Int) := hx1
  have hx0 : mx 0 = v := hx0
  have hmh : ∀ i, 1 ≤ i → mh i = h i := hmh
  have hl0 : l_ 0 = 0 := hl0
  obtain ⟨ht, hS6⟩ := id hRP
  obtain ⟨hNo, hx2⟩ := id hRN
  obtain ⟨hsz, hnx, hTT, hNo4⟩ := id hNo
  obtain ⟨hz8, hkd, hx9, hmw⟩ := id hRM
  have hNm : nok (mx 0) b mh o l_ := RN_nok (X := (v, b, h, o, l_)) ⟨hx0, rfl, hmh, rfl, rfl, hl0⟩ hN
  have hRNx : RN (v, b, h, o, l_) (mx 0) b mh o l_ := ⟨hx0, rfl, hmh, rfl, rfl, hl0⟩
  have hrk : ∀ k, k < 6 → rk ((mu, ml, mx 9) : RS) k := tS6_rk hS6 ht
  by_cases h1 : ¬ (pA f n 24 0 (v, b, h, o, l_) 0).1 = -1
  · refine ⟨(-2000000003), _, _, zfr_i (cr := [(threeW g (d 3) px t), (threeW g (d 4) rx u), (noteW g (d 5) e5 y X T sz nx), [((d 6), .inl (g.2 5, 2, .inr (.inr (.inr (.inr (rA [k0, k1]))))))], (threeW g k0 X0 T0), (threeW g k1 X1 T1), [((d 7), .inl (g.2 2, 2, .inl (aI fk)))], (recW g (d 8) cx_ w_), [flw (d 9) p0 p1 p2 p3], [flw (d 10) g0 g1 g2 g3], [((d 11), .inl (g.2 4, 3, .inr (.inr (.inr (.inr (rA [s0, s1, s2]))))))], (storeW g s0 xs0 tt0 nn0 fa0 fb0 fp0), (storeW g s1 xs1 tt1 nn1 fa1 fb1 fp1), (storeW g s2 xs2 tt2 nn2 fa2 fb2 fp2)]) (c_X9_net_not l g q d tx n c_ k s_ e_ f m_ gx v b h o l_ dx v0 b0 h0 o0 l0 xs vs hT1 hT2 hN h1 (pA_r hT1 hT2)) (by decide) zXm_W [0, 1, 2, 3] [4, 5, 6, 7, 8, 9, 10, 11, 12, 13, 14, 15, 16, 17] rfl rfl rfl (fun (u_ : Nat × Nat × Nat × Nat × (Nat → Int) × Int × Nat × (Nat → Int) × (Nat → Int) × (Nat → Int)) => ((d, tx, n, u_.1, u_.2.1, u_.2.2.1, u_.2.2.2.1, f, u_.2.2.2.2.1, gx, v, b, h, o, l_, dx, u_.2.2.2.2.2.1, u_.2.2.2.2.2.2.1, u_.2.2.2.2.2.2.2.1, u_.2.2.2.2.2.2.2.2.1, u_.2.2.2.2.2.2.2.2.2, px, t, rx, u, e5, y, X, T, sz, nx, k0, k1, X0, T0, X1, T1, fk, cx_, w_, p0, p1, p2, p3, g0, g1, g2, g3, s0, xs0, tt0, nn0, fa0, fb0, fp0, s1, xs1, tt1, nn1, fa1, fb1, fp1, s2, xs2, tt2, nn2, fa2, fb2, fp2) : DS)) (deskL g q) [14, 15, 16, 17, 0, 1, 2, 3, 4, 5, 6, 7, 8, 9, 10, 11, 12, 13] rfl (fun _ => rfl) (-2000000003) (fun _ _ => rfl), zfr_i (cr := [[((ma 0), .inl (g.2 1, 88, .inr (.inl (aL mu))))], [((ma 1), .inl (g.2 1, 88, .inr (.inl (aL ml))))], [((ma 2), .inl (g.2 0, 6, .inl (aI mh)))], [((ma 3), .inl (g.2 0, 18, .inl (aI o)))], [((ma 4), .inl (g.2 0, 6, .inl (aI l_)))], [((ma 5), .inl (g.2 2, 2, .inl (aI mk)))], [((ma 7), .inl (g.2 0, 3, .inl (aI mz)))], [((ma 8), .inl (g.2 0, 24, .inl (aI mkd)))], [((ma 9), .inl (g.2 0, 24, .inl (aI mfa)))], [((ma 10), .inl (g.2 0, 24, .inl (aI mfb)))], [((ma 13), .inl (g.2 1, 3, .inr (.inl (aL mp))))], [((ma 14), .inl (g.2 1, 6, .inr (.inl (aL mwh))))]]) (c_X10_net_not l g r ma mx f n mw mn b (v, b, h, o, l_) hx3 hT1 hT2 hmw hx1 rfl hN h1) (by decide) zXm_0 [0, 7, 13, 12] [1, 2, 3, 4, 5, 6, 8, 9, 10, 11, 14, 15] rfl rfl rfl (fun (u_ : (Nat → Int) × (Nat → Int)) => ((ma, u_.1, mu, ml, mh, o, l_, mk, f, mz, mkd, mfa, mfb, u_.2, mw, mp, mwh) : MS)) (mdlL g r) [12, 0, 1, 2, 3, 4, 5, 13, 6, 7, 8, 9, 15, 14, 10, 11] rfl (fun _ => rfl) (-2000000003) (fun _ _ => rfl), ?_⟩
    rintro _ _ ⟨uD, huD, rfl⟩ ⟨uM, huM, rfl⟩
    exact ⟨⟨hT1, hT2, (huM 3 (by omega)).trans hx3, rfl⟩, ⟨hN, hh0, (huM 1 (by omega)).trans hx1, (huM 0 (by omega)).trans hx0, hmh, rfl, rfl, hl0⟩, hRP, ⟨hNo, (huM 2 (by omega)).trans hx2⟩, hRK, hS0, hS1, hS2, ⟨hz8, hkd, by first | exact hx9 | (rw [huM 9 (by omega)]; exact hx9), hmw⟩⟩
  · refine ⟨((((pA f n 24 0 (v, b, h, o, l_) 0).2.2) : Nat) : Int), _, _, zfr_i (cr := [(threeW g (d 4) rx u), [((d 6), .inl (g.2 5, 2, .inr (.inr (.inr (.inr (rA [k0, k1]))))))], (threeW g k0 X0 T0), (threeW g k1 X1 T1), (recW g (d 8) cx_ w_), [flw (d 9) p0 p1 p2 p3], [flw (d 10) g0 g1 g2 g3]]) (c_X9_net l g q d tx n c_ k s_ e_ f m_ gx v b h o l_ dx v0 b0 h0 o0 l0 px t e5 y X T sz nx fk s0 xs0 tt0 nn0 fa0 fb0 fp0 s1 xs1 tt1 nn1 fa1 fb1 fp1 s2 xs2 tt2 nn2 fa2 fb2 fp2 xs vs hT1 hT2 hN hS0.1 hS1.1 hS2.1 (Decidable.not_not.mp h1)) (by decide) zXm_W [0, 1, 2, 3, 4, 6, 10, 14, 15, 16, 17] [5, 7, 8, 9, 11, 12, 13] rfl rfl rfl (fun (u_ : Nat × Nat × Nat × Nat × (Nat → Int) × Int × Nat × (Nat → Int) × (Nat → Int) × (Nat → Int)) => ((d, tx, 0, u_.1, u_.2.1, u_.2.2.1, u_.2.2.2.1, f, u_.2.2.2.2.1, gx, u_.2.2.2.2.2.1, u_.2.2.2.2.2.2.1, u_.2.2.2.2.2.2.2.1, u_.2.2.2.2.2.2.2.2.1, u_.2.2.2.2.2.2.2.2.2, dx, u_.2.2.2.2.2.1, u_.2.2.2.2.2.2.1, u_.2.2.2.2.2.2.2.1, u_.2.2.2.2.2.2.2.2.1, u_.2.2.2.2.2.2.2.2.2, px, zT0, rx, u, e5, y, X, T, 0, nx, k0, k1, X0, T0, X1, T1, (uI (uI fk 0 0) 1 0), cx_, w_, p0, p1, p2, p3, g0, g1, g2, g3, s0, xs0, 0, 0, fa0, fb0, fp0, s1, xs1, 0, 0, fa1, fb1, fp1, s2, xs2, 0, 0, fa2, fb2, fp2) : DS)) (deskL g q) [7, 8, 9, 10, 11, 0, 12, 1, 2, 3, 13, 4, 5, 6, 14, 15, 16, 17] rfl (fun _ => rfl) ((((pA f n 24 0 (v, b, h, o, l_) 0).2.2) : Nat) : Int) (fun u_ hu => by rw [hu.2]), zfr_i (cr := [[((ma 8), .inl (g.2 0, 24, .inl (aI mkd)))], [((ma 9), .inl (g.2 0, 24, .inl (aI mfa)))], [((ma 10), .inl (g.2 0, 24, .inl (aI mfb)))], [((ma 13), .inl (g.2 1, 3, .inr (.inl (aL mp))))], [((ma 14), .inl (g.2 1, 6, .inr (.inl (aL mwh))))]]) (c_X10_net_ok l g r ma mx ((mu, ml, mx 9) : RS) f n mw mn b (v, b, h, o, l_) mh o l_ mk mz hx3 hT1 hT2 hmw hx1 rfl hN hRNx (Decidable.not_not.mp h1)) (by decide) zXm_0 [0, 1, 2, 7, 13, 12, 3, 4, 5, 6, 8] [9, 10, 11, 14, 15] rfl rfl rfl (fun (u_ : (Nat → Int) × (Nat → Int) × (Nat → Int) × (Nat → Int) × (Nat → Int) × Nat) => ((ma, u_.1, ((cl6 ((mu, ml, mx 9) : RS).1 0, cl6 ((mu, ml, mx 9) : RS).2.1 1, ((mu, ml, mx 9) : RS).2.2) : RS).1, ((cl6 ((mu, ml, mx 9) : RS).1 0, cl6 ((mu, ml, mx 9) : RS).2.1 1, ((mu, ml, mx 9) : RS).2.2) : RS).2.1, u_.2.2.1, u_.2.2.2.1, u_.2.2.2.2.1, (uI (uI mk 0 0) 1 0), f, (uI (uI (uI mz 0 (-1)) 1 (-1)) 2 (-1)), mkd, mfa, mfb, u_.2.1, mw, mp, mwh) : MS)) (mdlL g r) [5, 6, 7, 11, 12, 13, 14, 8, 15, 0, 1, 2, 10, 9, 3, 4] rfl (fun _ => rfl) ((((pA f n 24 0 (v, b, h, o, l_) 0).2.2) : Nat) : Int) (fun _ _ => rfl), ?_⟩
    rintro _ _ ⟨uD, huD, rfl⟩ ⟨uM, huM, rfl⟩
    have hG0 := huM.2.1
    have hn5 : nok5 (pA f n 24 0 (v, b, h, o, l_) 0).2.1 := nok_pA 24 0 _ 0 hN
    have hh5 : (pA f n 24 0 (v, b, h, o, l_) 0).2.1.2.2.1 0 = -1 := pA_h0 24 0 _ 0 hN hh0
    have hG : RG (pA f n 24 0 (v, b, h, o, l_) 0).2.1 (uM.1 0) (uM.1 1) uM.2.2.1 uM.2.2.2.1 uM.2.2.2.2.1 := ⟨hn5, hh5, by rw [huM.2.2.1, hG0.2.1], hG0.1, hG0.2.2.1, hG0.2.2.2.1, hG0.2.2.2.2.1, by rw [← hG0.2.2.2.2.1]; exact hG0.2.2.2.2.2⟩
    rw [← huD.1] at hG
    exact ⟨⟨by show 0 ≤ 200; omega, hT2, huM.2.2.2.2, rfl⟩, hG, ⟨fok_zT0, tS6_cl⟩, ⟨RNo_0 hNo, huM.2.2.2.1⟩, ⟨Or.inl rfl, Or.inl rfl, rfl, rfl, hRK.2.2.2.2.1, hRK.2.2.2.2.2.1, fun q => absurd q (by show ¬ (0 : Int) = 1; decide), fun q => absurd q (by show ¬ (0 : Int) = 1; decide)⟩, RSt_gone hS0 rfl, RSt_gone hS1 rfl, RSt_gone hS2 rfl, ⟨uI_m1 (uI_m1 (uI_m1 hz8)), hkd, by rw [huM.1 9 (by omega)]; exact hx9, hmw⟩⟩
set_option maxHeartbeats 4000000 in
set_option maxRecDepth 100000 in
theorem pr_bus (l : Launch) (g : zG) (q r t1 t2 : Nat) (xs vs : Nat → Nat) (s : DS) (z : MS) (hR : REL s z) (A1 : Int) (A2 : Int) (hA1 : -2147483648 ≤ A1 ∧ A1 < 2147483648) (hA2 : -2147483648 ≤ A2 ∧ A2 < 2147483648) : PrI l g q r yX9_bus wsX9_bus yX10_bus wsX10_bus [vI A1, vI A2] (zXL t1 t2 xs vs) s z := by
  obtain ⟨d, tx, n, c_, k, s_, e_, f, m_, gx, v, b, h, o, l_, dx, v0, b0, h0, o0, l0, px, t, rx, u, e5, y, X, T, sz, nx, k0, k1, X0, T0, X1, T1, fk, cx_, w_, p0, p1, p2, p3, g0, g1, g2, g3, s0, xs0, tt0, nn0, fa0, fb0, fp0, s1, xs1, tt1, nn1, fa1, fb1, fp1, s2, xs2, tt2, nn2, fa2, fb2, fp2⟩ := s
  obtain ⟨ma, mx, mu, ml, mh, mo, mll, mk, mf, mz, mkd, mfa, mfb, mn, mw, mp, mwh⟩ := z
  have hR0 := hR
  obtain ⟨hRT, hRG, hRP, hRN, hRK, hS0, hS1, hS2, hRM⟩ := hR
  have hmf : f = mf := hRT.2.2.2.symm
  have hmo : o = mo := hRG.2.2.2.2.2.1.symm
  have hml : l_ = mll := hRG.2.2.2.2.2.2.1.symm
  subst hmf hmo hml
  have hRT : RT n f (mx 3) f := hRT
  have hRG : RG (v, b, h, o, l_) (mx 0) (mx 1) mh o l_ := hRG
  have hRP : RPh t ((mu, ml, mx 9) : RS) := hRP
  have hRN : (RNo sz nx T ((mu, ml, mx 9) : RS) ∧ mx 2 = (sz : Int)) := hRN
  have hRK : RKe fk T0 T1 mk ((mu, ml, mx 9) : RS) := hRK
  have hS0 : RSt 0 tt0 nn0 fa0 fb0 fp0 mz mkd mfa mfb := hS0
  have hS1 : RSt 1 tt1 nn1 fa1 fb1 fp1 mz mkd mfa mfb := hS1
  have hS2 : RSt 2 tt2 nn2 fa2 fb2 fp2 mz mkd mfa mfb := hS2
  have hRM : RM mz mkd (mx 9) mw := hRM
  obtain ⟨hT1, hT2, hx3, -⟩ := id hRT
  obtain ⟨hN, hh0, hx1, hx0, hmh, -, -, hl0⟩ := id hRG
  have hN : nok v b h o l_ := hN
  have hh0 : h 0 = -1 := hh0
  have hx1 : mx 1 = (b : Int) := hx1
  have hx0 : mx 0 = v := hx0
  have hmh : ∀ i, 1 ≤ i → mh i = h i := hmh
  have hl0 : l_ 0 = 0 := hl0
  obtain ⟨ht, hS6⟩ := id hRP
  obtain ⟨hNo, hx2⟩ := id hRN
  obtain ⟨hsz, hnx, hTT, hNo4⟩ := id hNo
  obtain ⟨hz8, hkd, hx9, hmw⟩ := id hRM
  have hNm : nok (mx 0) b mh o l_ := RN_nok (X := (v, b, h, o, l_)) ⟨hx0, rfl, hmh, rfl, rfl, hl0⟩ hN
  have hRNx : RN (v, b, h, o, l_) (mx 0) b mh o l_ := ⟨hx0, rfl, hmh, rfl, rfl, hl0⟩
  have hrk : ∀ k, k < 6 → rk ((mu, ml, mx 9) : RS) k := tS6_rk hS6 ht
  refine ⟨(aBus v b h o l_ A1 A2), _, _, zfr_i (cr := [(textW g (d 0) tx n c_ k s_ e_ f m_), (netW g (d 2) dx v0 b0 h0 o0 l0), (threeW g (d 3) px t), (threeW g (d 4) rx u), (noteW g (d 5) e5 y X T sz nx), [((d 6), .inl (g.2 5, 2, .inr (.inr (.inr (.inr (rA [k0, k1]))))))], (threeW g k0 X0 T0), (threeW g k1 X1 T1), [((d 7), .inl (g.2 2, 2, .inl (aI fk)))], (recW g (d 8) cx_ w_), [flw (d 9) p0 p1 p2 p3], [flw (d 10) g0 g1 g2 g3], [((d 11), .inl (g.2 4, 3, .inr (.inr (.inr (.inr (rA [s0, s1, s2]))))))], (storeW g s0 xs0 tt0 nn0 fa0 fb0 fp0), (storeW g s1 xs1 tt1 nn1 fa1 fb1 fp1), (storeW g s2 xs2 tt2 nn2 fa2 fb2 fp2)]) (c_X9_bus l g q d gx v b h o l_ A1 A2 hN (by first | assumption | omega) (by first | assumption | omega)) (by decide) zXm_0 [0, 2] [1, 3, 4, 5, 6, 7, 8, 9, 10, 11, 12, 13, 14, 15, 16, 17] rfl rfl rfl (fun (_ : Unit) => ((d, tx, n, c_, k, s_, e_, f, m_, gx, v, b, h, o, l_, dx, v0, b0, h0, o0, l0, px, t, rx, u, e5, y, X, T, sz, nx, k0, k1, X0, T0, X1, T1, fk, cx_, w_, p0, p1, p2, p3, g0, g1, g2, g3, s0, xs0, tt0, nn0, fa0, fb0, fp0, s1, xs1, tt1, nn1, fa1, fb1, fp1, s2, xs2, tt2, nn2, fa2, fb2, fp2) : DS)) (deskL g q) [16, 0, 17, 1, 2, 3, 4, 5, 6, 7, 8, 9, 10, 11, 12, 13, 14, 15] rfl (fun _ => rfl) (aBus v b h o l_ A1 A2) (fun _ _ => rfl), zfr_i (cr := [[((ma 0), .inl (g.2 1, 88, .inr (.inl (aL mu))))], [((ma 1), .inl (g.2 1, 88, .inr (.inl (aL ml))))], [((ma 5), .inl (g.2 2, 2, .inl (aI mk)))], [((ma 6), .inl (g.2 0, 200, .inl (aI f)))], [((ma 7), .inl (g.2 0, 3, .inl (aI mz)))], [((ma 8), .inl (g.2 0, 24, .inl (aI mkd)))], [((ma 9), .inl (g.2 0, 24, .inl (aI mfa)))], [((ma 10), .inl (g.2 0, 24, .inl (aI mfb)))], [((ma 11), .inl (g.2 0, 4, .inl (aI mn)))], [((ma 12), .inl (g.2 0, 24, .inl (aI mw)))], [((ma 13), .inl (g.2 1, 3, .inr (.inl (aL mp))))], [((ma 14), .inl (g.2 1, 6, .inr (.inl (aL mwh))))]]) (c_X10_bus l g r ma mx b mh o l_ A1 A2 hNm hx1 (by first | assumption | omega) (by first | assumption | omega)) (by decide) zXm_0 [0, 3, 4, 5] [1, 2, 6, 7, 8, 9, 10, 11, 12, 13, 14, 15] rfl rfl rfl (fun (_ : Unit) => ((ma, mx, mu, ml, mh, o, l_, mk, f, mz, mkd, mfa, mfb, mn, mw, mp, mwh) : MS)) (mdlL g r) [12, 0, 1, 13, 14, 15, 2, 3, 4, 5, 6, 7, 8, 9, 10, 11] rfl (fun _ => rfl) (aBus v b h o l_ A1 A2) (fun _ _ => mBus_c hmh hh0 hl0), ?_⟩
  rintro _ _ ⟨uD, huD, rfl⟩ ⟨uM, huM, rfl⟩
  exact hR0
