set_option maxHeartbeats 4000000 in
set_option maxRecDepth 100000 in
theorem pr_current (l : Launch) (g : zG) (q r t1 t2 : Nat) (xs vs : Nat → Nat) (s : DS) (z : MS) (hR : REL s z) (A1 : Int) (A2 : Int) (A3 : Int) (A4 : Int) (A5 : Int) (A6 : Int) (hA1 : -2147483648 ≤ A1 ∧ A1 < 2147483648) (hA2 : -2147483648 ≤ A2 ∧ A2 < 2147483648) (hA3 : -2147483648 ≤ A3 ∧ A3 < 2147483648) (hA4 : -2147483648 ≤ A4 ∧ A4 < 2147483648) (hA5 : -2147483648 ≤ A5 ∧ A5 < 2147483648) (hA6 : -2147483648 ≤ A6 ∧ A6 < 2147483648) : PrL l g q r yX9_current wsX9_current yX10_current wsX10_current [vI A1, vI A2, vI A3, vI A4, vI A5, vI A6] (zXL t1 t2 xs vs) s z := by
  obtain ⟨d, tx, n, c_, k, s_, e_, f, m_, gx, v, b, h, o, l_, dx, v0, b0, h0, o0, l0, px, t, rx, u, e5, y, X, T, sz, nx, k0, k1, X0, T0, X1, T1, fk, cx_, w_, p0, p1, p2, p3, g0, g1, g2, g3, s0, xs0, tt0, nn0, fa0, fb0, fp0, s1, xs1, tt1, nn1, fa1, fb1, fp1, s2, xs2, tt2, nn2, fa2, fb2, fp2⟩ := s
  obtain ⟨ma, mx, mu, ml, mh, mo, mll, mk, mf, mz, mkd, mfa, mfb, mn, mw, mp, mwh⟩ := z
  have hR0 := hR
  obtain ⟨hRT, hRG, hRP, hRN, hRK, hS0, hS1, hS2, hRM⟩ := hR
  have hmf : f = mf := hRT.2.2.2.symm
  have hmo : o = mo := hRG.2.2.2.2.2.1.symm
  have hml : l_ = mll := hRG.2.2.2.2.2.2.1.symm
  subst hmf hmo hml
  have hRT : RT n f (mx 3) f := hRT
  have hRG : RG (v, b, h, o, l_) (mx 0) (mx 1) mh o l_ := hRG
  have hRP : RPh t ((mu, ml, mx 9) : RS) := hRP
  have hRN : (RNo sz nx T ((mu, ml, mx 9) : RS) ∧ mx 2 = (sz : Int)) := hRN
  have hRK : RKe fk T0 T1 mk ((mu, ml, mx 9) : RS) := hRK
  have hS0 : RSt 0 tt0 nn0 fa0 fb0 fp0 mz mkd mfa mfb := hS0
  have hS1 : RSt 1 tt1 nn1 fa1 fb1 fp1 mz mkd mfa mfb := hS1
  have hS2 : RSt 2 tt2 nn2 fa2 fb2 fp2 mz mkd mfa mfb := hS2
  have hRM : RM mz mkd (mx 9) mw := hRM
  obtain ⟨hT1, hT2, hx3, -⟩ := id hRT
  obtain ⟨hN, hh0, hx1, hx0, hmh, -, -, hl0⟩ := id hRG
  have hN : nok v b h o l_ := hN
  have hh0 : h 0 = -1 := hh0
  have hx1 : mx 1 = (b : Int) := hx1
  have hx0 : mx 0 = v := hx0
  have hmh : ∀ i, 1 ≤ i → mh i = h i := hmh
  have hl0 : l_ 0 = 0 := hl0
  obtain ⟨ht, hS6⟩ := id hRP
  obtain ⟨hNo, hx2⟩ := id hRN
  obtain ⟨hsz, hnx, hTT, hNo4⟩ := id hNo
  obtain ⟨hz8, hkd, hx9, hmw⟩ := id hRM
  have hNm : nok (mx 0) b mh o l_ := RN_nok (X := (v, b, h, o, l_)) ⟨hx0, rfl, hmh, rfl, rfl, hl0⟩ hN
  have hRNx : RN (v, b, h, o, l_) (mx 0) b mh o l_ := ⟨hx0, rfl, hmh, rfl, rfl, hl0⟩
  have hrk : ∀ k, k < 6 → rk ((mu, ml, mx 9) : RS) k := tS6_rk hS6 ht
  refine ⟨(aCur v b h o A1 A2 A3 A4 A5 A6), _, _, zfr_l (cr := [(textW g (d 0) tx n c_ k s_ e_ f m_), (netW g (d 2) dx v0 b0 h0 o0 l0), (threeW g (d 3) px t), (threeW g (d 4) rx u), (noteW g (d 5) e5 y X T sz nx), [((d 6), .inl (g.2 5, 2, .inr (.inr (.inr (.inr (rA [k0, k1]))))))], (threeW g k0 X0 T0), (threeW g k1 X1 T1), [((d 7), .inl (g.2 2, 2, .inl (aI fk)))], (recW g (d 8) cx_ w_), [flw (d 10) g0 g1 g2 g3], [((d 11), .inl (g.2 4, 3, .inr (.inr (.inr (.inr (rA [s0, s1, s2]))))))], (storeW g s0 xs0 tt0 nn0 fa0 fb0 fp0), (storeW g s1 xs1 tt1 nn1 fa1 fb1 fp1), (storeW g s2 xs2 tt2 nn2 fa2 fb2 fp2)]) (c_X9_current l g q d gx v b h o l_ p0 p1 p2 p3 A1 A2 A3 A4 A5 A6 hN (by first | assumption | omega) (by first | assumption | omega) (by first | assumption | omega) (by first | assumption | omega) (by first | assumption | omega) (by first | assumption | omega)) (by decide) zXm_0 [0, 2, 12] [1, 3, 4, 5, 6, 7, 8, 9, 10, 11, 13, 14, 15, 16, 17] rfl rfl rfl (fun (u_ : Int × Int × Int × Int) => ((d, tx, n, c_, k, s_, e_, f, m_, gx, v, b, h, o, l_, dx, v0, b0, h0, o0, l0, px, t, rx, u, e5, y, X, T, sz, nx, k0, k1, X0, T0, X1, T1, fk, cx_, w_, u_.1, u_.2.1, u_.2.2.1, u_.2.2.2, g0, g1, g2, g3, s0, xs0, tt0, nn0, fa0, fb0, fp0, s1, xs1, tt1, nn1, fa1, fb1, fp1, s2, xs2, tt2, nn2, fa2, fb2, fp2) : DS)) (deskL g q) [15, 0, 16, 1, 2, 3, 4, 5, 6, 7, 8, 9, 17, 10, 11, 12, 13, 14] rfl (fun _ => rfl) (aCur v b h o A1 A2 A3 A4 A5 A6) (fun _ _ => rfl), zfr_l (cr := [[((ma 4), .inl (g.2 0, 6, .inl (aI l_)))], [((ma 5), .inl (g.2 2, 2, .inl (aI mk)))], [((ma 6), .inl (g.2 0, 200, .inl (aI f)))], [((ma 7), .inl (g.2 0, 3, .inl (aI mz)))], [((ma 8), .inl (g.2 0, 24, .inl (aI mkd)))], [((ma 9), .inl (g.2 0, 24, .inl (aI mfa)))], [((ma 10), .inl (g.2 0, 24, .inl (aI mfb)))], [((ma 11), .inl (g.2 0, 4, .inl (aI mn)))], [((ma 12), .inl (g.2 0, 24, .inl (aI mw)))]]) (c_X10_current l g r ma mx ((mu, ml, mx 9) : RS) b mh o l_ mp mwh A1 A2 A3 A4 A5 A6 hNm hx1 (by first | assumption | omega) (by first | assumption | omega) (by first | assumption | omega) (by first | assumption | omega) (by first | assumption | omega) (by first | assumption | omega)) (by decide) zXm_0 [0, 1, 2, 3, 4, 14, 15] [5, 6, 7, 8, 9, 10, 11, 12, 13] rfl rfl rfl (fun (u_ : (Nat → Int) × (Nat → Int) × (Nat → Int) × RS) => ((ma, u_.1, u_.2.2.2.1, u_.2.2.2.2.1, mh, o, l_, mk, f, mz, mkd, mfa, mfb, mn, mw, u_.2.1, u_.2.2.1) : MS)) (mdlL g r) [9, 10, 11, 12, 13, 0, 1, 2, 3, 4, 5, 6, 7, 8, 14, 15] rfl (fun _ => rfl) (aCur v b h o A1 A2 A3 A4 A5 A6) (fun _ _ => by rw [hx0, aCur_c hmh]), ?_⟩
  rintro _ _ ⟨uD, huD, rfl⟩ ⟨uM, huM, rfl⟩
  exact ⟨⟨hT1, hT2, (huM.1 3 (by decide)).trans hx3, rfl⟩, ⟨hN, hh0, (huM.1 1 (by decide)).trans hx1, (huM.1 0 (by decide)).trans hx0, hmh, rfl, rfl, hl0⟩, ⟨ht, tS6_e (T := uM.2.2.2) hS6 (e66_78 huM.2)⟩, ⟨RNo_ext (S' := uM.2.2.2) hNo (fun j _ hj => e66_v (e66_78 huM.2) (by omega)), (huM.1 2 (by decide)).trans hx2⟩, RKe_ext (S' := uM.2.2.2) hRK (fun j _ hj => e66_v (e66_78 huM.2) hj), hS0, hS1, hS2, ⟨hz8, hkd, by first | exact hx9 | (rw [huM.1 9 (by decide)]; exact hx9), hmw⟩⟩
set_option maxHeartbeats 4000000 in
set_option maxRecDepth 100000 in
theorem pr_voltage (l : Launch) (g : zG) (q r t1 t2 : Nat) (xs vs : Nat → Nat) (s : DS) (z : MS) (hR : REL s z) (A1 : Int) (A2 : Int) (A3 : Int) (A4 : Int) (A5 : Int) (A6 : Int) (A7 : Int) (hA1 : -2147483648 ≤ A1 ∧ A1 < 2147483648) (hA2 : -2147483648 ≤ A2 ∧ A2 < 2147483648) (hA3 : -2147483648 ≤ A3 ∧ A3 < 2147483648) (hA4 : -2147483648 ≤ A4 ∧ A4 < 2147483648) (hA5 : -2147483648 ≤ A5 ∧ A5 < 2147483648) (hA6 : -2147483648 ≤ A6 ∧ A6 < 2147483648) (hA7 : -2147483648 ≤ A7 ∧ A7 < 2147483648) : PrL l g q r yX9_voltage wsX9_voltage yX10_voltage wsX10_voltage [vI A1, vI A2, vI A3, vI A4, vI A5, vI A6, vI A7] (zXL t1 t2 xs vs) s z := by
  obtain ⟨d, tx, n, c_, k, s_, e_, f, m_, gx, v, b, h, o, l_, dx, v0, b0, h0, o0, l0, px, t, rx, u, e5, y, X, T, sz, nx, k0, k1, X0, T0, X1, T1, fk, cx_, w_, p0, p1, p2, p3, g0, g1, g2, g3, s0, xs0, tt0, nn0, fa0, fb0, fp0, s1, xs1, tt1, nn1, fa1, fb1, fp1, s2, xs2, tt2, nn2, fa2, fb2, fp2⟩ := s
  obtain ⟨ma, mx, mu, ml, mh, mo, mll, mk, mf, mz, mkd, mfa, mfb, mn, mw, mp, mwh⟩ := z
  have hR0 := hR
  obtain ⟨hRT, hRG, hRP, hRN, hRK, hS0, hS1, hS2, hRM⟩ := hR
  have hmf : f = mf := hRT.2.2.2.symm
  have hmo : o = mo := hRG.2.2.2.2.2.1.symm
  have hml : l_ = mll := hRG.2.2.2.2.2.2.1.symm
  subst hmf hmo hml
  have hRT : RT n f (mx 3) f := hRT
  have hRG : RG (v, b, h, o, l_) (mx 0) (mx 1) mh o l_ := hRG
  have hRP : RPh t ((mu, ml, mx 9) : RS) := hRP
  have hRN : (RNo sz nx T ((mu, ml, mx 9) : RS) ∧ mx 2 = (sz : Int)) := hRN
  have hRK : RKe fk T0 T1 mk ((mu, ml, mx 9) : RS) := hRK
  have hS0 : RSt 0 tt0 nn0 fa0 fb0 fp0 mz mkd mfa mfb := hS0
  have hS1 : RSt 1 tt1 nn1 fa1 fb1 fp1 mz mkd mfa mfb := hS1
  have hS2 : RSt 2 tt2 nn2 fa2 fb2 fp2 mz mkd mfa mfb := hS2
  have hRM : RM mz mkd (mx 9) mw := hRM
  obtain ⟨hT1, hT2, hx3, -⟩ := id hRT
  obtain ⟨hN, hh0, hx1, hx0, hmh, -, -, hl0⟩ := id hRG
  have hN : nok v b h o l_ := hN
  have hh0 : h 0 = -1 := hh0
  have hx1 : mx 1 = (b : Int) := hx1
  have hx0 : mx 0 = v := hx0
  have hmh : ∀ i, 1 ≤ i → mh i = h i := hmh
  have hl0 : l_ 0 = 0 := hl0
  obtain ⟨ht, hS6⟩ := id hRP
  obtain ⟨hNo, hx2⟩ := id hRN
  obtain ⟨hsz, hnx, hTT, hNo4⟩ := id hNo
  obtain ⟨hz8, hkd, hx9, hmw⟩ := id hRM
  have hNm : nok (mx 0) b mh o l_ := RN_nok (X := (v, b, h, o, l_)) ⟨hx0, rfl, hmh, rfl, rfl, hl0⟩ hN
  have hRNx : RN (v, b, h, o, l_) (mx 0) b mh o l_ := ⟨hx0, rfl, hmh, rfl, rfl, hl0⟩
  have hrk : ∀ k, k < 6 → rk ((mu, ml, mx 9) : RS) k := tS6_rk hS6 ht
  refine ⟨(aVol v b h o A1 A2 A3 A4 A5 A6 A7), _, _, zfr_l (cr := [(textW g (d 0) tx n c_ k s_ e_ f m_), (netW g (d 2) dx v0 b0 h0 o0 l0), (threeW g (d 3) px t), (threeW g (d 4) rx u), (noteW g (d 5) e5 y X T sz nx), [((d 6), .inl (g.2 5, 2, .inr (.inr (.inr (.inr (rA [k0, k1]))))))], (threeW g k0 X0 T0), (threeW g k1 X1 T1), [((d 7), .inl (g.2 2, 2, .inl (aI fk)))], (recW g (d 8) cx_ w_), [((d 11), .inl (g.2 4, 3, .inr (.inr (.inr (.inr (rA [s0, s1, s2]))))))], (storeW g s0 xs0 tt0 nn0 fa0 fb0 fp0), (storeW g s1 xs1 tt1 nn1 fa1 fb1 fp1), (storeW g s2 xs2 tt2 nn2 fa2 fb2 fp2)]) (c_X9_voltage l g q d gx v b h o l_ p0 p1 p2 p3 g0 g1 g2 g3 A1 A2 A3 A4 A5 A6 A7 hN (by first | assumption | omega) (by first | assumption | omega) (by first | assumption | omega) (by first | assumption | omega) (by first | assumption | omega) (by first | assumption | omega) (by first | assumption | omega)) (by decide) zXm_0 [0, 2, 12, 13] [1, 3, 4, 5, 6, 7, 8, 9, 10, 11, 14, 15, 16, 17] rfl rfl rfl (fun (u_ : Int × Int × Int × Int × Int × Int × Int × Int) => ((d, tx, n, c_, k, s_, e_, f, m_, gx, v, b, h, o, l_, dx, v0, b0, h0, o0, l0, px, t, rx, u, e5, y, X, T, sz, nx, k0, k1, X0, T0, X1, T1, fk, cx_, w_, u_.1, u_.2.1, u_.2.2.1, u_.2.2.2.1, u_.2.2.2.2.1, u_.2.2.2.2.2.1, u_.2.2.2.2.2.2.1, u_.2.2.2.2.2.2.2, s0, xs0, tt0, nn0, fa0, fb0, fp0, s1, xs1, tt1, nn1, fa1, fb1, fp1, s2, xs2, tt2, nn2, fa2, fb2, fp2) : DS)) (deskL g q) [14, 0, 15, 1, 2, 3, 4, 5, 6, 7, 8, 9, 16, 17, 10, 11, 12, 13] rfl (fun _ => rfl) (aVol v b h o A1 A2 A3 A4 A5 A6 A7) (fun _ _ => rfl), zfr_l (cr := [[((ma 4), .inl (g.2 0, 6, .inl (aI l_)))], [((ma 5), .inl (g.2 2, 2, .inl (aI mk)))], [((ma 6), .inl (g.2 0, 200, .inl (aI f)))], [((ma 7), .inl (g.2 0, 3, .inl (aI mz)))], [((ma 8), .inl (g.2 0, 24, .inl (aI mkd)))], [((ma 9), .inl (g.2 0, 24, .inl (aI mfa)))], [((ma 10), .inl (g.2 0, 24, .inl (aI mfb)))], [((ma 11), .inl (g.2 0, 4, .inl (aI mn)))], [((ma 12), .inl (g.2 0, 24, .inl (aI mw)))]]) (c_X10_voltage l g r ma mx ((mu, ml, mx 9) : RS) b mh o l_ mp mwh A1 A2 A3 A4 A5 A6 A7 hNm hx1 (by first | assumption | omega) (by first | assumption | omega) (by first | assumption | omega) (by first | assumption | omega) (by first | assumption | omega) (by first | assumption | omega) (by first | assumption | omega)) (by decide) zXm_0 [0, 1, 2, 3, 4, 14, 15] [5, 6, 7, 8, 9, 10, 11, 12, 13] rfl rfl rfl (fun (u_ : (Nat → Int) × (Nat → Int) × (Nat → Int) × RS) => ((ma, u_.1, u_.2.2.2.1, u_.2.2.2.2.1, mh, o, l_, mk, f, mz, mkd, mfa, mfb, mn, mw, u_.2.1, u_.2.2.1) : MS)) (mdlL g r) [9, 10, 11, 12, 13, 0, 1, 2, 3, 4, 5, 6, 7, 8, 14, 15] rfl (fun _ => rfl) (aVol v b h o A1 A2 A3 A4 A5 A6 A7) (fun _ _ => by rw [hx0, aVol_c hmh]), ?_⟩
  rintro _ _ ⟨uD, huD, rfl⟩ ⟨uM, huM, rfl⟩
  exact ⟨⟨hT1, hT2, (huM.1 3 (by decide)).trans hx3, rfl⟩, ⟨hN, hh0, (huM.1 1 (by decide)).trans hx1, (huM.1 0 (by decide)).trans hx0, hmh, rfl, rfl, hl0⟩, ⟨ht, tS6_e (T := uM.2.2.2) hS6 (e66_78 huM.2)⟩, ⟨RNo_ext (S' := uM.2.2.2) hNo (fun j _ hj => e66_v (e66_78 huM.2) (by omega)), (huM.1 2 (by decide)).trans hx2⟩, RKe_ext (S' := uM.2.2.2) hRK (fun j _ hj => e66_v (e66_78 huM.2) hj), hS0, hS1, hS2, ⟨hz8, hkd, by first | exact hx9 | (rw [huM.1 9 (by decide)]; exact hx9), hmw⟩⟩
set_option maxHeartbeats 4000000 in
set_option maxRecDepth 100000 in
theorem pr_sag (l : Launch) (g : zG) (q r t1 t2 : Nat) (xs vs : Nat → Nat) (s : DS) (z : MS) (hR : REL s z) (A1 : Int) (A2 : Int) (A3 : Int) (A4 : Int) (hA1 : -2147483648 ≤ A1 ∧ A1 < 2147483648) (hA2 : -2147483648 ≤ A2 ∧ A2 < 2147483648) (hA3 : -2147483648 ≤ A3 ∧ A3 < 2147483648) (hA4 : -2147483648 ≤ A4 ∧ A4 < 2147483648) : PrI l g q r yX9_sag wsX9_sag yX10_sag wsX10_sag [vI A1, vI A2, vI A3, vI A4] (zXL t1 t2 xs vs) s z := by
  obtain ⟨d, tx, n, c_, k, s_, e_, f, m_, gx, v, b, h, o, l_, dx, v0, b0, h0, o0, l0, px, t, rx, u, e5, y, X, T, sz, nx, k0, k1, X0, T0, X1, T1, fk, cx_, w_, p0, p1, p2, p3, g0, g1, g2, g3, s0, xs0, tt0, nn0, fa0, fb0, fp0, s1, xs1, tt1, nn1, fa1, fb1, fp1, s2, xs2, tt2, nn2, fa2, fb2, fp2⟩ := s
  obtain ⟨ma, mx, mu, ml, mh, mo, mll, mk, mf, mz, mkd, mfa, mfb, mn, mw, mp, mwh⟩ := z
  have hR0 := hR
  obtain ⟨hRT, hRG, hRP, hRN, hRK, hS0, hS1, hS2, hRM⟩ := hR
  have hmf : f = mf := hRT.2.2.2.symm
  have hmo : o = mo := hRG.2.2.2.2.2.1.symm
  have hml : l_ = mll := hRG.2.2.2.2.2.2.1.symm
  subst hmf hmo hml
  have hRT : RT n f (mx 3) f := hRT
  have hRG : RG (v, b, h, o, l_) (mx 0) (mx 1) mh o l_ := hRG
  have hRP : RPh t ((mu, ml, mx 9) : RS) := hRP
  have hRN : (RNo sz nx T ((mu, ml, mx 9) : RS) ∧ mx 2 = (sz : Int)) := hRN
  have hRK : RKe fk T0 T1 mk ((mu, ml, mx 9) : RS) := hRK
  have hS0 : RSt 0 tt0 nn0 fa0 fb0 fp0 mz mkd mfa mfb := hS0
  have hS1 : RSt 1 tt1 nn1 fa1 fb1 fp1 mz mkd mfa mfb := hS1
  have hS2 : RSt 2 tt2 nn2 fa2 fb2 fp2 mz mkd mfa mfb := hS2
  have hRM : RM mz mkd (mx 9) mw := hRM
  obtain ⟨hT1, hT2, hx3, -⟩ := id hRT
  obtain ⟨hN, hh0, hx1, hx0, hmh, -, -, hl0⟩ := id hRG
  have hN : nok v b h o l_ := hN
  have hh0 : h 0 = -1 := hh0
  have hx1 : mx 1 = (b : Int) := hx1
  have hx0 : mx 0 = v := hx0
  have hmh : ∀ i, 1 ≤ i → mh i = h i := hmh
  have hl0 : l_ 0 = 0 := hl0
  obtain ⟨ht, hS6⟩ := id hRP
  obtain ⟨hNo, hx2⟩ := id hRN
  obtain ⟨hsz, hnx, hTT, hNo4⟩ := id hNo
  obtain ⟨hz8, hkd, hx9, hmw⟩ := id hRM
  have hNm : nok (mx 0) b mh o l_ := RN_nok (X := (v, b, h, o, l_)) ⟨hx0, rfl, hmh, rfl, rfl, hl0⟩ hN
  have hRNx : RN (v, b, h, o, l_) (mx 0) b mh o l_ := ⟨hx0, rfl, hmh, rfl, rfl, hl0⟩
  have hrk : ∀ k, k < 6 → rk ((mu, ml, mx 9) : RS) k := tS6_rk hS6 ht
  refine ⟨(aSag v b h o A1 A2 A3 A4), _, _, zfr_i (cr := [(textW g (d 0) tx n c_ k s_ e_ f m_), (netW g (d 2) dx v0 b0 h0 o0 l0), (threeW g (d 3) px t), (threeW g (d 4) rx u), (noteW g (d 5) e5 y X T sz nx), [((d 6), .inl (g.2 5, 2, .inr (.inr (.inr (.inr (rA [k0, k1]))))))], (threeW g k0 X0 T0), (threeW g k1 X1 T1), [((d 7), .inl (g.2 2, 2, .inl (aI fk)))], (recW g (d 8) cx_ w_), [((d 11), .inl (g.2 4, 3, .inr (.inr (.inr (.inr (rA [s0, s1, s2]))))))], (storeW g s0 xs0 tt0 nn0 fa0 fb0 fp0), (storeW g s1 xs1 tt1 nn1 fa1 fb1 fp1), (storeW g s2 xs2 tt2 nn2 fa2 fb2 fp2)]) (c_X9_sag l g q d gx v b h o l_ p0 p1 p2 p3 g0 g1 g2 g3 A1 A2 A3 A4 hN (by first | assumption | omega) (by first | assumption | omega) (by first | assumption | omega) (by first | assumption | omega)) (by decide) zXm_0 [0, 2, 12, 13] [1, 3, 4, 5, 6, 7, 8, 9, 10, 11, 14, 15, 16, 17] rfl rfl rfl (fun (u_ : Int × Int × Int × Int × Int × Int × Int × Int) => ((d, tx, n, c_, k, s_, e_, f, m_, gx, v, b, h, o, l_, dx, v0, b0, h0, o0, l0, px, t, rx, u, e5, y, X, T, sz, nx, k0, k1, X0, T0, X1, T1, fk, cx_, w_, u_.1, u_.2.1, u_.2.2.1, u_.2.2.2.1, u_.2.2.2.2.1, u_.2.2.2.2.2.1, u_.2.2.2.2.2.2.1, u_.2.2.2.2.2.2.2, s0, xs0, tt0, nn0, fa0, fb0, fp0, s1, xs1, tt1, nn1, fa1, fb1, fp1, s2, xs2, tt2, nn2, fa2, fb2, fp2) : DS)) (deskL g q) [14, 0, 15, 1, 2, 3, 4, 5, 6, 7, 8, 9, 16, 17, 10, 11, 12, 13] rfl (fun _ => rfl) (aSag v b h o A1 A2 A3 A4) (fun _ _ => rfl), zfr_i (cr := [[((ma 0), .inl (g.2 1, 88, .inr (.inl (aL mu))))], [((ma 1), .inl (g.2 1, 88, .inr (.inl (aL ml))))], [((ma 4), .inl (g.2 0, 6, .inl (aI l_)))], [((ma 5), .inl (g.2 2, 2, .inl (aI mk)))], [((ma 6), .inl (g.2 0, 200, .inl (aI f)))], [((ma 7), .inl (g.2 0, 3, .inl (aI mz)))], [((ma 8), .inl (g.2 0, 24, .inl (aI mkd)))], [((ma 9), .inl (g.2 0, 24, .inl (aI mfa)))], [((ma 10), .inl (g.2 0, 24, .inl (aI mfb)))], [((ma 11), .inl (g.2 0, 4, .inl (aI mn)))], [((ma 12), .inl (g.2 0, 24, .inl (aI mw)))]]) (c_X10_sag l g r ma mx b mh o l_ mp mwh A1 A2 A3 A4 hNm hx1 (by first | assumption | omega) (by first | assumption | omega) (by first | assumption | omega) (by first | assumption | omega)) (by decide) zXm_0 [0, 3, 4, 14, 15] [1, 2, 5, 6, 7, 8, 9, 10, 11, 12, 13] rfl rfl rfl (fun (u_ : (Nat → Int) × (Nat → Int) × (Nat → Int)) => ((ma, u_.1, mu, ml, mh, o, l_, mk, f, mz, mkd, mfa, mfb, mn, mw, u_.2.1, u_.2.2) : MS)) (mdlL g r) [11, 0, 1, 12, 13, 2, 3, 4, 5, 6, 7, 8, 9, 10, 14, 15] rfl (fun _ => rfl) (aSag v b h o A1 A2 A3 A4) (fun _ _ => by rw [hx0, aSag_c hmh]), ?_⟩
  rintro _ _ ⟨uD, huD, rfl⟩ ⟨uM, huM, rfl⟩
  exact ⟨⟨hT1, hT2, (huM 3 (by decide)).trans hx3, rfl⟩, ⟨hN, hh0, (huM 1 (by decide)).trans hx1, (huM 0 (by decide)).trans hx0, hmh, rfl, rfl, hl0⟩, hRP, ⟨hNo, (huM 2 (by decide)).trans hx2⟩, hRK, hS0, hS1, hS2, ⟨hz8, hkd, by first | exact hx9 | (rw [huM 9 (by decide)]; exact hx9), hmw⟩⟩
set_option maxHeartbeats 4000000 in
set_option maxRecDepth 100000 in
theorem pr_trips (l : Launch) (g : zG) (q r t1 t2 : Nat) (xs vs : Nat → Nat) (s : DS) (z : MS) (hR : REL s z) (A1 : Int) (A2 : Int) (A3 : Int) (hA1 : -2147483648 ≤ A1 ∧ A1 < 2147483648) (hA2 : -2147483648 ≤ A2 ∧ A2 < 2147483648) (hA3 : -2147483648 ≤ A3 ∧ A3 < 2147483648) : PrI l g q r yX9_trips wsX9_trips yX10_trips wsX10_trips [vI A1, vI A2, vI A3] (zXL t1 t2 xs vs) s z := by
  obtain ⟨d, tx, n, c_, k, s_, e_, f, m_, gx, v, b, h, o, l_, dx, v0, b0, h0, o0, l0, px, t, rx, u, e5, y, X, T, sz, nx, k0, k1, X0, T0, X1, T1, fk, cx_, w_, p0, p1, p2, p3, g0, g1, g2, g3, s0, xs0, tt0, nn0, fa0, fb0, fp0, s1, xs1, tt1, nn1, fa1, fb1, fp1, s2, xs2, tt2, nn2, fa2, fb2, fp2⟩ := s
  obtain ⟨ma, mx, mu, ml, mh, mo, mll, mk, mf, mz, mkd, mfa, mfb, mn, mw, mp, mwh⟩ := z
  have hR0 := hR
  obtain ⟨hRT, hRG, hRP, hRN, hRK, hS0, hS1, hS2, hRM⟩ := hR
  have hmf : f = mf := hRT.2.2.2.symm
  have hmo : o = mo := hRG.2.2.2.2.2.1.symm
  have hml : l_ = mll := hRG.2.2.2.2.2.2.1.symm
  subst hmf hmo hml
  have hRT : RT n f (mx 3) f := hRT
  have hRG : RG (v, b, h, o, l_) (mx 0) (mx 1) mh o l_ := hRG
  have hRP : RPh t ((mu, ml, mx 9) : RS) := hRP
  have hRN : (RNo sz nx T ((mu, ml, mx 9) : RS) ∧ mx 2 = (sz : Int)) := hRN
  have hRK : RKe fk T0 T1 mk ((mu, ml, mx 9) : RS) := hRK
  have hS0 : RSt 0 tt0 nn0 fa0 fb0 fp0 mz mkd mfa mfb := hS0
  have hS1 : RSt 1 tt1 nn1 fa1 fb1 fp1 mz mkd mfa mfb := hS1
  have hS2 : RSt 2 tt2 nn2 fa2 fb2 fp2 mz mkd mfa mfb := hS2
  have hRM : RM mz mkd (mx 9) mw := hRM
  obtain ⟨hT1, hT2, hx3, -⟩ := id hRT
  obtain ⟨hN, hh0, hx1, hx0, hmh, -, -, hl0⟩ := id hRG
  have hN : nok v b h o l_ := hN
  have hh0 : h 0 = -1 := hh0
  have hx1 : mx 1 = (b : Int) := hx1
  have hx0 : mx 0 = v := hx0
  have hmh : ∀ i, 1 ≤ i → mh i = h i := hmh
  have hl0 : l_ 0 = 0 := hl0
  obtain ⟨ht, hS6⟩ := id hRP
  obtain ⟨hNo, hx2⟩ := id hRN
  obtain ⟨hsz, hnx, hTT, hNo4⟩ := id hNo
  obtain ⟨hz8, hkd, hx9, hmw⟩ := id hRM
  have hNm : nok (mx 0) b mh o l_ := RN_nok (X := (v, b, h, o, l_)) ⟨hx0, rfl, hmh, rfl, rfl, hl0⟩ hN
  have hRNx : RN (v, b, h, o, l_) (mx 0) b mh o l_ := ⟨hx0, rfl, hmh, rfl, rfl, hl0⟩
  have hrk : ∀ k, k < 6 → rk ((mu, ml, mx 9) : RS) k := tS6_rk hS6 ht
  refine ⟨(aTrp v b h o l_ A1 A2 A3), _, _, zfr_i (cr := [(textW g (d 0) tx n c_ k s_ e_ f m_), (netW g (d 2) dx v0 b0 h0 o0 l0), (threeW g (d 3) px t), (threeW g (d 4) rx u), (noteW g (d 5) e5 y X T sz nx), [((d 6), .inl (g.2 5, 2, .inr (.inr (.inr (.inr (rA [k0, k1]))))))], (threeW g k0 X0 T0), (threeW g k1 X1 T1), [((d 7), .inl (g.2 2, 2, .inl (aI fk)))], (recW g (d 8) cx_ w_), [flw (d 10) g0 g1 g2 g3], [((d 11), .inl (g.2 4, 3, .inr (.inr (.inr (.inr (rA [s0, s1, s2]))))))], (storeW g s0 xs0 tt0 nn0 fa0 fb0 fp0), (storeW g s1 xs1 tt1 nn1 fa1 fb1 fp1), (storeW g s2 xs2 tt2 nn2 fa2 fb2 fp2)]) (c_X9_trips l g q d gx v b h o l_ p0 p1 p2 p3 A1 A2 A3 hN (by first | assumption | omega) (by first | assumption | omega) (by first | assumption | omega)) (by decide) zXm_0 [0, 2, 12] [1, 3, 4, 5, 6, 7, 8, 9, 10, 11, 13, 14, 15, 16, 17] rfl rfl rfl (fun (u_ : Int × Int × Int × Int) => ((d, tx, n, c_, k, s_, e_, f, m_, gx, v, b, h, o, l_, dx, v0, b0, h0, o0, l0, px, t, rx, u, e5, y, X, T, sz, nx, k0, k1, X0, T0, X1, T1, fk, cx_, w_, u_.1, u_.2.1, u_.2.2.1, u_.2.2.2, g0, g1, g2, g3, s0, xs0, tt0, nn0, fa0, fb0, fp0, s1, xs1, tt1, nn1, fa1, fb1, fp1, s2, xs2, tt2, nn2, fa2, fb2, fp2) : DS)) (deskL g q) [15, 0, 16, 1, 2, 3, 4, 5, 6, 7, 8, 9, 17, 10, 11, 12, 13, 14] rfl (fun _ => rfl) (aTrp v b h o l_ A1 A2 A3) (fun _ _ => rfl), zfr_i (cr := [[((ma 0), .inl (g.2 1, 88, .inr (.inl (aL mu))))], [((ma 1), .inl (g.2 1, 88, .inr (.inl (aL ml))))], [((ma 5), .inl (g.2 2, 2, .inl (aI mk)))], [((ma 6), .inl (g.2 0, 200, .inl (aI f)))], [((ma 7), .inl (g.2 0, 3, .inl (aI mz)))], [((ma 8), .inl (g.2 0, 24, .inl (aI mkd)))], [((ma 9), .inl (g.2 0, 24, .inl (aI mfa)))], [((ma 10), .inl (g.2 0, 24, .inl (aI mfb)))], [((ma 11), .inl (g.2 0, 4, .inl (aI mn)))], [((ma 12), .inl (g.2 0, 24, .inl (aI mw)))]]) (c_X10_trips l g r ma mx b mh o l_ mp mwh A1 A2 A3 hNm hx1 (by first | assumption | omega) (by first | assumption | omega) (by first | assumption | omega)) (by decide) zXm_0 [0, 3, 4, 5, 14, 15] [1, 2, 6, 7, 8, 9, 10, 11, 12, 13] rfl rfl rfl (fun (u_ : (Nat → Int) × (Nat → Int) × (Nat → Int)) => ((ma, u_.1, mu, ml, mh, o, l_, mk, f, mz, mkd, mfa, mfb, mn, mw, u_.2.1, u_.2.2) : MS)) (mdlL g r) [10, 0, 1, 11, 12, 13, 2, 3, 4, 5, 6, 7, 8, 9, 14, 15] rfl (fun _ => rfl) (aTrp v b h o l_ A1 A2 A3) (fun _ _ => by rw [hx0, aTrp_c hmh]), ?_⟩
  rintro _ _ ⟨uD, huD, rfl⟩ ⟨uM, huM, rfl⟩
  exact ⟨⟨hT1, hT2, (huM 3 (by decide)).trans hx3, rfl⟩, ⟨hN, hh0, (huM 1 (by decide)).trans hx1, (huM 0 (by decide)).trans hx0, hmh, rfl, rfl, hl0⟩, hRP, ⟨hNo, (huM 2 (by decide)).trans hx2⟩, hRK, hS0, hS1, hS2, ⟨hz8, hkd, by first | exact hx9 | (rw [huM 9 (by decide)]; exact hx9), hmw⟩⟩
set_option maxHeartbeats 4000000 in
set_option maxRecDepth 100000 in
theorem pr_worst (l : Launch) (g : zG) (q r t1 t2 : Nat) (xs vs : Nat → Nat) (s : DS) (z : MS) (hR : REL s z) (A1 : Int) (A2 : Int) (hA1 : -2147483648 ≤ A1 ∧ A1 < 2147483648) (hA2 : -2147483648 ≤ A2 ∧ A2 < 2147483648) : PrI l g q r yX9_worst wsX9_worst yX10_worst wsX10_worst [vI A1, vI A2] (zXL t1 t2 xs vs) s z := by
  obtain ⟨d, tx, n, c_, k, s_, e_, f, m_, gx, v, b, h, o, l_, dx, v0, b0, h0, o0, l0, px, t, rx, u, e5, y, X, T, sz, nx, k0, k1, X0, T0, X1, T1, fk, cx_, w_, p0, p1, p2, p3, g0, g1, g2, g3, s0, xs0, tt0, nn0, fa0, fb0, fp0, s1, xs1, tt1, nn1, fa1, fb1, fp1, s2, xs2, tt2, nn2, fa2, fb2, fp2⟩ := s
  obtain ⟨ma, mx, mu, ml, mh, mo, mll, mk, mf, mz, mkd, mfa, mfb, mn, mw, mp, mwh⟩ := z
  have hR0 := hR
  obtain ⟨hRT, hRG, hRP, hRN, hRK, hS0, hS1, hS2, hRM⟩ := hR
  have hmf : f = mf := hRT.2.2.2.symm
  have hmo : o = mo := hRG.2.2.2.2.2.1.symm
  have hml : l_ = mll := hRG.2.2.2.2.2.2.1.symm
  subst hmf hmo hml
  have hRT : RT n f (mx 3) f := hRT
  have hRG : RG (v, b, h, o, l_) (mx 0) (mx 1) mh o l_ := hRG
  have hRP : RPh t ((mu, ml, mx 9) : RS) := hRP
  have hRN : (RNo sz nx T ((mu, ml, mx 9) : RS) ∧ mx 2 = (sz : Int)) := hRN
  have hRK : RKe fk T0 T1 mk ((mu, ml, mx 9) : RS) := hRK
  have hS0 : RSt 0 tt0 nn0 fa0 fb0 fp0 mz mkd mfa mfb := hS0
  have hS1 : RSt 1 tt1 nn1 fa1 fb1 fp1 mz mkd mfa mfb := hS1
  have hS2 : RSt 2 tt2 nn2 fa2 fb2 fp2 mz mkd mfa mfb := hS2
  have hRM : RM mz mkd (mx 9) mw := hRM
  obtain ⟨hT1, hT2, hx3, -⟩ := id hRT
  obtain ⟨hN, hh0, hx1, hx0, hmh, -, -, hl0⟩ := id hRG
  have hN : nok v b h o l_ := hN
  have hh0 : h 0 = -1 := hh0
  have hx1 : mx 1 = (b : Int) := hx1
  have hx0 : mx 0 = v := hx0
  have hmh : ∀ i, 1 ≤ i → mh i = h i := hmh
  have hl0 : l_ 0 = 0 := hl0
  obtain ⟨ht, hS6⟩ := id hRP
  obtain ⟨hNo, hx2⟩ := id hRN
  obtain ⟨hsz, hnx, hTT, hNo4⟩ := id hNo
  obtain ⟨hz8, hkd, hx9, hmw⟩ := id hRM
  have hNm : nok (mx 0) b mh o l_ := RN_nok (X := (v, b, h, o, l_)) ⟨hx0, rfl, hmh, rfl, rfl, hl0⟩ hN
  have hRNx : RN (v, b, h, o, l_) (mx 0) b mh o l_ := ⟨hx0, rfl, hmh, rfl, rfl, hl0⟩
  have hrk : ∀ k, k < 6 → rk ((mu, ml, mx 9) : RS) k := tS6_rk hS6 ht
  refine ⟨(aWst v b h o A1 A2), _, _, zfr_i (cr := [(textW g (d 0) tx n c_ k s_ e_ f m_), (netW g (d 2) dx v0 b0 h0 o0 l0), (threeW g (d 3) px t), (threeW g (d 4) rx u), (noteW g (d 5) e5 y X T sz nx), [((d 6), .inl (g.2 5, 2, .inr (.inr (.inr (.inr (rA [k0, k1]))))))], (threeW g k0 X0 T0), (threeW g k1 X1 T1), [((d 7), .inl (g.2 2, 2, .inl (aI fk)))], (recW g (d 8) cx_ w_), [flw (d 10) g0 g1 g2 g3], [((d 11), .inl (g.2 4, 3, .inr (.inr (.inr (.inr (rA [s0, s1, s2]))))))], (storeW g s0 xs0 tt0 nn0 fa0 fb0 fp0), (storeW g s1 xs1 tt1 nn1 fa1 fb1 fp1), (storeW g s2 xs2 tt2 nn2 fa2 fb2 fp2)]) (c_X9_worst l g q d gx v b h o l_ p0 p1 p2 p3 A1 A2 hN (by first | assumption | omega) (by first | assumption | omega)) (by decide) zXm_0 [0, 2, 12] [1, 3, 4, 5, 6, 7, 8, 9, 10, 11, 13, 14, 15, 16, 17] rfl rfl rfl (fun (u_ : Int × Int × Int × Int) => ((d, tx, n, c_, k, s_, e_, f, m_, gx, v, b, h, o, l_, dx, v0, b0, h0, o0, l0, px, t, rx, u, e5, y, X, T, sz, nx, k0, k1, X0, T0, X1, T1, fk, cx_, w_, u_.1, u_.2.1, u_.2.2.1, u_.2.2.2, g0, g1, g2, g3, s0, xs0, tt0, nn0, fa0, fb0, fp0, s1, xs1, tt1, nn1, fa1, fb1, fp1, s2, xs2, tt2, nn2, fa2, fb2, fp2) : DS)) (deskL g q) [15, 0, 16, 1, 2, 3, 4, 5, 6, 7, 8, 9, 17, 10, 11, 12, 13, 14] rfl (fun _ => rfl) (aWst v b h o A1 A2) (fun _ _ => rfl), zfr_i (cr := [[((ma 0), .inl (g.2 1, 88, .inr (.inl (aL mu))))], [((ma 1), .inl (g.2 1, 88, .inr (.inl (aL ml))))], [((ma 4), .inl (g.2 0, 6, .inl (aI l_)))], [((ma 5), .inl (g.2 2, 2, .inl (aI mk)))], [((ma 6), .inl (g.2 0, 200, .inl (aI f)))], [((ma 7), .inl (g.2 0, 3, .inl (aI mz)))], [((ma 8), .inl (g.2 0, 24, .inl (aI mkd)))], [((ma 9), .inl (g.2 0, 24, .inl (aI mfa)))], [((ma 10), .inl (g.2 0, 24, .inl (aI mfb)))], [((ma 11), .inl (g.2 0, 4, .inl (aI mn)))], [((ma 12), .inl (g.2 0, 24, .inl (aI mw)))]]) (c_X10_worst l g r ma mx b mh o l_ mp mwh A1 A2 hNm hx1 (by first | assumption | omega) (by first | assumption | omega)) (by decide) zXm_0 [0, 3, 4, 14, 15] [1, 2, 5, 6, 7, 8, 9, 10, 11, 12, 13] rfl rfl rfl (fun (u_ : (Nat → Int) × (Nat → Int) × (Nat → Int)) => ((ma, u_.1, mu, ml, mh, o, l_, mk, f, mz, mkd, mfa, mfb, mn, mw, u_.2.1, u_.2.2) : MS)) (mdlL g r) [11, 0, 1, 12, 13, 2, 3, 4, 5, 6, 7, 8, 9, 10, 14, 15] rfl (fun _ => rfl) (aWst v b h o A1 A2) (fun _ _ => by rw [hx0, aWst_c hmh]), ?_⟩
  rintro _ _ ⟨uD, huD, rfl⟩ ⟨uM, huM, rfl⟩
  exact ⟨⟨hT1, hT2, (huM 3 (by decide)).trans hx3, rfl⟩, ⟨hN, hh0, (huM 1 (by decide)).trans hx1, (huM 0 (by decide)).trans hx0, hmh, rfl, rfl, hl0⟩, hRP, ⟨hNo, (huM 2 (by decide)).trans hx2⟩, hRK, hS0, hS1, hS2, ⟨hz8, hkd, by first | exact hx9 | (rw [huM 9 (by decide)]; exact hx9), hmw⟩⟩
set_option maxHeartbeats 4000000 in
set_option maxRecDepth 100000 in
theorem pr_match (l : Launch) (g : zG) (q r t1 t2 : Nat) (xs vs : Nat → Nat) (s : DS) (z : MS) (hR : REL s z) (A1 : Int) (hA1 : -2147483648 ≤ A1 ∧ A1 < 2147483648) : PrI l g q r yX9_match wsX9_match yX10_match wsX10_match [vI A1] (zXL t1 t2 xs vs) s z := by
  obtain ⟨d, tx, n, c_, k, s_, e_, f, m_, gx, v, b, h, o, l_, dx, v0, b0, h0, o0, l0, px, t, rx, u, e5, y, X, T, sz, nx, k0, k1, X0, T0, X1, T1, fk, cx_, w_, p0, p1, p2, p3, g0, g1, g2, g3, s0, xs0, tt0, nn0, fa0, fb0, fp0, s1, xs1, tt1, nn1, fa1, fb1, fp1, s2, xs2, tt2, nn2, fa2, fb2, fp2⟩ := s
  obtain ⟨ma, mx, mu, ml, mh, mo, mll, mk, mf, mz, mkd, mfa, mfb, mn, mw, mp, mwh⟩ := z
  have hR0 := hR
  obtain ⟨hRT, hRG, hRP, hRN, hRK, hS0, hS1, hS2, hRM⟩ := hR
  have hmf : f = mf := hRT.2.2.2.symm
  have hmo : o = mo := hRG.2.2.2.2.2.1.symm
  have hml : l_ = mll := hRG.2.2.2.2.2.2.1.symm
  subst hmf hmo hml
  have hRT : RT n f (mx 3) f := hRT
  have hRG : RG (v, b, h, o, l_) (mx 0) (mx 1) mh o l_ := hRG
  have hRP : RPh t ((mu, ml, mx 9) : RS) := hRP
  have hRN : (RNo sz nx T ((mu, ml, mx 9) : RS) ∧ mx 2 = (sz : Int)) := hRN
  have hRK : RKe fk T0 T1 mk ((mu, ml, mx 9) : RS) := hRK
  have hS0 : RSt 0 tt0 nn0 fa0 fb0 fp0 mz mkd mfa mfb := hS0
  have hS1 : RSt 1 tt1 nn1 fa1 fb1 fp1 mz mkd mfa mfb := hS1
  have hS2 : RSt 2 tt2 nn2 fa2 fb2 fp2 mz mkd mfa mfb := hS2
  have hRM : RM mz mkd (mx 9) mw := hRM
  obtain ⟨hT1, hT2, hx3, -⟩ := id hRT
  obtain ⟨hN, hh0, hx1, hx0, hmh, -, -, hl0⟩ := id hRG
  have hN : nok v b h o l_ := hN
  have hh0 : h 0 = -1 := hh0
  have hx1 : mx 1 = (b : Int) := hx1
  have hx0 : mx 0 = v := hx0
  have hmh : ∀ i, 1 ≤ i → mh i = h i := hmh
  have hl0 : l_ 0 = 0 := hl0
  obtain ⟨ht, hS6⟩ := id hRP
  obtain ⟨hNo, hx2⟩ := id hRN
  obtain ⟨hsz, hnx, hTT, hNo4⟩ := id hNo
  obtain ⟨hz8, hkd, hx9, hmw⟩ := id hRM
  have hNm : nok (mx 0) b mh o l_ := RN_nok (X := (v, b, h, o, l_)) ⟨hx0, rfl, hmh, rfl, rfl, hl0⟩ hN
  have hRNx : RN (v, b, h, o, l_) (mx 0) b mh o l_ := ⟨hx0, rfl, hmh, rfl, rfl, hl0⟩
  have hrk : ∀ k, k < 6 → rk ((mu, ml, mx 9) : RS) k := tS6_rk hS6 ht
  refine ⟨(aMat v b h o t A1), _, _, zfr_i (cr := [(textW g (d 0) tx n c_ k s_ e_ f m_), (netW g (d 2) dx v0 b0 h0 o0 l0), (threeW g (d 4) rx u), (noteW g (d 5) e5 y X T sz nx), [((d 6), .inl (g.2 5, 2, .inr (.inr (.inr (.inr (rA [k0, k1]))))))], (threeW g k0 X0 T0), (threeW g k1 X1 T1), [((d 7), .inl (g.2 2, 2, .inl (aI fk)))], (recW g (d 8) cx_ w_), [flw (d 10) g0 g1 g2 g3], [((d 11), .inl (g.2 4, 3, .inr (.inr (.inr (.inr (rA [s0, s1, s2]))))))], (storeW g s0 xs0 tt0 nn0 fa0 fb0 fp0), (storeW g s1 xs1 tt1 nn1 fa1 fb1 fp1), (storeW g s2 xs2 tt2 nn2 fa2 fb2 fp2)]) (c_X9_match l g q d gx v b h o l_ px t p0 p1 p2 p3 A1 hN ht (by first | assumption | omega)) (by decide) zXm_0 [0, 2, 4, 12] [1, 3, 5, 6, 7, 8, 9, 10, 11, 13, 14, 15, 16, 17] rfl rfl rfl (fun (u_ : Int × Int × Int × Int) => ((d, tx, n, c_, k, s_, e_, f, m_, gx, v, b, h, o, l_, dx, v0, b0, h0, o0, l0, px, t, rx, u, e5, y, X, T, sz, nx, k0, k1, X0, T0, X1, T1, fk, cx_, w_, u_.1, u_.2.1, u_.2.2.1, u_.2.2.2, g0, g1, g2, g3, s0, xs0, tt0, nn0, fa0, fb0, fp0, s1, xs1, tt1, nn1, fa1, fb1, fp1, s2, xs2, tt2, nn2, fa2, fb2, fp2) : DS)) (deskL g q) [14, 0, 15, 1, 16, 2, 3, 4, 5, 6, 7, 8, 17, 9, 10, 11, 12, 13] rfl (fun _ => rfl) (aMat v b h o t A1) (fun _ _ => rfl), zfr_i (cr := [[((ma 4), .inl (g.2 0, 6, .inl (aI l_)))], [((ma 5), .inl (g.2 2, 2, .inl (aI mk)))], [((ma 6), .inl (g.2 0, 200, .inl (aI f)))], [((ma 7), .inl (g.2 0, 3, .inl (aI mz)))], [((ma 8), .inl (g.2 0, 24, .inl (aI mkd)))], [((ma 9), .inl (g.2 0, 24, .inl (aI mfa)))], [((ma 10), .inl (g.2 0, 24, .inl (aI mfb)))], [((ma 11), .inl (g.2 0, 4, .inl (aI mn)))], [((ma 12), .inl (g.2 0, 24, .inl (aI mw)))]]) (c_X10_match l g r ma mx ((mu, ml, mx 9) : RS) b mh o l_ mp mwh t A1 hNm hx1 hS6 ht (by first | assumption | omega)) (by decide) zXm_0 [0, 1, 2, 3, 4, 14, 15] [5, 6, 7, 8, 9, 10, 11, 12, 13] rfl rfl rfl (fun (u_ : (Nat → Int) × (Nat → Int) × (Nat → Int) × RS) => ((ma, u_.1, u_.2.2.2.1, u_.2.2.2.2.1, mh, o, l_, mk, f, mz, mkd, mfa, mfb, mn, mw, u_.2.1, u_.2.2.1) : MS)) (mdlL g r) [9, 10, 11, 12, 13, 0, 1, 2, 3, 4, 5, 6, 7, 8, 14, 15] rfl (fun _ => rfl) (aMat v b h o t A1) (fun _ _ => by rw [hx0, aMat_c hmh]), ?_⟩
  rintro _ _ ⟨uD, huD, rfl⟩ ⟨uM, huM, rfl⟩
  exact ⟨⟨hT1, hT2, (huM.1 3 (by decide)).trans hx3, rfl⟩, ⟨hN, hh0, (huM.1 1 (by decide)).trans hx1, (huM.1 0 (by decide)).trans hx0, hmh, rfl, rfl, hl0⟩, ⟨ht, tS6_e (T := uM.2.2.2) hS6 (e66_78 huM.2)⟩, ⟨RNo_ext (S' := uM.2.2.2) hNo (fun j _ hj => e66_v (e66_78 huM.2) (by omega)), (huM.1 2 (by decide)).trans hx2⟩, RKe_ext (S' := uM.2.2.2) hRK (fun j _ hj => e66_v (e66_78 huM.2) hj), hS0, hS1, hS2, ⟨hz8, hkd, by first | exact hx9 | (rw [huM.1 9 (by decide)]; exact hx9), hmw⟩⟩
