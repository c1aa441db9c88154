def eHM (w : Nat) (f : Nat → Int) (n e b : Nat) (h : Nat → Int) : Nat → Int := match w with
  | 2 => uI h b (nVl f n (nEn f n e))
  | _ => h
def eLM (w : Nat) (f : Nat → Int) (n e b : Nat) (k : Nat → Int) : Nat → Int := match w with
  | 2 => uI k b 0
  | 3 => uI k (nVl f n (nEn f n e)).toNat (nVl f n (nEn f n (nEn f n e)))
  | _ => k
theorem cOk3 {f : Nat → Int} {n e b : Nat} (h : cOkW 3 f n e b = 1) : nOk f n (nEn f n e) 1 ((b : Int) - 1) = 1 ∧ nOk f n (nEn f n (nEn f n e)) 0 999 = 1 := by
  have h0 : (if nOk f n (nEn f n e) 1 ((b : Int) - 1) = 1 then nOk f n (nEn f n (nEn f n e)) 0 999 else 0) = 1 := h
  by_cases hq : nOk f n (nEn f n e) 1 ((b : Int) - 1) = 1
  · rw [if_pos hq] at h0; exact ⟨hq, h0⟩
  · rw [if_neg hq] at h0; exact absurd h0 (by decide)
def RN (X : NT5) (v : Int) (b : Nat) (h o k : Nat → Int) : Prop := v = X.1 ∧ b = X.2.1 ∧ (∀ i, 1 ≤ i → h i = X.2.2.1 i) ∧ o = X.2.2.2.1 ∧ k = X.2.2.2.2 ∧ k 0 = 0
theorem uR {h g : Nat → Int} (q : ∀ i, 1 ≤ i → h i = g i) (j : Nat) (a : Int) : ∀ i, 1 ≤ i → uI h j a i = uI g j a i := by
  intro i hi
  unfold uI
  split
  · rfl
  · exact q i hi
theorem uR0 {h g : Nat → Int} (q : ∀ i, 1 ≤ i → h i = g i) (a : Int) : ∀ i, 1 ≤ i → h i = uI g 0 a i := fun i hi => by rw [uI_n (by omega)]; exact q i hi
theorem uI_id {h : Nat → Int} {j : Nat} {a : Int} (q : h j = a) : uI h j a = h := by
  funext i
  unfold uI
  split
  · rename_i e; rw [e, q]
  · rfl
theorem RN_eff {f : Nat → Int} {n e : Nat} {X : NT5} {v : Int} {b : Nat} {h o k : Nat → Int} (hR : RN X v b h o k) (hc : cOk f n e X.2.1 = 1) (hn : nok5 X) : RN (eff f n e X) (eVW (cWd f n e) f n e v) (eBW (cWd f n e) b) (eHM (cWd f n e) f n e b h) (eOW (cWd f n e) f n e b o) (eLM (cWd f n e) f n e b k) := by
  obtain ⟨h1, h2, h3, h4, h5, h6⟩ := hR
  have hb1 := hn.2.2.1
  have hw := cWd_le f n e
  unfold cOk at hc
  unfold RN eff
  subst h1 h2 h4 h5
  rcases (show cWd f n e = 0 ∨ cWd f n e = 1 ∨ cWd f n e = 2 ∨ cWd f n e = 3 ∨ cWd f n e = 4 by omega) with w | w | w | w | w
  · rw [w]
    exact ⟨rfl, rfl, uR0 h3 (-1), rfl, (uI_id h6).symm, h6⟩
  · rw [w]
    exact ⟨rfl, rfl, h3, rfl, rfl, h6⟩
  · rw [w]
    exact ⟨rfl, rfl, uR h3 _ _, rfl, rfl, (uI_n (by omega)).trans h6⟩
  · rw [w] at hc ⊢
    have h7 := nOk_v (cOk3 hc).1
    exact ⟨rfl, rfl, h3, rfl, rfl, (uI_n (by omega)).trans h6⟩
  · rw [w] at hc
    exact absurd (show (0 : Int) = 1 from hc) (by decide)
theorem RN_nok {X : NT5} {v : Int} {b : Nat} {h o k : Nat → Int} (hR : RN X v b h o k) (hn : nok5 X) : nok v b h o k := by
  obtain ⟨h1, h2, h3, h4, h5, h6⟩ := hR
  obtain ⟨n1, n2, n3, n4, n5, n6, n7⟩ := hn
  subst h1 h2 h4 h5
  refine ⟨n1, n2, n3, n4, fun i i1 i2 => ?_, n6, n7⟩
  rw [h3 i i1]
  exact n5 i i1 i2
def RDI (f : Nat → Int) (n : Nat) (X0 : NT5) (z : Int) (e2 c : Nat) (X : NT5) : Prop := (z = 1 → ∃ (m e : Nat) (Y : NT5) (c0 : Nat), pA f n 24 0 X0 0 = pA f n (m + 1) e Y c0 ∧ cOk f n e Y.2.1 = 1 ∧ e2 = cPs f n e Y.2.1 ∧ X = eff f n e Y ∧ c = c0 + 1 ∧ m + c = 24) ∧ (z = 0 → (pA f n 24 0 X0 0).1 = (tS f n e2 : Int))
section
variable {f : Nat → Int} {n : Nat} {X0 X : NT5} {z : Int} {e2 c : Nat}
theorem RD_stop (h : RDI f n X0 z e2 c X) (hz : z = 1) (hl : tS f n e2 < n) (hs : 24 ≤ c ∨ ¬ f (tS f n e2) = 59) : (pA f n 24 0 X0 0).1 = (tS f n e2 : Int) := by
  obtain ⟨m, e, Y, c0, h1, h2, h3, h4, h5, h6⟩ := h.1 hz
  have h7 := kdA_s f n (tS f n e2)
  have h8 := kdO_s (f (tS f n e2))
  have h9 := smc_s f (kdA f n (tS f n e2)) (tS f n e2)
  subst h3
  rw [h1, pA_end (by omega) h2 (fun q => by omega)]
  show (if _ then _ else _) = _
  rw [if_neg (by omega)]
theorem RD_end (h : RDI f n X0 z e2 c X) (hz : z = 1) (hl : ¬ tS f n e2 < n) : pA f n 24 0 X0 0 = (-1, X, c) := by
  obtain ⟨m, e, Y, c0, h1, h2, h3, h4, h5, h6⟩ := h.1 hz
  have h7 := kdA_s f n (tS f n e2)
  have h9 := smc_s f (kdA f n (tS f n e2)) (tS f n e2)
  subst h3 h4 h5
  rw [h1, pA_end (by omega) h2 (fun q => by omega), if_pos (by omega)]
theorem RD_go (h : RDI f n X0 z e2 c X) (hz : z = 1) (hl : tS f n e2 < n) (hc : c < 24) (hs : f (tS f n e2) = 59) : pA f n 24 0 X0 0 = pA f n (23 - c + 1) (nEn f n e2) X c := by
  obtain ⟨m, e, Y, c0, h1, h2, h3, h4, h5, h6⟩ := h.1 hz
  have h7 := kdA_s f n (tS f n e2)
  have h8 := kdO_s (f (tS f n e2))
  have h9 := smc_s f (kdA f n (tS f n e2)) (tS f n e2)
  subst h3 h4 h5
  rw [h1, pA_go (by omega) h2 (by omega) (by omega), show m + 1 - 1 = 23 - (c0 + 1) + 1 by omega]
def effc (f : Nat → Int) (n e : Nat) (X : NT5) : NT5 := if cOk f n e X.2.1 = 1 then eff f n e X else X
theorem effc_y {e : Nat} {Y : NT5} (h : cOk f n e Y.2.1 = 1) : effc f n e Y = eff f n e Y := if_pos h
theorem effc_n {e : Nat} {Y : NT5} (h : ¬ cOk f n e Y.2.1 = 1) : effc f n e Y = Y := if_neg h
theorem effc_ok {e : Nat} {Y : NT5} (h : nok5 Y) : nok5 (effc f n e Y) := by
  by_cases q : cOk f n e Y.2.1 = 1
  · rw [effc_y q]; exact nok_eff h q
  · rw [effc_n q]; exact h
theorem RD_next {m e c0 e3 : Nat} {Y : NT5} (hT : pA f n 24 0 X0 0 = pA f n (m + 1) e Y c0) (hm : m + (c0 + 1) = 24) (hz : z = cOk f n e Y.2.1) (h1 : cOk f n e Y.2.1 = 1 → e3 = cPs f n e Y.2.1) (h2 : ¬ cOk f n e Y.2.1 = 1 → tS f n e3 = cPs f n e Y.2.1) : RDI f n X0 z e3 (c0 + 1) (effc f n e Y) := by
  refine ⟨fun q => ?_, fun q => ?_⟩
  · have h3 : cOk f n e Y.2.1 = 1 := hz ▸ q
    exact ⟨m, e, Y, c0, hT, h3, h1 h3, effc_y h3, rfl, hm⟩
  · have h3 : ¬ cOk f n e Y.2.1 = 1 := by rw [← hz, q]; decide
    rw [hT, pA_bad (by omega) h3, h2 h3]
theorem RD_no {m e c0 : Nat} {Y : NT5} (hT : pA f n 24 0 X0 0 = pA f n (m + 1) e Y c0) (h : ¬ cOk f n e Y.2.1 = 1) : ¬ (pA f n 24 0 X0 0).1 = -1 := by
  rw [hT, pA_bad (by omega) h]
  show ¬ ((cPs f n e Y.2.1 : Nat) : Int) = -1
  omega
theorem eBW_e {e : Nat} {Y : NT5} {b2 b : Nat} (hb : Y.2.1 = b) (h1 : cOk f n e b = 1 → b2 = eBW (cWd f n e) b) (h2 : ¬ cOk f n e b = 1 → b2 = b) : (effc f n e Y).2.1 = b2 := by
  subst hb
  by_cases q : cOk f n e Y.2.1 = 1
  · rw [effc_y q, h1 q]; rfl
  · rw [effc_n q, h2 q]
end
def kx48 (x y : Nat → Int) : Prop := ∀ j, j < 4 ∨ 8 < j → y j = x j
def rdz (v : Int) : Int := if v = -1 then 1 else 0
theorem rdz_s (v : Int) : (rdz v = 0 ∨ rdz v = 1) ∧ (rdz v = 1 ↔ v = -1) := by unfold rdz; split <;> simp_all
def cl6 (f : Nat → Int) (v : Int) : Nat → Int := uI (uI (uI (uI (uI (uI f 0 v) 1 v) 2 v) 3 v) 4 v) 5 v
theorem o18 : (uI (uI (uI (uI (uI (uI (uI (uI (uI (uI (uI (uI (uI (uI (uI (uI (uI (uI (fun _ => 0) 0 1) 1 1) 2 1) 3 0) 4 0) 5 0) 6 0) 7 0) 8 0) 9 0) 10 0) 11 0) 12 0) 13 0) 14 0) 15 0) 16 0) 17 0) = rs3 (fun _ => 0) 0 1 1 1 := by
  funext i
  match i with
  | 0 | 1 | 2 | 3 | 4 | 5 | 6 | 7 | 8 | 9 | 10 | 11 | 12 | 13 | 14 | 15 | 16 | 17 => rfl
  | k + 18 => simp [uI, rs3]
