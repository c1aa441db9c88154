def cWd (f : Nat → Int) (n e : Nat) : Nat := if wdN f (kdA f n (tS f n e)) (tS f n e) (nEn f n e) = 1 then 0 else if wdS f (kdA f n (tS f n e)) (tS f n e) (nEn f n e) = 1 then 1 else if wdB f (kdA f n (tS f n e)) (tS f n e) (nEn f n e) = 1 then 2 else if wdR f (kdA f n (tS f n e)) (tS f n e) (nEn f n e) = 1 then 3 else 4
def cOkW (w : Nat) (f : Nat → Int) (n e b : Nat) : Int := match w with
  | 0 => nOk f n (nEn f n e) 1 99
  | 1 => oOk f n (nEn f n e)
  | 2 => if b = 6 then 0 else if nOk f n (nEn f n e) 0 ((b : Int) - 1) = 1 then oOk f n (nEn f n (nEn f n e)) else 0
  | 3 => if nOk f n (nEn f n e) 1 ((b : Int) - 1) = 1 then nOk f n (nEn f n (nEn f n e)) 0 999 else 0
  | _ => 0
def cPsW (w : Nat) (f : Nat → Int) (n e b : Nat) : Nat := match w with
  | 0 => if nOk f n (nEn f n e) 1 99 = 1 then nEn f n (nEn f n e) else tS f n (nEn f n e)
  | 1 => oPs f n (nEn f n e)
  | 2 => if b = 6 then tS f n e else if nOk f n (nEn f n e) 0 ((b : Int) - 1) = 1 then oPs f n (nEn f n (nEn f n e)) else tS f n (nEn f n e)
  | 3 => if nOk f n (nEn f n e) 1 ((b : Int) - 1) = 1 then (if nOk f n (nEn f n (nEn f n e)) 0 999 = 1 then nEn f n (nEn f n (nEn f n e)) else tS f n (nEn f n (nEn f n e))) else tS f n (nEn f n e)
  | _ => tS f n e
def eVW (w : Nat) (f : Nat → Int) (n e : Nat) (v : Int) : Int := match w with
  | 0 => nVl f n (nEn f n e)
  | _ => v
def eBW (w : Nat) (b : Nat) : Nat := match w with
  | 0 => 1
  | 2 => b + 1
  | _ => b
def eHW (w : Nat) (f : Nat → Int) (n e b : Nat) (h : Nat → Int) : Nat → Int := match w with
  | 0 => uI h 0 (-1)
  | 2 => uI h b (nVl f n (nEn f n e))
  | _ => h
def eOW (w : Nat) (f : Nat → Int) (n e b : Nat) (o : Nat → Int) : Nat → Int := match w with
  | 0 => rs3 o 0 1 1 1
  | 1 => rs3 o 0 (oV0 f n (nEn f n e)) (oV1 f n (nEn f n e)) (oV2 f n (nEn f n e))
  | 2 => rs3 o b (oV0 f n (nEn f n (nEn f n e))) (oV1 f n (nEn f n (nEn f n e))) (oV2 f n (nEn f n (nEn f n e)))
  | _ => o
def eLW (w : Nat) (f : Nat → Int) (n e b : Nat) (k : Nat → Int) : Nat → Int := match w with
  | 0 => uI k 0 0
  | 2 => uI k b 0
  | 3 => uI k (nVl f n (nEn f n e)).toNat (nVl f n (nEn f n (nEn f n e)))
  | _ => k
def cOk (f : Nat → Int) (n e b : Nat) : Int := cOkW (cWd f n e) f n e b
def cPs (f : Nat → Int) (n e b : Nat) : Nat := cPsW (cWd f n e) f n e b
theorem cWd_0 {f : Nat → Int} {n e : Nat} (h : wdN f (kdA f n (tS f n e)) (tS f n e) (nEn f n e) = 1) : cWd f n e = 0 := if_pos h
theorem cWd_1 {f : Nat → Int} {n e : Nat} (h0 : ¬ wdN f (kdA f n (tS f n e)) (tS f n e) (nEn f n e) = 1) (h : wdS f (kdA f n (tS f n e)) (tS f n e) (nEn f n e) = 1) : cWd f n e = 1 := by unfold cWd; rw [if_neg h0, if_pos h]
theorem cWd_2 {f : Nat → Int} {n e : Nat} (h0 : ¬ wdN f (kdA f n (tS f n e)) (tS f n e) (nEn f n e) = 1) (h1 : ¬ wdS f (kdA f n (tS f n e)) (tS f n e) (nEn f n e) = 1) (h : wdB f (kdA f n (tS f n e)) (tS f n e) (nEn f n e) = 1) : cWd f n e = 2 := by unfold cWd; rw [if_neg h0, if_neg h1, if_pos h]
theorem cWd_3 {f : Nat → Int} {n e : Nat} (h0 : ¬ wdN f (kdA f n (tS f n e)) (tS f n e) (nEn f n e) = 1) (h1 : ¬ wdS f (kdA f n (tS f n e)) (tS f n e) (nEn f n e) = 1) (h2 : ¬ wdB f (kdA f n (tS f n e)) (tS f n e) (nEn f n e) = 1) (h : wdR f (kdA f n (tS f n e)) (tS f n e) (nEn f n e) = 1) : cWd f n e = 3 := by unfold cWd; rw [if_neg h0, if_neg h1, if_neg h2, if_pos h]
theorem cWd_4 {f : Nat → Int} {n e : Nat} (h0 : ¬ wdN f (kdA f n (tS f n e)) (tS f n e) (nEn f n e) = 1) (h1 : ¬ wdS f (kdA f n (tS f n e)) (tS f n e) (nEn f n e) = 1) (h2 : ¬ wdB f (kdA f n (tS f n e)) (tS f n e) (nEn f n e) = 1) (h : ¬ wdR f (kdA f n (tS f n e)) (tS f n e) (nEn f n e) = 1) : cWd f n e = 4 := by unfold cWd; rw [if_neg h0, if_neg h1, if_neg h2, if_neg h]
theorem nOk_v {f : Nat → Int} {n e : Nat} {a b : Int} (h : nOk f n e a b = 1) : a ≤ nVl f n e ∧ nVl f n e ≤ b := ((nOk_s f n e a b).2.mp h).2.2
theorem nEn_s (f : Nat → Int) {n e : Nat} (he : e ≤ n) : e ≤ tS f n e ∧ tS f n e ≤ nEn f n e ∧ nEn f n e ≤ n := by
  have := tok_s f he
  unfold nEn
  omega
