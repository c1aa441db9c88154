theorem rLy_t {to : Nat} {a b : Int} {S : RS} : (rLy to a b S).1 to = a / gd a b ∧ (rLy to a b S).2.1 to = b / gd a b := ⟨uI_s, uI_s⟩
theorem tlF_e {to : Nat} {a b j : Int} {S : RS} : (if j = 0 then (rLy to a b S).1 to else (rLy to a b S).2.1 to) = tlF a b j := by
  unfold tlF
  rw [rLy_t.1, rLy_t.2]
