def rFd (r x : Nat) (S : RS) : RS :=
  if r = 0 then rAd 82 x 1 S else if r = 1 then rAd 82 x 1 (rTn 82 S) else if r = 2 then (if (rNm 79 x (rNm 78 82 S)).2.2 = 0 ∧ rGt 79 78 (rNm 79 x (rNm 78 82 S)) = 1 then rCp 82 x (rNm 79 x (rNm 78 82 S)) else rNm 79 x (rNm 78 82 S)) else rAd 82 x (-1) S
theorem rFd_2y {x : Nat} {S T : RS} (e : T = rNm 79 x (rNm 78 82 S)) (h : T.2.2 = 0) (g : rGt 79 78 T = 1) : rFd 2 x S = rCp 82 x T := by
  subst e
  unfold rFd; rw [if_neg (by decide), if_neg (by decide), if_pos rfl, if_pos ⟨h, g⟩]
theorem rFd_2n {x : Nat} {S T : RS} (e : T = rNm 79 x (rNm 78 82 S)) (h : ¬ T.2.2 = 0) : rFd 2 x S = T := by
  subst e
  unfold rFd; rw [if_neg (by decide), if_neg (by decide), if_pos rfl, if_neg (fun q => h q.1)]
theorem rFd_2m {x : Nat} {S T : RS} (e : T = rNm 79 x (rNm 78 82 S)) (h : ¬ rGt 79 78 T = 1) : rFd 2 x S = T := by
  subst e
  unfold rFd; rw [if_neg (by decide), if_neg (by decide), if_pos rfl, if_neg (fun q => h q.2)]
