theorem up2 (a b : Nat) : va_up (va_up (fun _ => none) 0 (some a)) 1 (some b) = rA [a, b] := by
  funext i
  match i with
  | 0 => rfl
  | 1 => rfl
  | n + 2 => simp [va_up, rA]
theorem up3 (a b c : Nat) : va_up (va_up (va_up (fun _ => none) 0 (some a)) 1 (some b)) 2 (some c) = rA [a, b, c] := by
  funext i
  match i with
  | 0 => rfl
  | 1 => rfl
  | 2 => rfl
  | n + 3 => simp [va_up, rA]
theorem up8 (a b c d e f g h : Nat) : va_up (va_up (va_up (va_up (va_up (va_up (va_up (va_up (fun _ => none) 0 (some a)) 1 (some b)) 2 (some c)) 3 (some d)) 4 (some e)) 5 (some f)) 6 (some g)) 7 (some h) = rA [a, b, c, d, e, f, g, h] := by
  funext i
  match i with
  | 0 => rfl
  | 1 => rfl
  | 2 => rfl
  | 3 => rfl
  | 4 => rfl
  | 5 => rfl
  | 6 => rfl
  | 7 => rfl
  | n + 8 => simp [va_up, rA]
def lX (l : List (Nat → Nat)) : Nat → Nat → Nat := fun k => l.getD k (fun _ => 0)
def lY (l : List (Nat → FO)) : Nat → Nat → FO := fun k => l.getD k (fun _ => none)
