/-! new cells -/
def zI (I : Mi) (N : Nat) : Mi := fun k => if k = N then fun _ => 0 else I k
def zF (F : Mr) (N : Nat) : Mr := fun k => if k = N then fun _ => none else F k
theorem new_at {E : EE} {N : Nat} {I : Mi} {F : Mr} {q : Nat} {e : va_E} (hq : q ≤ pb E + N) (hD : va_D (fun q => pb E ≤ q) (wsOf E N I F ++ [(q, e)])) : q = pb E + N := by
  have hlast : (wsOf E N I F ++ [(q, e)])[N]? = some (q, e) := by
    rw [List.getElem?_append_right (by rw [wsOf_len]; exact Nat.le_refl _), wsOf_len, Nat.sub_self]; rfl
  have h0 : pb E ≤ q := hD.2 N _ hlast
  rcases Nat.lt_or_ge q (pb E + N) with h | h
  · have h1 : (wsOf E N I F ++ [(q, e)])[q - pb E]? = some (pb E + (q - pb E), cellOf E I F (q - pb E)) := by
      rw [List.getElem?_append_left (by rw [wsOf_len]; omega)]
      exact wsOf_get (by omega)
    have := hD.1 (q - pb E) N _ _ h1 hlast (by show pb E + (q - pb E) = q; omega)
    omega
  · omega

