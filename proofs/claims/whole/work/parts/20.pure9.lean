theorem hereR {t : Nat → Int} {L : Nat} (h : okT t L) (p : Nat) : inR (if p < L then t p else 0) := by
  split
  · have := h.2 p (by omega)
    omega
  · omega
theorem here_iff (t : Nat → Int) (L p : Nat) (x : Int) (hx : x ≠ 0) : (if p < L then t p else 0) = x ↔ (p < L ∧ t p = x) := by
  split <;> omega
theorem wdV_R (t : Nat → Int) (p n : Nat) : inR (wdV t p n) := by
  have := wv_b t p n
  unfold wdV
  split <;> omega
