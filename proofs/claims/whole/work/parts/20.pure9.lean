theorem hereR {t : Nat → Int} {L : Nat} (h : okT t L) (p : Nat) : inR (if p < L then t p else 0) := by
  split
  · have := h.2 p (by omega)
    omega
  · omega
theorem here_iff (t : Nat → Int) (L p : Nat) (x : Int) (hx : x ≠ 0) : (if p < L then t p else 0) = x ↔ (p < L ∧ t p = x) := by
  split <;> omega
theorem wdV_R (t : Nat → Int) (p n : Nat) : inR (wdV t p n) := by
  have := wv_b t p n
  unfold wdV
  split <;> omega
theorem rdS_end {t : Nat → Int} {L p : Nat} {v : Nat → Int} {f : Nat} (h : ¬ p < L) : rdS t L p v f = (-1004, 0, v) := by
  cases f with
  | zero => rfl
  | succ f => rw [rdS, if_neg h]
theorem rdS_go {t : Nat → Int} {L p : Nat} {v : Nat → Int} {f : Nat} (h : p < L) (hf : 1 ≤ f) (h0 : (stm t L p v).1 = 0) : rdS t L p v f = rdS t L (stm t L p v).2.1 (stm t L p v).2.2 (f - 1) := by
  obtain ⟨f, rfl⟩ : ∃ f', f = f' + 1 := ⟨f - 1, by omega⟩
  rw [rdS, if_pos h, if_pos h0]
  rfl
theorem rdS_bad {t : Nat → Int} {L p : Nat} {v : Nat → Int} {f : Nat} (h : p < L) (hf : 1 ≤ f) (h0 : (stm t L p v).1 ≠ 0) : rdS t L p v f = (((p : Nat) : Int), (stm t L p v).1, (stm t L p v).2.2) := by
  obtain ⟨f, rfl⟩ : ∃ f', f = f' + 1 := ⟨f - 1, by omega⟩
  rw [rdS, if_pos h, if_neg h0]
