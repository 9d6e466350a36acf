def opApn (tx : Nat → Int) (n : Nat) (c : Int) : Int × (Nat → Int) × Nat := if 32 ≤ c ∧ c ≤ 126 then (if n = 400 then (-1003, tx, n) else ((((n + 1) : Nat) : Int), uI tx n c, n + 1)) else (-1001, tx, n)
theorem okR_setCh {v : Nat → Int} (h : okR v) {r : Nat} (hr : r < 8) {o i : Int} (ho : 0 ≤ o ∧ o ≤ 60) (hi : 0 ≤ i ∧ i ≤ 60) : okR (setCh v r o i) := by
  have e0 : ∀ k, k ≠ 20 + r → k ≠ 28 + r → setCh v r o i k = v k := fun k a b => by unfold setCh; rw [uI_n b, uI_n a]
  have e1 : setCh v r o i (20 + r) = o := by unfold setCh; rw [uI_n (by omega), uI_s]
  have e2 : setCh v r o i (28 + r) = i := by unfold setCh; rw [uI_s]
  refine ⟨by rw [e0 0 (by omega) (by omega)]; exact h.1, by rw [e0 11 (by omega) (by omega)]; exact h.2.1, by rw [e0 44 (by omega) (by omega)]; exact h.2.2.1, fun j hj => by rw [e0 _ (by omega) (by omega)]; exact h.2.2.2.1 j hj, fun q hq => ?_, fun a ha => ?_, fun a ha => ?_⟩
  · have h5 := h.2.2.2.2.1 q hq
    rw [e0 (12 + q) (by omega) (by omega), e0 (36 + q) (by omega) (by omega)]
    by_cases e : q = r
    · subst e
      rw [e1, e2]
      exact ⟨h5.1, ho, hi, h5.2.2.2⟩
    · rw [e0 (20 + q) (by omega) (by omega), e0 (28 + q) (by omega) (by omega)]
      exact h5
  · rw [e0 (45 + (4 * a)) (by omega) (by omega), e0 ((45 + (4 * a)) + 1) (by omega) (by omega), e0 ((45 + (4 * a)) + 2) (by omega) (by omega), e0 ((45 + (4 * a)) + 3) (by omega) (by omega)]
    exact h.2.2.2.2.2.1 a ha
  · rw [e0 44 (by omega) (by omega)] at ha
    rw [e0 (45 + (4 * a)) (by omega) (by omega), e0 ((45 + (4 * a)) + 1) (by omega) (by omega), e0 ((45 + (4 * a)) + 2) (by omega) (by omega), e0 ((45 + (4 * a)) + 3) (by omega) (by omega), e0 11 (by omega) (by omega), e0 0 (by omega) (by omega)]
    exact h.2.2.2.2.2.2 a ha
theorem nr_eq {v w : Nat → Int} (h : w 11 = v 11) : nr w = nr v := by unfold nr; rw [h]
theorem na_eq {v w : Nat → Int} (h : w 44 = v 44) : na w = na v := by unfold na; rw [h]
theorem ns_eq {v w : Nat → Int} (h : w 0 = v 0) : ns w = ns v := by unfold ns; rw [h]
theorem okR_actU {v : Nat → Int} (h : okR v) {r : Nat} {x : Int} (hr : r < 8) (hx : -1 ≤ x ∧ x ≤ 7) : okR (uI v (36 + r) x) := by
  refine okR_act h (fun k hk => uI_n (by omega)) (fun q hq => ?_)
  by_cases e : q = r
  · rw [e, uI_s]; exact hx
  · rw [uI_n (by omega)]; exact (h.2.2.2.2.1 q hq).2.2.2
