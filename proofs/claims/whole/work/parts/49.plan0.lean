/-! ===== the planner's own cell, and what its answers need ===== -/
abbrev pnW (h qt q1 q qs qc qh : Nat) : va_W := [(h, .inr (5, [.ref qt, .ref q1, .ref q, .ref qs, .ref qc, .ref qh]))]
theorem mk_bit (v : Nat → Int) (f : Int) (p o : Nat) : ∀ q, (mk v f p q).testBit o = true ↔ o < q ∧ p ≠ o ∧ rsn v p o f ≠ 0
  | 0 => by simp [mk]
  | q + 1 => by
    have ih := mk_bit v f p o q
    rw [mk]
    by_cases c : p ≠ q ∧ rsn v p q f ≠ 0
    · rw [if_pos c, Nat.testBit_or, Bool.or_eq_true, ih, Nat.testBit_two_pow, decide_eq_true_iff]
      constructor
      · rintro (z | z)
        · exact ⟨by omega, z.2⟩
        · subst z; exact ⟨by omega, c⟩
      · intro z
        by_cases e : q = o
        · exact Or.inr e
        · exact Or.inl ⟨by omega, z.2⟩
    · rw [if_neg c, ih]
      constructor
      · exact fun z => ⟨by omega, z.2⟩
      · intro z
        by_cases e : q = o
        · subst e; exact absurd z.2 c
        · exact ⟨by omega, z.2⟩
theorem cb_bit (v : Nat → Int) (x : Int) (o : Nat) : ∀ q, (cb v x q).testBit o = true ↔ o < q ∧ v (36 + o) = x
  | 0 => by simp [cb]
  | q + 1 => by
    have ih := cb_bit v x o q
    rw [cb]
    split
    · rename_i c
      rw [Nat.testBit_or, Bool.or_eq_true, ih, Nat.testBit_two_pow, decide_eq_true_iff]
      constructor
      · rintro (z | z)
        · exact ⟨by omega, z.2⟩
        · subst z; exact ⟨by omega, c⟩
      · intro z
        by_cases e : q = o
        · exact Or.inr e
        · exact Or.inl ⟨by omega, z.2⟩
    · rename_i c
      rw [ih]
      constructor
      · exact fun z => ⟨by omega, z.2⟩
      · intro z
        by_cases e : q = o
        · subst e; exact absurd z.2 c
        · exact ⟨by omega, z.2⟩
def rvX (v : Nat → Int) (x : Int) (r b : Nat) : Prop := ∃ o, o < b ∧ o ≠ r ∧ v (36 + o) = x ∧ rsn v r o 0 ≠ 0
theorem and_nz {a b : Nat} : a &&& b ≠ 0 ↔ ∃ i, a.testBit i = true ∧ b.testBit i = true := by
  constructor
  · intro h
    obtain ⟨i, hi⟩ := Nat.exists_testBit_of_ne_zero h
    rw [Nat.testBit_and, Bool.and_eq_true] at hi
    exact ⟨i, hi⟩
  · rintro ⟨i, h1, h2⟩ z
    have := congrArg (fun n => Nat.testBit n i) z
    rw [Nat.testBit_and, h1, h2] at this
    simp at this
theorem cast_iff (v : Nat → Int) (x : Int) (r : Nat) : Mk v 0 r &&& cb v x (nr v) ≠ 0 ↔ rvX v x r (nr v) := by
  rw [and_nz]
  unfold Mk rvX
  constructor
  · rintro ⟨o, h1, h2⟩
    rw [mk_bit] at h1
    rw [cb_bit] at h2
    exact ⟨o, h1.1, Ne.symm h1.2.1, h2.2, h1.2.2⟩
  · rintro ⟨o, h1, h2, h3, h4⟩
    exact ⟨o, (mk_bit _ _ _ _ _).mpr ⟨h1, Ne.symm h2, h4⟩, (cb_bit _ _ _ _).mpr ⟨h1, h3⟩⟩
theorem fxI_iff (M : Nat → Nat) (v : Nat → Int) (r : Nat) : ∀ q, fxI M v r q ≠ 0 ↔ ∀ p, p < q → (v (36 + r) = -1 ∨ v (36 + p) ≠ v (36 + r) ∨ M r / 2 ^ p % 2 = 0)
  | 0 => by simp [fxI]
  | q + 1 => by
    have ih := fxI_iff M v r q
    rw [fxI]
    constructor
    · intro h p hp
      split at h
      · rename_i c
        by_cases e : p = q
        · subst e; exact c.2
        · exact ih.mp c.1 p (by omega)
      · exact absurd rfl h
    · intro h
      rw [if_pos ⟨ih.mpr (fun p hp => h p (by omega)), h q (by omega)⟩]
      exact Nat.one_ne_zero
theorem fx_rv {v w : Nat → Int} {r : Nat} (hr : r < nr v) (hs : ∀ p, p < r → (rsn v r p 0 ≠ 0 ↔ rsn w r p 0 ≠ 0)) : fxI (Mk v 0) w r r = 0 ↔ (w (36 + r) ≠ -1 ∧ rvX w (w (36 + r)) r r) := by
  have h := fxI_iff (Mk v 0) w r r
  have hb : ∀ p, p < r → (Mk v 0 r / 2 ^ p % 2 = 0 ↔ ¬ rsn v r p 0 ≠ 0) := by
    intro p hp
    rw [tb_div]
    unfold Mk
    rw [mk_bit]
    constructor
    · exact fun z q => z ⟨by omega, by omega, q⟩
    · exact fun z q => z q.2.2
  constructor
  · intro z
    have n1 : ¬ fxI (Mk v 0) w r r ≠ 0 := fun q => q z
    rw [h] at n1
    have ha : w (36 + r) ≠ -1 := fun q => n1 (fun p hp => Or.inl q)
    refine ⟨ha, ?_⟩
    apply Classical.byContradiction
    intro hn
    apply n1
    intro p hp
    by_cases c : w (36 + p) = w (36 + r)
    · refine Or.inr (Or.inr ((hb p hp).mpr (fun q => hn ⟨p, hp, by omega, c, (hs p hp).mp q⟩)))
    · exact Or.inr (Or.inl c)
  · rintro ⟨ha, o, h1, h2, h3, h4⟩
    apply Classical.byContradiction
    intro hn
    rcases h.mp hn o h1 with q | q | q
    · exact ha q
    · exact q h3
    · exact (hb o h1).mp q ((hs o h1).mpr h4)
/-! rows that differ in actors only -/
def sameA (v w : Nat → Int) : Prop := ∀ k, k < 36 ∨ 44 ≤ k → w k = v k
theorem sameA.nr {v w : Nat → Int} (h : sameA v w) : nr w = nr v := nr_eq (h 11 (by omega))
theorem sameA.na {v w : Nat → Int} (h : sameA v w) : na w = na v := na_eq (h 44 (by omega))
theorem sameA.ns {v w : Nat → Int} (h : sameA v w) : ns w = ns v := ns_eq (h 0 (by omega))
theorem sameA.rl {v w : Nat → Int} (h : sameA v w) (a : Nat) : rl w a = rl v a := by show (w (45 + (4 * a))).toNat = (v (45 + (4 * a))).toNat; rw [h _ (by omega)]
theorem sameA.st {v w : Nat → Int} (h : sameA v w) (k : Nat) (hk : k ≤ 10) : st w k = st v k := st_cong k (fun i hi => h _ (by omega))
theorem sameA.sn {v w : Nat → Int} (h : sameA v w) (a : Nat) : sn w a = sn v a := by show (w ((45 + (4 * a)) + 1)).toNat = (v ((45 + (4 * a)) + 1)).toNat; rw [h _ (by omega)]
theorem sameA.tm {v w : Nat → Int} (hv : okR v) (h : sameA v w) (a : Nat) (ha : a < 20) : eT w a = eT v a ∧ xT w a = xT v a := by
  have := hv.sn10 a ha
  unfold eT xT
  rw [h.sn, h.st _ (by omega), h _ (by omega), h _ (by omega)]
  exact ⟨rfl, rfl⟩
theorem lcS_le {M : Nat → Nat} {n : Nat} : ∀ (f K : Nat), K + f = n + 1 → fc M n (lcS M n K f) ≠ none ∧ lcS M n K f ≤ n + 1
  | 0, K, h => ⟨fc_full (by show n ≤ K; omega), by show K ≤ n + 1; omega⟩
  | f + 1, K, h => by
    by_cases c : fc M n K = none
    · rw [lcS_miss c (by omega)]
      exact lcS_le f (K + 1) (by omega)
    · rw [lcS_hit c (by omega)]
      exact ⟨c, by omega⟩
theorem lc_le {M : Nat → Nat} {n : Nat} (hn : 1 ≤ n) : lc M n ≤ n := by
  have key : ∀ (f K : Nat), K + f = n + 1 → 1 ≤ f → lcS M n K f ≤ n := by
    intro f
    induction f with
    | zero => intro K _ h; omega
    | succ f ih =>
      intro K h _
      by_cases c : fc M n K = none
      · rw [lcS_miss c (by omega)]
        by_cases e : f = 0
        · subst e
          exact absurd c (fc_full (by omega))
        · exact ih (K + 1) (by omega) (by omega)
      · rw [lcS_hit c (by omega)]
        omega
  exact key n 1 (by omega) hn
theorem fcG_ok {M : Nat → Nat} {n : Nat} : fc M n (lc M n) = some (fcG M n) := by
  have h := (lcS_le (M := M) (n := n) n 1 (by omega)).1
  cases e : fc M n (lc M n) with
  | none => exact absurd e h
  | some g => unfold fcG; rw [e]; rfl
theorem fcG_s {M : Nat → Nat} {n : Nat} (q : Nat) (hq : q < n) : (0 ≤ fcG M n q ∧ fcG M n q < ((lc M n : Nat) : Int)) ∧ fitsAt M (fcG M n) q := (srch_sound n 0 _ _ (by omega) fcG_ok).2 q (by omega) hq
theorem fcG_b {M : Nat → Nat} {n q : Nat} (hn : n ≤ 8) (hq : q < n) : 0 ≤ fcG M n q ∧ fcG M n q < 8 := by
  have h := (fcG_s (M := M) q hq).1
  have h2 := lc_le (M := M) (n := n) (by omega)
  omega
