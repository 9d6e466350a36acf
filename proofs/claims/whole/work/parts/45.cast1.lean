/-! ===== casting: the steps of the class ===== -/
theorem ps_eq {M : Nat → Nat} {n K d r u : Nat} {g : Nat → Int} (h : r + (d + 1) = n) : ps M n K (d + 1) g u = trF M r (min (u + 1) K) (fun g' => ps M n K d g' (max u ((g' r).toNat + 1))) g (min (u + 1) K) := by
  rw [ps, show n - (d + 1) = r by omega]
theorem tra_no {M : Nat → Nat} {r K a : Nat} {rec : (Nat → Int) → Option (Nat → Int)} {g : Nat → Int} (ha : a < K) (hm : mhI g (M r) ((a : Nat) : Int) r = 0) : trF M r K rec g (K - a) = trF M r K rec g (K - (a + 1)) := by
  rw [show K - a = (K - (a + 1)) + 1 by omega]
  exact tr_no (a := a) (by omega) hm
theorem tra_back {M : Nat → Nat} {r K a : Nat} {rec : (Nat → Int) → Option (Nat → Int)} {g : Nat → Int} (ha : a < K) (hm : mhI g (M r) ((a : Nat) : Int) r ≠ 0) (hs : rec (uI g r ((a : Nat) : Int)) = none) : trF M r K rec g (K - a) = trF M r K rec g (K - (a + 1)) := by
  rw [show K - a = (K - (a + 1)) + 1 by omega]
  exact tr_back (a := a) (by omega) hm hs
theorem tra_hit {M : Nat → Nat} {r K a : Nat} {rec : (Nat → Int) → Option (Nat → Int)} {g g' : Nat → Int} (ha : a < K) (hm : mhI g (M r) ((a : Nat) : Int) r ≠ 0) (hs : rec (uI g r ((a : Nat) : Int)) = some g') : trF M r K rec g (K - a) = some g' := by
  rw [show K - a = (K - (a + 1)) + 1 by omega]
  exact tr_hit (a := a) (by omega) hm hs
theorem tra_end {M : Nat → Nat} {r K a : Nat} {rec : (Nat → Int) → Option (Nat → Int)} {g : Nat → Int} (ha : K ≤ a) : trF M r K rec g (K - a) = none := by
  rw [show K - a = 0 by omega, trF]
theorem cf_rec {M : Nat → Nat} {n K d r u a : Nat} {g : Nat → Int} {o : Option (Nat → Int)} (h : ps M n K d (uI g r ((a : Nat) : Int)) (max u (a + 1)) = o) : (fun g' => ps M n K d g' (max u ((g' r).toNat + 1))) (uI g r ((a : Nat) : Int)) = o := by
  show ps M n K d (uI g r ((a : Nat) : Int)) (max u ((uI g r ((a : Nat) : Int) r).toNat + 1)) = o
  rw [uI_s, Int.toNat_natCast]
  exact h
theorem cf_set {g roa : Nat → Int} {r a : Nat} (hB : ∀ x, x < 8 → roa x = ((bm g x r : Nat) : Int)) : ∀ x, x < 8 → uI roa a (((bm g a r ||| 2 ^ r) : Nat) : Int) x = ((bm (uI g r ((a : Nat) : Int)) x (r + 1) : Nat) : Int) := by
  intro x hx
  rw [bm_up]
  by_cases e : x = a
  · subst e
    rw [uI_s, if_pos rfl]
  · rw [uI_n e, if_neg (fun z => e z.symm), hB x hx]
theorem cf_clr {g roa : Nat → Int} {r a : Nat} (hB : ∀ x, x < 8 → roa x = ((bm (uI g r ((a : Nat) : Int)) x (r + 1) : Nat) : Int)) : ∀ x, x < 8 → uI roa a ((bm g a r : Nat) : Int) x = ((bm g x r : Nat) : Int) := by
  intro x hx
  by_cases e : x = a
  · subst e
    rw [uI_s]
  · rw [uI_n e, hB x hx, bm_up, if_neg (fun z => e z.symm)]
theorem cf_at {g roa : Nat → Int} {r a : Nat} (ha : a < 8) (hB : ∀ x, x < 8 → roa x = ((bm (uI g r ((a : Nat) : Int)) x (r + 1) : Nat) : Int)) : roa a = (((bm g a r ||| 2 ^ r) : Nat) : Int) := by
  rw [hB a ha, bm_up, if_pos rfl]
theorem fc_ps (M : Nat → Nat) (n K : Nat) : ps M n K n (fun _ => 0) 0 = fc M n K := ps_srch n 0 _ 0 (by omega) (fun p hp => absurd hp (Nat.not_lt_zero _))
theorem gcol_le {M : Nat → Nat} {g : Nat → Int} {r : Nat} : ∀ (f x : Nat), lfS M g r x f ≤ x + f
  | 0, x => Nat.le_refl _
  | f + 1, x => by
    have := gcol_le (M := M) (g := g) (r := r) f (x + 1)
    rw [lfS]
    split <;> omega
theorem gG_le (M : Nat → Nat) : ∀ (r p : Nat), p < r → gG M r p ≤ (p : Int)
  | 0, p, h => absurd h (Nat.not_lt_zero _)
  | r + 1, p, h => by
    rw [gG]
    by_cases e : p = r
    · subst e
      rw [uI_s]
      have : gcol M (gG M p) p ≤ 0 + p := gcol_le p 0
      omega
    · rw [uI_n e]
      exact gG_le M r p (by omega)
theorem gG_free (M : Nat → Nat) (r : Nat) : mhI (gG M r) (M r) ((r : Nat) : Int) r ≠ 0 := mh_free (fun p hp => by have := gG_le M r p hp; omega)
/-! cliques -/
theorem tb_div {x p : Nat} : x / 2 ^ p % 2 = 0 ↔ ¬ x.testBit p = true := by
  rw [Nat.testBit_eq_decide_div_mod_eq, decide_eq_true_iff]
  omega
theorem xa_bit (x m i : Nat) : (x ^^^ (x &&& m)).testBit i = (x.testBit i && !m.testBit i) := by
  rw [Nat.testBit_xor, Nat.testBit_and]
  cases x.testBit i <;> cases m.testBit i <;> rfl
theorem cl_a {x p : Nat} : x ^^^ (x &&& 2 ^ p) = x ↔ x / 2 ^ p % 2 = 0 := by
  rw [tb_div]
  constructor
  · intro h z
    have := xa_bit x (2 ^ p) p
    rw [h, Nat.testBit_two_pow, z] at this
    simp at this
  · intro h
    apply Nat.eq_of_testBit_eq
    intro i
    rw [xa_bit, Nat.testBit_two_pow]
    by_cases e : p = i
    · subst e
      simp [h]
    · simp [e]
theorem cl_b {x m p : Nat} (hx : ¬ x / 2 ^ p % 2 = 0) (hm : m / 2 ^ p % 2 = 0) : (x ^^^ (x &&& 2 ^ p)) ^^^ ((x ^^^ (x &&& 2 ^ p)) &&& m) = 0 ↔ x ^^^ (x &&& m) = 2 ^ p := by
  rw [tb_div] at hx hm
  have hx : x.testBit p = true := by
    cases h : x.testBit p
    · exact absurd (by rw [h]; decide) hx
    · rfl
  have hm : m.testBit p = false := by
    cases h : m.testBit p
    · rfl
    · exact absurd h hm
  constructor
  · intro h
    apply Nat.eq_of_testBit_eq
    intro i
    have hi := congrArg (fun n => Nat.testBit n i) h
    rw [xa_bit, xa_bit, Nat.testBit_two_pow, Nat.zero_testBit] at hi
    rw [xa_bit, Nat.testBit_two_pow]
    by_cases e : p = i
    · subst e
      simp [hx, hm]
    · simp [e] at hi ⊢
      exact hi
  · intro h
    apply Nat.eq_of_testBit_eq
    intro i
    have hi := congrArg (fun n => Nat.testBit n i) h
    rw [xa_bit, Nat.testBit_two_pow] at hi
    rw [xa_bit, xa_bit, Nat.testBit_two_pow, Nat.zero_testBit]
    by_cases e : p = i
    · simp [e]
    · simp [e] at hi ⊢
      exact hi
theorem mk_self (v : Nat → Int) (f : Int) (p : Nat) : ∀ q, ¬ (mk v f p q).testBit p = true
  | 0 => by simp [mk]
  | q + 1 => by
    have ih := mk_self v f p q
    rw [mk]
    split
    · rename_i c
      rw [Nat.testBit_or, Nat.testBit_two_pow]
      simp [Ne.symm c.1]
      simpa using ih
    · exact ih
theorem Mk_self (v : Nat → Int) (f : Int) (p : Nat) : Mk v f p / 2 ^ p % 2 = 0 := tb_div.mpr (mk_self v f p (nr v))
theorem xa_le {x m : Nat} (hx : x < 256) : x ^^^ (x &&& m) < 256 := Nat.xor_lt_two_pow (n := 8) hx (Nat.lt_of_le_of_lt Nat.and_le_left hx)
/-! rivals -/
def lkI (v : Nat → Int) (f : Int) (r o : Nat) (g : Nat → Int) : Prop := (∀ k, k < r → g k = ((mk v f k (if k < o then r + 1 else r) : Nat) : Int)) ∧ g r = ((mk v f r o : Nat) : Int)
theorem lk_0 {v : Nat → Int} {f : Int} {r : Nat} {g : Nat → Int} (h : ∀ k, k < r → g k = ((mk v f k r : Nat) : Int)) : lkI v f r 0 (uI g r ((0 : Nat) : Int)) :=
  ⟨fun k hk => by rw [uI_n (by omega), if_neg (by omega)]; exact h k hk, by rw [uI_s]; rfl⟩
theorem lk_no {v : Nat → Int} (hv : okR v) {f : Int} (hf : 0 ≤ f ∧ f ≤ 120) {r o : Nat} {g : Nat → Int} (h : lkI v f r o g) (ho : o < r) (hz : rsn v r o f = 0) : lkI v f r (o + 1) g := by
  have hs := rsn_sym hv (r := r) (o := o) (f := f) (by omega) hf.1 hf.2
  refine ⟨fun k hk => ?_, ?_⟩
  · by_cases e : k = o
    · subst e
      rw [if_pos (by omega), mk, if_neg (fun z => z.2 (by rw [← hs, hz])), h.1 k hk, if_neg (by omega)]
    · rw [h.1 k hk]
      by_cases c : k < o
      · rw [if_pos c, if_pos (by omega)]
      · rw [if_neg c, if_neg (by omega)]
  · rw [mk, if_neg (fun z => z.2 hz)]
    exact h.2
theorem lk_yes {v : Nat → Int} (hv : okR v) {f : Int} (hf : 0 ≤ f ∧ f ≤ 120) {r o : Nat} {g : Nat → Int} (h : lkI v f r o g) (ho : o < r) (hz : rsn v r o f ≠ 0) : lkI v f r (o + 1) (uI (uI g r (((mk v f r o ||| 2 ^ o) : Nat) : Int)) o (((mk v f o r ||| 2 ^ r) : Nat) : Int)) := by
  have hs := rsn_sym hv (r := r) (o := o) (f := f) (by omega) hf.1 hf.2
  refine ⟨fun k hk => ?_, ?_⟩
  · by_cases e : k = o
    · subst e
      rw [uI_s, if_pos (by omega), mk, if_pos ⟨by omega, by rw [← hs]; exact hz⟩]
    · rw [uI_n e, uI_n (by omega), h.1 k hk]
      by_cases c : k < o
      · rw [if_pos c, if_pos (by omega)]
      · rw [if_neg c, if_neg (by omega)]
  · rw [uI_n (by omega), uI_s, mk, if_pos ⟨by omega, hz⟩]
theorem lk_out {v : Nat → Int} {f : Int} {r o : Nat} {g : Nat → Int} (h : lkI v f r o g) (ho : o = r) : ∀ k, k < r + 1 → g k = ((mk v f k (r + 1) : Nat) : Int) := by
  subst ho
  intro k hk
  by_cases e : k = o
  · subst e
    rw [mk, if_neg (fun z => z.1 rfl)]
    exact h.2
  · rw [h.1 k (by omega), if_pos (by omega)]
theorem clI_mono {v : Nat → Int} {x p : Nat} : ∀ {q : Nat}, p < q → clI v x q ≠ 0 → ¬ clI v x (p + 1) = 0
  | 0, h, _ => absurd h (Nat.not_lt_zero _)
  | q + 1, h, hc => by
    by_cases e : p = q
    · subst e; exact hc
    · refine clI_mono (q := q) (by omega) ?_
      rw [clI] at hc
      split at hc
      · rename_i c; exact c.1
      · exact absurd rfl hc
