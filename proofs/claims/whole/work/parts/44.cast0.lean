/-! ===== casting: the class's search ===== -/
abbrev caW (q : Nat) (Qc : Nat → Nat) (ro : Int) : va_W := [(q, .inr (0, [.int (iI ro), .ref (Qc 0), .ref (Qc 1)]))]
def bm (g : Nat → Int) (x : Nat) : Nat → Nat
  | 0 => 0
  | r + 1 => if g r = ((x : Nat) : Int) then bm g x r ||| 2 ^ r else bm g x r
theorem bm_lt (g : Nat → Int) (x : Nat) : ∀ r, bm g x r < 2 ^ r
  | 0 => by simp [bm]
  | r + 1 => by
    have h := bm_lt g x r
    have h2 : 2 ^ r < 2 ^ (r + 1) := Nat.pow_lt_pow_right (by omega) (by omega)
    rw [bm]
    split
    · exact Nat.or_lt_two_pow (by omega) h2
    · omega
theorem pw8 : ∀ r, r ≤ 8 → 2 ^ r ≤ 256 := by decide
theorem bm_256 (g : Nat → Int) (x r : Nat) (hr : r ≤ 8) : bm g x r < 256 := Nat.lt_of_lt_of_le (bm_lt g x r) (pw8 r hr)
theorem bm_cong {g g2 : Nat → Int} (x : Nat) : ∀ r, (∀ p, p < r → g2 p = g p) → bm g2 x r = bm g x r
  | 0, _ => rfl
  | r + 1, h => by rw [bm, bm, bm_cong x r (fun p hp => h p (by omega)), h r (by omega)]
theorem bm_up (g : Nat → Int) (x r a : Nat) : bm (uI g r ((a : Nat) : Int)) x (r + 1) = if a = x then bm g x r ||| 2 ^ r else bm g x r := by
  rw [bm, uI_s, bm_cong (g := g) x r (fun p hp => uI_n (by omega))]
  by_cases e : a = x
  · rw [if_pos e, if_pos (by omega)]
  · rw [if_neg e, if_neg (by omega)]
theorem bit_clr : ∀ r, r < 8 → ∀ b, b < 2 ^ r → (b ||| 2 ^ r) ^^^ ((b ||| 2 ^ r) &&& 2 ^ r) = b := by decide +kernel
theorem pw_and : ∀ r, r < 8 → ∀ m, m < 256 → (2 ^ r &&& m = 0 ↔ m / 2 ^ r % 2 = 0) := by decide +kernel
theorem or_z {a b : Nat} : a ||| b = 0 ↔ a = 0 ∧ b = 0 := by
  constructor
  · intro h
    have h1 : a ≤ a ||| b := Nat.left_le_or
    have h2 : b ≤ a ||| b := Nat.right_le_or
    omega
  · rintro ⟨rfl, rfl⟩
    rfl
theorem bm_free (g : Nat → Int) (x m : Nat) (hm : m < 256) : ∀ r, r ≤ 8 → (bm g x r &&& m = 0 ↔ mhI g m ((x : Nat) : Int) r ≠ 0)
  | 0, _ => by simp [bm, mhI]
  | r + 1, hr => by
    have ih := bm_free g x m hm r (by omega)
    have hp := pw_and r (by omega) m hm
    rw [bm, mhI]
    by_cases e : g r = ((x : Nat) : Int)
    · rw [if_pos e, Nat.and_or_distrib_right, or_z, ih, hp]
      by_cases c : mhI g m ((x : Nat) : Int) r ≠ 0 ∧ m / 2 ^ r % 2 = 0
      · rw [if_pos ⟨c.1, Or.inr c.2⟩]
        exact ⟨fun _ => Nat.one_ne_zero, fun _ => c⟩
      · rw [if_neg (fun z => c ⟨z.1, z.2.resolve_left (fun q => q e)⟩)]
        exact ⟨fun z => absurd z c, fun z => absurd rfl z⟩
    · rw [if_neg e, ih]
      by_cases c : mhI g m ((x : Nat) : Int) r ≠ 0
      · rw [if_pos ⟨c, Or.inl e⟩]
        exact ⟨fun _ => Nat.one_ne_zero, fun _ => c⟩
      · rw [if_neg (fun z => c z.1)]
        exact ⟨fun z => absurd z c, fun z => absurd rfl z⟩
theorem bm_bit (g : Nat → Int) (x p : Nat) : ∀ r, (bm g x r).testBit p = true ↔ p < r ∧ g p = ((x : Nat) : Int)
  | 0 => by simp [bm]
  | r + 1 => by
    have ih := bm_bit g x p r
    rw [bm]
    by_cases e : g r = ((x : Nat) : Int)
    · rw [if_pos e, Nat.testBit_or, Bool.or_eq_true, ih, Nat.testBit_two_pow, decide_eq_true_iff]
      constructor
      · rintro (z | z)
        · exact ⟨by omega, z.2⟩
        · subst z; exact ⟨by omega, e⟩
      · intro z
        by_cases q : r = p
        · exact Or.inr q
        · exact Or.inl ⟨by omega, z.2⟩
    · rw [if_neg e, ih]
      constructor
      · exact fun z => ⟨by omega, z.2⟩
      · intro z
        by_cases q : r = p
        · subst q; exact absurd z.2 e
        · exact ⟨by omega, z.2⟩
theorem and_pw {b p : Nat} : b &&& 2 ^ p = 0 ↔ ¬ b.testBit p = true := by
  constructor
  · intro h z
    have := congrArg (fun n => Nat.testBit n p) h
    simp [Nat.testBit_and, Nat.testBit_two_pow, z] at this
  · intro h
    apply Nat.eq_of_testBit_eq
    intro i
    rw [Nat.testBit_and, Nat.testBit_two_pow, Nat.zero_testBit]
    by_cases e : p = i
    · subst e
      simp [h]
    · simp [e]
theorem bm_hit (g : Nat → Int) (x p r : Nat) (hp : p < r) : bm g x r &&& 2 ^ p = 0 ↔ g p ≠ ((x : Nat) : Int) := by
  rw [and_pw, bm_bit]
  constructor
  · exact fun h z => h ⟨hp, z⟩
  · exact fun h z => h z.2
/-! the pruned search -/
def ps (M : Nat → Nat) (n K : Nat) : Nat → (Nat → Int) → Nat → Option (Nat → Int)
  | 0, g, _ => some g
  | d + 1, g, u => trF M (n - (d + 1)) (min (u + 1) K) (fun g' => ps M n K d g' (max u ((g' (n - (d + 1))).toNat + 1))) g (min (u + 1) K)
theorem swap_none {M : Nat → Nat} {n K r d u a : Nat} {g : Nat → Int} (hr : r + (d + 1) = n) (hg : ∀ p, p < r → 0 ≤ g p ∧ g p < (u : Int)) (hua : u < a) (haK : a < K) (hm : mhI g (M r) ((a : Nat) : Int) r ≠ 0) (h : srch M n K d (uI g r ((u : Nat) : Int)) = none) : srch M n K d (uI g r ((a : Nat) : Int)) = none := by
  cases hs : srch M n K d (uI g r ((a : Nat) : Int)) with
  | none => rfl
  | some g2 =>
    exfalso
    have hsd := srch_sound d (r + 1) _ g2 (by omega) hs
    have low : ∀ p, p < r → g2 p = g p := fun p hp => by rw [hsd.1 p (by omega), uI_n (by omega)]
    have atr : g2 r = (a : Int) := by rw [hsd.1 r (by omega), uI_s]
    let sw : Int → Int := fun x => if x = (u : Int) then (a : Int) else if x = (a : Int) then (u : Int) else x
    have swi : ∀ x y, sw x = sw y → x = y := by
      intro x y
      show (if _ then _ else _) = (if _ then _ else _) → _
      (repeat' split) <;> intro q <;> omega
    refine absurd h (srch_comp (col := fun p => sw (g2 p)) d (r + 1) _ (by omega) (fun p hp => ?_) (fun q h1 h2 => ?_))
    · show _ = sw (g2 p)
      by_cases e : p = r
      · subst e
        rw [uI_s, atr]
        show _ = (if _ then _ else _)
        rw [if_neg (by omega), if_pos rfl]
      · rw [uI_n e, low p (by omega)]
        have := hg p (by omega)
        show _ = (if _ then _ else _)
        rw [if_neg (by omega), if_neg (by omega)]
    · have hq := hsd.2 q h1 h2
      refine ⟨?_, fun p hp => ?_⟩
      · show 0 ≤ sw (g2 q) ∧ sw (g2 q) < (K : Int)
        have : sw (g2 q) = (u : Int) ∨ sw (g2 q) = (a : Int) ∨ sw (g2 q) = g2 q := by
          show (if g2 q = (u : Int) then (a : Int) else if g2 q = (a : Int) then (u : Int) else g2 q) = _ ∨ (if g2 q = (u : Int) then (a : Int) else if g2 q = (a : Int) then (u : Int) else g2 q) = _ ∨ (if g2 q = (u : Int) then (a : Int) else if g2 q = (a : Int) then (u : Int) else g2 q) = _
          (repeat' split) <;> simp
        omega
      · rcases hq.2 p hp with z | z
        · exact Or.inl (fun w => z (swi _ _ w))
        · exact Or.inr z
theorem tr_none {M : Nat → Nat} {r K : Nat} {rec : (Nat → Int) → Option (Nat → Int)} {g : Nat → Int} : ∀ c, c ≤ K → (∀ a, K - c ≤ a → a < K → mhI g (M r) ((a : Nat) : Int) r ≠ 0 → rec (uI g r ((a : Nat) : Int)) = none) → trF M r K rec g c = none
  | 0, _, _ => rfl
  | c + 1, hc, h => by
    have ih := tr_none (M := M) (r := r) (rec := rec) (g := g) c (by omega) (fun a h1 h2 => h a (by omega) h2)
    rw [trF]
    split
    · rename_i z
      rw [h _ (by omega) (by omega) z]
      exact ih
    · exact ih
theorem ps_srch {M : Nat → Nat} {n K : Nat} : ∀ (d r : Nat) (g : Nat → Int) (u : Nat), r + d = n → (∀ p, p < r → 0 ≤ g p ∧ g p < (u : Int)) → ps M n K d g u = srch M n K d g := by
  intro d
  induction d with
  | zero => intro r g u _ _; rfl
  | succ d ih =>
    intro r g u hr hg
    have e : n - (d + 1) = r := by omega
    rw [ps, srch, e]
    have hrec : ∀ a : Nat, ps M n K d (uI g r ((a : Nat) : Int)) (max u ((uI g r ((a : Nat) : Int) r).toNat + 1)) = srch M n K d (uI g r ((a : Nat) : Int)) := by
      intro a
      refine ih (r + 1) _ _ (by omega) (fun p hp => ?_)
      rw [uI_s]
      by_cases e2 : p = r
      · subst e2; rw [uI_s]; omega
      · rw [uI_n e2]
        have := hg p (by omega)
        omega
    -- the trials from a on
    have tS : ∀ (K : Nat) (rec : (Nat → Int) → Option (Nat → Int)) (c : Nat), trF M r K rec g (c + 1) = if mhI g (M r) ((K - (c + 1) : Nat) : Int) r ≠ 0 then (match rec (uI g r ((K - (c + 1) : Nat) : Int)) with | some g' => some g' | none => trF M r K rec g c) else trF M r K rec g c := fun _ _ _ => rfl
    have step : ∀ c a, a + (c + 1) = min (u + 1) K → trF M r (min (u + 1) K) (fun g' => ps M n K d g' (max u ((g' r).toNat + 1))) g (c + 1) = trF M r K (srch M n K d) g (K - a) := by
      intro c
      induction c with
      | zero =>
        intro a ha
        have hre := hrec a
        rw [show K - a = (K - (a + 1)) + 1 by omega, trF, trF, trF, show min (u + 1) K - (0 + 1) = a by omega, show K - (K - (a + 1) + 1) = a by omega]
        by_cases hm : mhI g (M r) ((a : Nat) : Int) r ≠ 0
        · rw [if_pos hm, if_pos hm, hre]
          cases hs : srch M n K d (uI g r ((a : Nat) : Int)) with
          | some g2 => rfl
          | none =>
            symm
            by_cases hK : K ≤ u + 1
            · show trF M r K (srch M n K d) g (K - (a + 1)) = none
              rw [show K - (a + 1) = 0 by omega, trF]
            · have ea : a = u := by omega
              subst ea
              exact tr_none _ (by omega) (fun b h1 h2 h3 => swap_none hr hg (by omega) h2 h3 hs)
        · rw [if_neg hm, if_neg hm]
          by_cases hK : K ≤ u + 1
          · rw [show K - (a + 1) = 0 by omega, trF]
          · have ea : a = u := by omega
            subst ea
            exact absurd ((mhI_iff _ _ _ _).mpr (fun p hp => Or.inl (by have := hg p hp; omega))) hm
      | succ c ihc =>
        intro a ha
        have h2 := ihc (a + 1) (by omega)
        rw [show K - a = (K - (a + 1)) + 1 by omega, tS (min (u + 1) K) _ (c + 1), tS K _ (K - (a + 1)), show min (u + 1) K - (c + 1 + 1) = a by omega, show K - (K - (a + 1) + 1) = a by omega, hrec a, h2]
    by_cases h0 : K = 0
    · subst h0
      rw [show min (u + 1) 0 = 0 by omega, trF, trF]
    · have := step (min (u + 1) K - 1) 0 (by omega)
      rw [Nat.sub_zero, show min (u + 1) K - 1 + 1 = min (u + 1) K by omega] at this
      exact this
