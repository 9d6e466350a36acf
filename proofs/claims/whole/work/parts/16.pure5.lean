/-! ===== what the search finds ===== -/
theorem mhI_iff (g : Nat → Int) (m : Nat) (x : Int) : ∀ r, mhI g m x r ≠ 0 ↔ ∀ p, p < r → g p ≠ x ∨ m / 2 ^ p % 2 = 0
  | 0 => by simp [mhI]
  | r + 1 => by
    have ih := mhI_iff g m x r
    constructor
    · intro h p hp
      have h2 : mhI g m x r ≠ 0 ∧ (g r ≠ x ∨ m / 2 ^ r % 2 = 0) := by
        by_cases e : mhI g m x r ≠ 0 ∧ (g r ≠ x ∨ m / 2 ^ r % 2 = 0)
        · exact e
        · exact absurd (by rw [mhI, if_neg e]) h
      by_cases e : p = r
      · rw [e]; exact h2.2
      · exact ih.mp h2.1 p (by omega)
    · intro h
      have h2 : mhI g m x r ≠ 0 ∧ (g r ≠ x ∨ m / 2 ^ r % 2 = 0) := ⟨ih.mpr (fun p hp => h p (by omega)), h r (by omega)⟩
      rw [mhI, if_pos h2]
      omega
/-- role q's actor does, against the roles ahead of it -/
def fitsAt (M : Nat → Nat) (g : Nat → Int) (q : Nat) : Prop := ∀ p, p < q → g p ≠ g q ∨ M q / 2 ^ p % 2 = 0
theorem trF_sound {M : Nat → Nat} {n K r d : Nat} (hr : r + (d + 1) = n) {g : Nat → Int} (ih : ∀ g1 g2, srch M n K d g1 = some g2 → (∀ p, p < r + 1 → g2 p = g1 p) ∧ ∀ q, r + 1 ≤ q → q < n → (0 ≤ g2 q ∧ g2 q < (K : Int)) ∧ fitsAt M g2 q) :
    ∀ (c : Nat) (g2 : Nat → Int), c ≤ K → trF M r K (srch M n K d) g c = some g2 → (∀ p, p < r → g2 p = g p) ∧ ∀ q, r ≤ q → q < n → (0 ≤ g2 q ∧ g2 q < (K : Int)) ∧ fitsAt M g2 q := by
  intro c
  induction c with
  | zero => intro g2 _ h; cases h
  | succ c ihc =>
    intro g2 hc h
    rw [trF] at h
    by_cases hm : mhI g (M r) ((K - (c + 1) : Nat) : Int) r ≠ 0
    · rw [if_pos hm] at h
      cases hs : srch M n K d (uI g r ((K - (c + 1) : Nat) : Int)) with
      | none => rw [hs] at h; exact ihc g2 (by omega) h
      | some g3 =>
        rw [hs] at h
        cases h
        obtain ⟨h1, h2⟩ := ih _ _ hs
        have hlow : ∀ p, p < r → g2 p = g p := fun p hp => by rw [h1 p (by omega), uI_n (by omega)]
        have hat : g2 r = ((K - (c + 1) : Nat) : Int) := by rw [h1 r (by omega), uI_s]
        refine ⟨hlow, fun q hq1 hq2 => ?_⟩
        by_cases e : q = r
        · subst e
          refine ⟨by rw [hat]; omega, fun p hp => ?_⟩
          rw [hlow p hp, hat]
          exact (mhI_iff _ _ _ _).mp hm p hp
        · exact h2 q (by omega) hq2
    · rw [if_neg hm] at h
      exact ihc g2 (by omega) h
theorem srch_sound {M : Nat → Nat} {n K : Nat} : ∀ (d r : Nat) (g g2 : Nat → Int), r + d = n → srch M n K d g = some g2 → (∀ p, p < r → g2 p = g p) ∧ ∀ q, r ≤ q → q < n → (0 ≤ g2 q ∧ g2 q < (K : Int)) ∧ fitsAt M g2 q := by
  intro d
  induction d with
  | zero =>
    intro r g g2 hr h
    cases h
    exact ⟨fun _ _ => rfl, fun q h1 h2 => by omega⟩
  | succ d ih =>
    intro r g g2 hr h
    have e : n - (d + 1) = r := by omega
    rw [srch, e] at h
    exact trF_sound hr (fun g1 g3 h3 => ih (r + 1) g1 g3 (by omega) h3) K g2 (Nat.le_refl _) h
theorem trF_comp {M : Nat → Nat} {n K r d x : Nat} {g col : Nat → Int} (hx : col r = (x : Int)) (hxK : x < K) (hg : ∀ p, p < r → g p = col p) (hf : fitsAt M col r) (ih : srch M n K d (uI g r (x : Int)) ≠ none) :
    ∀ c, c ≤ K → K ≤ x + c → trF M r K (srch M n K d) g c ≠ none := by
  intro c
  induction c with
  | zero => intro _ h; omega
  | succ c ihc =>
    intro hc h
    rw [trF]
    by_cases e : K - (c + 1) = x
    · rw [e]
      have hm : mhI g (M r) (x : Int) r ≠ 0 := (mhI_iff _ _ _ _).mpr (fun p hp => by rw [hg p hp, ← hx]; exact hf p hp)
      rw [if_pos hm]
      cases hs : srch M n K d (uI g r (x : Int)) with
      | none => exact absurd hs ih
      | some g3 => simp
    · have h2 := ihc (by omega) (by omega)
      by_cases hm : mhI g (M r) ((K - (c + 1) : Nat) : Int) r ≠ 0
      · rw [if_pos hm]
        cases hs : srch M n K d (uI g r ((K - (c + 1) : Nat) : Int)) with
        | none => exact h2
        | some g3 => simp
      · rw [if_neg hm]
        exact h2
theorem srch_comp {M : Nat → Nat} {n K : Nat} {col : Nat → Int} : ∀ (d r : Nat) (g : Nat → Int), r + d = n → (∀ p, p < r → g p = col p) → (∀ q, r ≤ q → q < n → (0 ≤ col q ∧ col q < (K : Int)) ∧ fitsAt M col q) → srch M n K d g ≠ none := by
  intro d
  induction d with
  | zero => intro r g _ _ _ h; cases h
  | succ d ih =>
    intro r g hr hg hq
    have e : n - (d + 1) = r := by omega
    rw [srch, e]
    obtain ⟨h1, h2⟩ := hq r (Nat.le_refl _) (by omega)
    refine trF_comp (x := (col r).toNat) (col := col) (by omega) (by omega) hg h2 ?_ K (Nat.le_refl _) (by omega)
    refine ih (r + 1) _ (by omega) (fun p hp => ?_) (fun q h3 h4 => hq q (by omega) h4)
    by_cases e2 : p = r
    · subst e2
      rw [uI_s]
      omega
    · rw [uI_n e2]
      exact hg p (by omega)
theorem fc_iff {M : Nat → Nat} {n K : Nat} : fc M n K ≠ none ↔ ∃ col : Nat → Int, ∀ q, q < n → (0 ≤ col q ∧ col q < (K : Int)) ∧ fitsAt M col q := by
  constructor
  · intro h
    cases hs : fc M n K with
    | none => exact absurd hs h
    | some g =>
      obtain ⟨-, h2⟩ := srch_sound n 0 _ g (by omega) hs
      exact ⟨g, fun q hq => h2 q (Nat.zero_le _) hq⟩
  · rintro ⟨col, h⟩
    exact srch_comp n 0 _ (by omega) (fun p hp => by omega) (fun q _ hq => h q hq)
theorem fc_full {M : Nat → Nat} {n K : Nat} (h : n ≤ K) : fc M n K ≠ none :=
  fc_iff.mpr ⟨fun q => (q : Int), fun q hq => ⟨by show 0 ≤ (q : Int) ∧ (q : Int) < (K : Int); omega, fun p hp => Or.inl (by show ¬ (p : Int) = (q : Int); omega)⟩⟩
def Mk (v : Nat → Int) (f : Int) : Nat → Nat := fun r => mk v f r (nr v)
theorem Mk_lt {v : Nat → Int} (h : okR v) (f : Int) (r : Nat) : Mk v f r < 256 := mk_lt v f r (nr v) h.nr8
/-- the least number of actors, sought from K on -/
def lcS (M : Nat → Nat) (n : Nat) : Nat → Nat → Nat
  | K, 0 => K
  | K, f + 1 => if (fc M n K).isNone = true then lcS M n (K + 1) f else K
def lc (M : Nat → Nat) (n : Nat) : Nat := lcS M n 1 n
def fcG (M : Nat → Nat) (n : Nat) : Nat → Int := (fc M n (lc M n)).getD (fun _ => 0)
theorem lcS_hit {M : Nat → Nat} {n K f : Nat} (h : fc M n K ≠ none) (hf : 1 ≤ f) : lcS M n K f = K := by
  obtain ⟨f, rfl⟩ : ∃ f', f = f' + 1 := ⟨f - 1, by omega⟩
  rw [lcS, if_neg]
  cases hs : fc M n K with
  | none => exact absurd hs h
  | some g => simp
theorem lcS_miss {M : Nat → Nat} {n K f : Nat} (h : fc M n K = none) (hf : 1 ≤ f) : lcS M n K f = lcS M n (K + 1) (f - 1) := by
  obtain ⟨f, rfl⟩ : ∃ f', f = f' + 1 := ⟨f - 1, by omega⟩
  rw [lcS, if_pos (by rw [h]; rfl)]
  rfl
/-- the actor that a greedy caster takes: the lowest that does, sought from x on -/
def lfS (M : Nat → Nat) (g : Nat → Int) (r : Nat) : Nat → Nat → Nat
  | x, 0 => x
  | x, f + 1 => if mhI g (M r) ((x : Nat) : Int) r = 0 then lfS M g r (x + 1) f else x
def gcol (M : Nat → Nat) (g : Nat → Int) (r : Nat) : Nat := lfS M g r 0 r
def gG (M : Nat → Nat) : Nat → Nat → Int
  | 0 => fun _ => 0
  | r + 1 => uI (gG M r) r ((gcol M (gG M r) r : Nat) : Int)
def gm (M : Nat → Nat) : Nat → Nat
  | 0 => 0
  | r + 1 => if gm M r < gcol M (gG M r) r + 1 then gcol M (gG M r) r + 1 else gm M r
theorem lfS_hit {M : Nat → Nat} {g : Nat → Int} {r x f : Nat} (h : mhI g (M r) ((x : Nat) : Int) r ≠ 0) : lfS M g r x f = x := by
  cases f with
  | zero => rfl
  | succ f => rw [lfS, if_neg h]
theorem lfS_miss {M : Nat → Nat} {g : Nat → Int} {r x f : Nat} (h : mhI g (M r) ((x : Nat) : Int) r = 0) (hf : 1 ≤ f) : lfS M g r x f = lfS M g r (x + 1) (f - 1) := by
  obtain ⟨f, rfl⟩ : ∃ f', f = f' + 1 := ⟨f - 1, by omega⟩
  rw [lfS, if_pos h]
  rfl
theorem mh_free {M : Nat → Nat} {g : Nat → Int} {r : Nat} (h : ∀ p, p < r → g p < (r : Int)) : mhI g (M r) ((r : Nat) : Int) r ≠ 0 := (mhI_iff _ _ _ _).mpr (fun p hp => Or.inl (by have := h p hp; omega))
/-- the least speed-up, sought from L on -/
def suS (v : Nat → Int) (K : Nat) : Nat → Nat → Int
  | _, 0 => -1004
  | L, f + 1 => if (fc (Mk v ((L : Nat) : Int)) (nr v) K).isNone = true then suS v K (L + 1) f else ((L : Nat) : Int)
def suF (v : Nat → Int) (x : Int) : Int := if 1 ≤ x ∧ x ≤ 8 then suS v x.toNat 0 121 else -1001
theorem suS_hit {v : Nat → Int} {K L f : Nat} (h : fc (Mk v ((L : Nat) : Int)) (nr v) K ≠ none) : suS v K L (f + 1) = ((L : Nat) : Int) := by
  rw [suS, if_neg]
  cases hs : fc (Mk v ((L : Nat) : Int)) (nr v) K with
  | none => exact absurd hs h
  | some g => simp
theorem suS_miss {v : Nat → Int} {K L f : Nat} (h : fc (Mk v ((L : Nat) : Int)) (nr v) K = none) : suS v K L (f + 1) = suS v K (L + 1) f := by
  rw [suS, if_pos (by rw [h]; rfl)]
