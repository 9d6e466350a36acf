/-! ===== the play text ===== -/
/-- where the word that starts at p ends -/
def weS (t : Nat → Int) (L : Nat) : Nat → Nat → Nat
  | p, 0 => p
  | p, f + 1 => if p < L ∧ t p ≠ 32 ∧ t p ≠ 59 then weS t L (p + 1) f else p
def we (t : Nat → Int) (L p : Nat) : Nat := weS t L p (L - p)
theorem we_go {t : Nat → Int} {L p : Nat} (h : p < L ∧ t p ≠ 32 ∧ t p ≠ 59) : we t L p = we t L (p + 1) := by
  unfold we
  obtain ⟨f, hf⟩ : ∃ f, L - p = f + 1 := ⟨L - p - 1, by omega⟩
  rw [hf, weS, if_pos h]
  congr 1
  omega
theorem we_end {t : Nat → Int} {L p : Nat} (h : ¬ (p < L ∧ t p ≠ 32 ∧ t p ≠ 59)) : we t L p = p := by
  unfold we
  cases hf : L - p with
  | zero => rfl
  | succ f => rw [weS, if_neg h]
theorem we_ge (t : Nat → Int) (L : Nat) : ∀ (f p : Nat), L - p = f → p ≤ we t L p
  | 0, p, h => by rw [we_end (by omega)]; exact Nat.le_refl _
  | f + 1, p, h => by
    by_cases e : p < L ∧ t p ≠ 32 ∧ t p ≠ 59
    · rw [we_go e]
      have := we_ge t L f (p + 1) (by omega)
      omega
    · rw [we_end e]; exact Nat.le_refl _
theorem we_le (t : Nat → Int) (L : Nat) : ∀ (f p : Nat), L - p = f → p ≤ L → we t L p ≤ L
  | 0, p, h, hp => by rw [we_end (by omega)]; exact hp
  | f + 1, p, h, hp => by
    by_cases e : p < L ∧ t p ≠ 32 ∧ t p ≠ 59
    · rw [we_go e]
      exact we_le t L f (p + 1) (by omega) (by omega)
    · rw [we_end e]; exact hp
def okT (t : Nat → Int) (L : Nat) : Prop := L ≤ 400 ∧ ∀ i, i < L → 32 ≤ t i ∧ t i ≤ 126
/-- letters, and their number in base 32 -/
def ltI (t : Nat → Int) (p : Nat) : Nat → Nat
  | 0 => 1
  | i + 1 => if ltI t p i ≠ 0 ∧ (97 ≤ t (p + i) ∧ t (p + i) ≤ 122) ∧ i < 5 then 1 else 0
def wv (t : Nat → Int) (p : Nat) : Nat → Int
  | 0 => 0
  | i + 1 => if ltI t p (i + 1) ≠ 0 then ((32 * wv t p i + t (p + i)) - 97) + 1 else wv t p i
def wdV (t : Nat → Int) (p n : Nat) : Int := if ltI t p n ≠ 0 ∧ 0 < n then wv t p n else -1
theorem ltI_iff (t : Nat → Int) (p : Nat) : ∀ n, ltI t p n ≠ 0 ↔ (n ≤ 5 ∧ ∀ i, i < n → 97 ≤ t (p + i) ∧ t (p + i) ≤ 122)
  | 0 => by simp [ltI]
  | n + 1 => by
    have ih := ltI_iff t p n
    constructor
    · intro h
      have h2 : ltI t p n ≠ 0 ∧ (97 ≤ t (p + n) ∧ t (p + n) ≤ 122) ∧ n < 5 := by
        by_cases e : ltI t p n ≠ 0 ∧ (97 ≤ t (p + n) ∧ t (p + n) ≤ 122) ∧ n < 5
        · exact e
        · exact absurd (by rw [ltI, if_neg e]) h
      refine ⟨by omega, fun i hi => ?_⟩
      by_cases e : i = n
      · rw [e]; exact h2.2.1
      · exact (ih.mp h2.1).2 i (by omega)
    · rintro ⟨h1, h2⟩
      rw [ltI, if_pos ⟨ih.mpr ⟨by omega, fun i hi => h2 i (by omega)⟩, h2 n (by omega), by omega⟩]
      omega
theorem ltI_le (t : Nat → Int) (p : Nat) : ∀ n, ltI t p n ≤ 1
  | 0 => by simp [ltI]
  | n + 1 => by
    simp only [ltI]
    split <;> omega
theorem ltI_pred {t : Nat → Int} {p n : Nat} (h : ltI t p (n + 1) ≠ 0) : ltI t p n ≠ 0 := by
  have h1 := (ltI_iff t p (n + 1)).mp h
  exact (ltI_iff t p n).mpr ⟨by omega, fun i hi => h1.2 i (by omega)⟩
theorem wv_s {t : Nat → Int} {p n : Nat} (h : ltI t p (n + 1) ≠ 0) : wv t p (n + 1) = 32 * wv t p n + (t (p + n) - 96) := by
  rw [wv, if_pos h]
  omega
theorem wv_b (t : Nat → Int) (p : Nat) : ∀ n, (ltI t p n ≠ 0 → 0 ≤ wv t p n ∧ wv t p n < 32 ^ n) ∧ 0 ≤ wv t p n ∧ wv t p n < 33554432
  | 0 => by simp [wv]
  | n + 1 => by
    have ih := wv_b t p n
    by_cases h : ltI t p (n + 1) ≠ 0
    · have h1 := (ltI_iff t p (n + 1)).mp h
      have h2 := ih.1 (ltI_pred h)
      have h3 := h1.2 n (by omega)
      rw [wv_s h]
      have hp : (32 : Int) ^ (n + 1) = 32 * 32 ^ n := by rw [Int.pow_succ]; omega
      refine ⟨fun _ => ⟨by omega, by rw [hp]; omega⟩, by omega, ?_⟩
      rcases (show n = 0 ∨ n = 1 ∨ n = 2 ∨ n = 3 ∨ n = 4 by omega) with rfl | rfl | rfl | rfl | rfl
      · have : wv t p 0 < 1 := h2.2
        omega
      · have : wv t p 1 < 32 := h2.2
        omega
      · have : wv t p 2 < 1024 := h2.2
        omega
      · have : wv t p 3 < 32768 := h2.2
        omega
      · have : wv t p 4 < 1048576 := h2.2
        omega
    · rw [wv, if_neg h]
      exact ⟨fun z => absurd z h, ih.2⟩
/-- the word of n signs at p is this one -/
def isW (t : Nat → Int) (p n : Nat) (cs : List Int) : Prop := n = cs.length ∧ ∀ i, i < cs.length → t (p + i) = cs.getD i 0
def nmd (a b c d e : Int) : Int := if e = 0 then (if d = 0 then ((((a - 96) * 32 + b) - 96) * 32 + c) - 96 else (32 * (((((a - 96) * 32 + b) - 96) * 32 + c) - 96) + d) - 96) else (32 * (if d = 0 then ((((a - 96) * 32 + b) - 96) * 32 + c) - 96 else (32 * (((((a - 96) * 32 + b) - 96) * 32 + c) - 96) + d) - 96) + e) - 96
theorem wv1 {t : Nat → Int} {p : Nat} (h : ltI t p 1 ≠ 0) : wv t p 1 = t p - 96 := by
  rw [wv_s h]
  simp [wv]
theorem wv2 {t : Nat → Int} {p : Nat} (h : ltI t p 2 ≠ 0) : wv t p 2 = 32 * (t p - 96) + (t (p + 1) - 96) := by
  rw [wv_s h, wv1 (ltI_pred h)]
theorem wv3 {t : Nat → Int} {p : Nat} (h : ltI t p 3 ≠ 0) : wv t p 3 = 32 * (32 * (t p - 96) + (t (p + 1) - 96)) + (t (p + 2) - 96) := by
  rw [wv_s h, wv2 (ltI_pred h)]
theorem wv4 {t : Nat → Int} {p : Nat} (h : ltI t p 4 ≠ 0) : wv t p 4 = 32 * (32 * (32 * (t p - 96) + (t (p + 1) - 96)) + (t (p + 2) - 96)) + (t (p + 3) - 96) := by
  rw [wv_s h, wv3 (ltI_pred h)]
theorem wv5 {t : Nat → Int} {p : Nat} (h : ltI t p 5 ≠ 0) : wv t p 5 = 32 * (32 * (32 * (32 * (t p - 96) + (t (p + 1) - 96)) + (t (p + 2) - 96)) + (t (p + 3) - 96)) + (t (p + 4) - 96) := by
  rw [wv_s h, wv4 (ltI_pred h)]
/-- what a word's number says of its signs -/
theorem wdV_cases (t : Nat → Int) (p n : Nat) : wdV t p n = -1 ∨ (n = 1 ∧ (97 ≤ t p ∧ t p ≤ 122) ∧ wdV t p n = t p - 96) ∨ (n = 2 ∧ (97 ≤ t p ∧ t p ≤ 122) ∧ (97 ≤ t (p + 1) ∧ t (p + 1) ≤ 122) ∧ wdV t p n = 32 * (t p - 96) + (t (p + 1) - 96)) ∨ (n = 3 ∧ (97 ≤ t p ∧ t p ≤ 122) ∧ (97 ≤ t (p + 1) ∧ t (p + 1) ≤ 122) ∧ (97 ≤ t (p + 2) ∧ t (p + 2) ≤ 122) ∧ wdV t p n = 32 * (32 * (t p - 96) + (t (p + 1) - 96)) + (t (p + 2) - 96)) ∨ (n = 4 ∧ (97 ≤ t p ∧ t p ≤ 122) ∧ (97 ≤ t (p + 1) ∧ t (p + 1) ≤ 122) ∧ (97 ≤ t (p + 2) ∧ t (p + 2) ≤ 122) ∧ (97 ≤ t (p + 3) ∧ t (p + 3) ≤ 122) ∧ wdV t p n = 32 * (32 * (32 * (t p - 96) + (t (p + 1) - 96)) + (t (p + 2) - 96)) + (t (p + 3) - 96)) ∨ (n = 5 ∧ (97 ≤ t p ∧ t p ≤ 122) ∧ (97 ≤ t (p + 1) ∧ t (p + 1) ≤ 122) ∧ (97 ≤ t (p + 2) ∧ t (p + 2) ≤ 122) ∧ (97 ≤ t (p + 3) ∧ t (p + 3) ≤ 122) ∧ (97 ≤ t (p + 4) ∧ t (p + 4) ≤ 122) ∧ wdV t p n = 32 * (32 * (32 * (32 * (t p - 96) + (t (p + 1) - 96)) + (t (p + 2) - 96)) + (t (p + 3) - 96)) + (t (p + 4) - 96)) := by
  by_cases h : ltI t p n ≠ 0 ∧ 0 < n
  · have h1 := (ltI_iff t p n).mp h.1
    have e : wdV t p n = wv t p n := if_pos h
    rcases (show n = 1 ∨ n = 2 ∨ n = 3 ∨ n = 4 ∨ n = 5 by omega) with rfl | rfl | rfl | rfl | rfl
    · exact Or.inr (Or.inl ⟨rfl, h1.2 0 (by omega), by rw [e, wv1 h.1]⟩)
    · exact Or.inr (Or.inr (Or.inl ⟨rfl, h1.2 0 (by omega), h1.2 1 (by omega), by rw [e, wv2 h.1]⟩))
    · exact Or.inr (Or.inr (Or.inr (Or.inl ⟨rfl, h1.2 0 (by omega), h1.2 1 (by omega), h1.2 2 (by omega), by rw [e, wv3 h.1]⟩)))
    · exact Or.inr (Or.inr (Or.inr (Or.inr (Or.inl ⟨rfl, h1.2 0 (by omega), h1.2 1 (by omega), h1.2 2 (by omega), h1.2 3 (by omega), by rw [e, wv4 h.1]⟩))))
    · exact Or.inr (Or.inr (Or.inr (Or.inr (Or.inr ⟨rfl, h1.2 0 (by omega), h1.2 1 (by omega), h1.2 2 (by omega), h1.2 3 (by omega), h1.2 4 (by omega), by rw [e, wv5 h.1]⟩))))
  · exact Or.inl (if_neg h)
theorem isW5 {t : Nat → Int} {p n : Nat} {a b c d e : Int} : isW t p n [a, b, c, d, e] ↔ n = 5 ∧ t p = a ∧ t (p + 1) = b ∧ t (p + 2) = c ∧ t (p + 3) = d ∧ t (p + 4) = e := by
  constructor
  · rintro ⟨h1, h2⟩
    exact ⟨h1, h2 0 (Nat.le_of_ble_eq_true rfl), h2 1 (Nat.le_of_ble_eq_true rfl), h2 2 (Nat.le_of_ble_eq_true rfl), h2 3 (Nat.le_of_ble_eq_true rfl), h2 4 (Nat.le_of_ble_eq_true rfl)⟩
  · rintro ⟨h1, h2, h3, h4, h5, h6⟩
    refine ⟨h1, fun i hi => ?_⟩
    have hi2 : i < 5 := hi
    rcases (show i = 0 ∨ i = 1 ∨ i = 2 ∨ i = 3 ∨ i = 4 by omega) with rfl | rfl | rfl | rfl | rfl <;> assumption
theorem isW4 {t : Nat → Int} {p n : Nat} {a b c d : Int} : isW t p n [a, b, c, d] ↔ n = 4 ∧ t p = a ∧ t (p + 1) = b ∧ t (p + 2) = c ∧ t (p + 3) = d := by
  constructor
  · rintro ⟨h1, h2⟩
    exact ⟨h1, h2 0 (Nat.le_of_ble_eq_true rfl), h2 1 (Nat.le_of_ble_eq_true rfl), h2 2 (Nat.le_of_ble_eq_true rfl), h2 3 (Nat.le_of_ble_eq_true rfl)⟩
  · rintro ⟨h1, h2, h3, h4, h5⟩
    refine ⟨h1, fun i hi => ?_⟩
    have hi2 : i < 4 := hi
    rcases (show i = 0 ∨ i = 1 ∨ i = 2 ∨ i = 3 by omega) with rfl | rfl | rfl | rfl <;> assumption
theorem isW3 {t : Nat → Int} {p n : Nat} {a b c : Int} : isW t p n [a, b, c] ↔ n = 3 ∧ t p = a ∧ t (p + 1) = b ∧ t (p + 2) = c := by
  constructor
  · rintro ⟨h1, h2⟩
    exact ⟨h1, h2 0 (Nat.le_of_ble_eq_true rfl), h2 1 (Nat.le_of_ble_eq_true rfl), h2 2 (Nat.le_of_ble_eq_true rfl)⟩
  · rintro ⟨h1, h2, h3, h4⟩
    refine ⟨h1, fun i hi => ?_⟩
    have hi2 : i < 3 := hi
    rcases (show i = 0 ∨ i = 1 ∨ i = 2 by omega) with rfl | rfl | rfl <;> assumption
def cScene : List Int := [115, 99, 101, 110, 101]
def cRole : List Int := [114, 111, 108, 101]
def cEnter : List Int := [101, 110, 116, 101, 114]
def cLow : List Int := [108, 111, 119]
def cHigh : List Int := [104, 105, 103, 104]
def cChild : List Int := [99, 104, 105, 108, 100]
theorem wd5 {t : Nat → Int} {p n : Nat} {a b c d e : Int} (ha : 97 ≤ a ∧ a ≤ 122) (hb : 97 ≤ b ∧ b ≤ 122) (hc : 97 ≤ c ∧ c ≤ 122) (hd : 97 ≤ d ∧ d ≤ 122) (he : 97 ≤ e ∧ e ≤ 122) : wdV t p n = nmd a b c d e ↔ isW t p n [a, b, c, d, e] := by
  have en : nmd a b c d e = 32 * (32 * (32 * (32 * (a - 96) + (b - 96)) + (c - 96)) + (d - 96)) + (e - 96) := by
    unfold nmd
    rw [if_neg (by omega), if_neg (by omega)]
    omega
  rw [en, isW5]
  constructor
  · intro h
    rcases wdV_cases t p n with h1 | h1 | h1 | h1 | h1 | h1 <;> omega
  · rintro ⟨rfl, h1, h2, h3, h4, h5⟩
    have hl : ltI t p 5 ≠ 0 := (ltI_iff t p 5).mpr ⟨by omega, fun i hi => by
      rcases (show i = 0 ∨ i = 1 ∨ i = 2 ∨ i = 3 ∨ i = 4 by omega) with rfl | rfl | rfl | rfl | rfl
      · rw [Nat.add_zero]; omega
      all_goals omega⟩
    unfold wdV
    rw [if_pos ⟨hl, by omega⟩, wv5 hl, h1, h2, h3, h4, h5]
theorem wd4 {t : Nat → Int} {p n : Nat} {a b c d : Int} (ha : 97 ≤ a ∧ a ≤ 122) (hb : 97 ≤ b ∧ b ≤ 122) (hc : 97 ≤ c ∧ c ≤ 122) (hd : 97 ≤ d ∧ d ≤ 122) : wdV t p n = nmd a b c d 0 ↔ isW t p n [a, b, c, d] := by
  have en : nmd a b c d 0 = 32 * (32 * (32 * (a - 96) + (b - 96)) + (c - 96)) + (d - 96) := by
    unfold nmd
    rw [if_pos rfl, if_neg (by omega)]
    omega
  rw [en, isW4]
  constructor
  · intro h
    rcases wdV_cases t p n with h1 | h1 | h1 | h1 | h1 | h1 <;> omega
  · rintro ⟨rfl, h1, h2, h3, h4⟩
    have hl : ltI t p 4 ≠ 0 := (ltI_iff t p 4).mpr ⟨by omega, fun i hi => by
      rcases (show i = 0 ∨ i = 1 ∨ i = 2 ∨ i = 3 by omega) with rfl | rfl | rfl | rfl
      · rw [Nat.add_zero]; omega
      all_goals omega⟩
    unfold wdV
    rw [if_pos ⟨hl, by omega⟩, wv4 hl, h1, h2, h3, h4]
theorem wd3 {t : Nat → Int} {p n : Nat} {a b c : Int} (ha : 97 ≤ a ∧ a ≤ 122) (hb : 97 ≤ b ∧ b ≤ 122) (hc : 97 ≤ c ∧ c ≤ 122) : wdV t p n = nmd a b c 0 0 ↔ isW t p n [a, b, c] := by
  have en : nmd a b c 0 0 = 32 * (32 * (a - 96) + (b - 96)) + (c - 96) := by
    unfold nmd
    rw [if_pos rfl, if_pos rfl]
    omega
  rw [en, isW3]
  constructor
  · intro h
    rcases wdV_cases t p n with h1 | h1 | h1 | h1 | h1 | h1 <;> omega
  · rintro ⟨rfl, h1, h2, h3⟩
    have hl : ltI t p 3 ≠ 0 := (ltI_iff t p 3).mpr ⟨by omega, fun i hi => by
      rcases (show i = 0 ∨ i = 1 ∨ i = 2 by omega) with rfl | rfl | rfl
      · rw [Nat.add_zero]; omega
      all_goals omega⟩
    unfold wdV
    rw [if_pos ⟨hl, by omega⟩, wv3 hl, h1, h2, h3]
/-- digits, and their number -/
def dg (t : Nat → Int) (p : Nat) : Nat → Nat
  | 0 => 1
  | i + 1 => if dg t p i ≠ 0 ∧ 48 ≤ t (p + i) ∧ t (p + i) ≤ 57 then 1 else 0
def nv (t : Nat → Int) (p : Nat) : Nat → Int
  | 0 => 0
  | i + 1 => 10 * nv t p i + (t (p + i) - 48)
/-- a blank and a number at p: the number, and the place behind it -/
def num1 (t : Nat → Int) (L p : Nat) : Option (Int × Nat) := if (p < L ∧ t p = 32) ∧ (1 ≤ we t L (p + 1) - (p + 1) ∧ we t L (p + 1) - (p + 1) ≤ 3) ∧ dg t (p + 1) (we t L (p + 1) - (p + 1)) ≠ 0 then some (nv t (p + 1) (we t L (p + 1) - (p + 1)), we t L (p + 1)) else none
def fgI (t : Nat → Int) (p : Nat) : Nat → Nat
  | 0 => 0
  | i + 1 => if 48 ≤ t (p + i) ∧ t (p + i) ≤ 57 then fgI t p i + 1 else 9
def vI (t : Nat → Int) (p : Nat) : Nat → Int
  | 0 => 0
  | i + 1 => if fgI t p (i + 1) < 4 then (10 * vI t p i + t (p + i)) - 48 else vI t p i
theorem fgI_dg (t : Nat → Int) (p : Nat) : ∀ n, (dg t p n ≠ 0 → fgI t p n = n) ∧ (dg t p n = 0 → 9 ≤ fgI t p n) ∧ fgI t p n ≤ 9 + n
  | 0 => by simp [dg, fgI]
  | n + 1 => by
    have ih := fgI_dg t p n
    simp only [dg, fgI]
    split <;> split <;> omega
theorem vI_b (t : Nat → Int) (p : Nat) : ∀ n, ((fgI t p n < 4 → fgI t p n = n ∧ vI t p n = nv t p n ∧ 0 ≤ vI t p n ∧ vI t p n < 10 ^ n) ∧ 0 ≤ vI t p n ∧ vI t p n ≤ 999)
  | 0 => by simp [vI, nv, fgI]
  | n + 1 => by
    have ih := vI_b t p n
    have hf := fgI_dg t p n
    by_cases h : fgI t p (n + 1) < 4
    · have hd : 48 ≤ t (p + n) ∧ t (p + n) ≤ 57 := by
        by_cases e : 48 ≤ t (p + n) ∧ t (p + n) ≤ 57
        · exact e
        · rw [fgI, if_neg e] at h; omega
      have he : fgI t p (n + 1) = fgI t p n + 1 := by rw [fgI, if_pos hd]
      have h3 := ih.1 (by omega)
      have hp : (10 : Int) ^ (n + 1) = 10 * 10 ^ n := by rw [Int.pow_succ]; omega
      have ev : vI t p (n + 1) = (10 * vI t p n + t (p + n)) - 48 := by rw [vI, if_pos h]
      have en : nv t p (n + 1) = 10 * nv t p n + (t (p + n) - 48) := rfl
      have hn : n = 0 ∨ n = 1 ∨ n = 2 := by omega
      refine ⟨fun _ => ⟨by omega, by omega, by omega, by rw [hp]; omega⟩, by omega, ?_⟩
      rcases hn with rfl | rfl | rfl
      · have : vI t p 0 < 1 := h3.2.2.2
        omega
      · have : vI t p 1 < 10 := h3.2.2.2
        omega
      · have : vI t p 2 < 100 := h3.2.2.2
        omega
    · have ev : vI t p (n + 1) = vI t p n := by rw [vI, if_neg h]
      exact ⟨fun z => absurd z h, by rw [ev]; exact ih.2⟩
theorem num1_fg {t : Nat → Int} {L p : Nat} (h : p < L ∧ t p = 32) : num1 t L p = (if 1 ≤ fgI t (p + 1) (we t L (p + 1) - (p + 1)) ∧ fgI t (p + 1) (we t L (p + 1) - (p + 1)) ≤ 3 then some (vI t (p + 1) (we t L (p + 1) - (p + 1)), we t L (p + 1)) else none) := by
  generalize hn : we t L (p + 1) - (p + 1) = n
  have h1 := fgI_dg t (p + 1) n
  have h2 := vI_b t (p + 1) n
  unfold num1
  rw [hn]
  by_cases e : 1 ≤ fgI t (p + 1) n ∧ fgI t (p + 1) n ≤ 3
  · have h3 := h2.1 (by omega)
    rw [if_pos e, if_pos ⟨h, by omega, fun z => by have := h1.2.1 z; omega⟩, h3.2.1]
  · rw [if_neg e, if_neg (fun z => e (by have := h1.1 z.2.2; omega))]
/-! ===== a statement ===== -/
def bnd {α : Type} (o : Option (Int × Nat)) (k : Int → Nat → α) (d : α) : α := match o with
  | none => d
  | some q => k q.1 q.2
theorem bnd_none {α : Type} (k : Int → Nat → α) (d : α) : bnd none k d = d := rfl
theorem bnd_some {α : Type} (x : Int) (e : Nat) (k : Int → Nat → α) (d : α) : bnd (some (x, e)) k d = k x e := rfl
abbrev StT : Type := Nat × Nat × (Nat → Int)
def stScene (t : Nat → Int) (L e : Nat) (v : Nat → Int) : StT :=
  bnd (num1 t L e) (fun x e1 => if e1 < L ∧ t e1 = 59 then (if 1 ≤ x ∧ x ≤ 99 then (if ns v < 10 then (0, e1 + 1, addScene v x) else (4, 0, v)) else (3, 0, v)) else (2, 0, v)) (2, 0, v)
def stNums (t : Nat → Int) (L e : Nat) (v : Nat → Int) (k : Int) : StT :=
  bnd (num1 t L e) (fun o e1 => bnd (num1 t L e1) (fun i e2 => if e2 < L ∧ t e2 = 59 then (if o ≤ 60 ∧ i ≤ 60 then (if nr v < 8 then (0, e2 + 1, addRole v k o i) else (4, 0, v)) else (3, 0, v)) else (2, 0, v)) (2, 0, v)) (2, 0, v)
def stRole (t : Nat → Int) (L e : Nat) (v : Nat → Int) : StT :=
  if e < L ∧ t e = 32 then
    (if wdV t (e + 1) (we t L (e + 1) - (e + 1)) = nmd 108 111 119 0 0 then stNums t L (we t L (e + 1)) v 0
     else if wdV t (e + 1) (we t L (e + 1) - (e + 1)) = nmd 104 105 103 104 0 then stNums t L (we t L (e + 1)) v 1
     else if wdV t (e + 1) (we t L (e + 1) - (e + 1)) = nmd 99 104 105 108 100 then stNums t L (we t L (e + 1)) v 2
     else (1, 0, v))
  else (2, 0, v)
def stEnter (t : Nat → Int) (L e : Nat) (v : Nat → Int) : StT :=
  bnd (num1 t L e) (fun r e1 => bnd (num1 t L e1) (fun c e2 => bnd (num1 t L e2) (fun n e3 => bnd (num1 t L e3) (fun x e4 => if e4 < L ∧ t e4 = 59 then (if r < ((nr v : Nat) : Int) ∧ c < ((ns v : Nat) : Int) ∧ n < x ∧ x ≤ v (1 + c.toNat) then (if na v < 20 then (0, e4 + 1, addApp v r c n x) else (4, 0, v)) else (3, 0, v)) else (2, 0, v)) (2, 0, v)) (2, 0, v)) (2, 0, v)) (2, 0, v)
def stm (t : Nat → Int) (L p : Nat) (v : Nat → Int) : StT :=
  if wdV t p (we t L p - p) = nmd 115 99 101 110 101 then stScene t L (we t L p) v
  else if wdV t p (we t L p - p) = nmd 114 111 108 101 0 then stRole t L (we t L p) v
  else if wdV t p (we t L p - p) = nmd 101 110 116 101 114 then stEnter t L (we t L p) v
  else (1, 0, v)
theorem num1_b {t : Nat → Int} {L p : Nat} {x : Int} {e : Nat} (h : num1 t L p = some (x, e)) : p < e ∧ e ≤ L ∧ 0 ≤ x ∧ x ≤ 999 := by
  unfold num1 at h
  split at h
  · rename_i h1
    have h2 := we_le t L _ (p + 1) rfl (by omega)
    have h3 := vI_b t (p + 1) (we t L (p + 1) - (p + 1))
    have h4 := fgI_dg t (p + 1) (we t L (p + 1) - (p + 1))
    have h5 := h3.1 (by have := h4.1 h1.2.2; omega)
    simp only [Option.some.injEq, Prod.mk.injEq] at h
    omega
  · cases h
theorem bnd_cases {P : StT → Prop} {o : Option (Int × Nat)} {k : Int → Nat → StT} {d : StT} (hd : P d) (hk : ∀ x e, o = some (x, e) → P (k x e)) : P (bnd o k d) := by
  cases o with
  | none => exact hd
  | some q => exact hk q.1 q.2 rfl
/-- a statement that is read has signs, keeps the row well, and one that isn't leaves the row -/
def stGood (L p : Nat) (v : Nat → Int) (q : StT) : Prop := (q.1 = 0 → p < q.2.1 ∧ q.2.1 ≤ L ∧ okR q.2.2) ∧ (q.1 ≠ 0 → q.2.2 = v) ∧ q.1 ≤ 4
theorem stGood_bad {L p : Nat} {v : Nat → Int} {r n : Nat} (h : r ≠ 0) (h4 : r ≤ 4) : stGood L p v (r, n, v) := ⟨fun z => absurd z h, fun _ => rfl, h4⟩
theorem stNums_good {t : Nat → Int} {L p e : Nat} {v : Nat → Int} {k : Int} (hv : okR v) (hp : p ≤ e) (hk : 0 ≤ k ∧ k ≤ 2) : stGood L p v (stNums t L e v k) := by
  unfold stNums
  refine bnd_cases (stGood_bad (by omega) (by omega)) (fun o e1 h1 => ?_)
  have b1 := num1_b h1
  refine bnd_cases (stGood_bad (by omega) (by omega)) (fun i e2 h2 => ?_)
  have b2 := num1_b h2
  split
  · split
    · split
      · exact ⟨fun _ => ⟨by show p < e2 + 1; omega, by show e2 + 1 ≤ L; omega, okR_addRole hv (by omega) hk (by omega) (by omega)⟩, fun z => absurd rfl z, by show 0 ≤ 4; omega⟩
      · exact stGood_bad (by omega) (by omega)
    · exact stGood_bad (by omega) (by omega)
  · exact stGood_bad (by omega) (by omega)
theorem stm_good {t : Nat → Int} {L p : Nat} {v : Nat → Int} (hv : okR v) : stGood L p v (stm t L p v) := by
  have hw := we_ge t L _ p rfl
  unfold stm
  split
  · unfold stScene
    refine bnd_cases (stGood_bad (by omega) (by omega)) (fun x e1 h1 => ?_)
    have b1 := num1_b h1
    split
    · split
      · split
        · exact ⟨fun _ => ⟨by show p < e1 + 1; omega, by show e1 + 1 ≤ L; omega, okR_addScene hv (by omega) (by omega)⟩, fun z => absurd rfl z, by show 0 ≤ 4; omega⟩
        · exact stGood_bad (by omega) (by omega)
      · exact stGood_bad (by omega) (by omega)
    · exact stGood_bad (by omega) (by omega)
  · split
    · unfold stRole
      have hw2 := we_ge t L _ (we t L p + 1) rfl
      split
      · split
        · exact stNums_good hv (by omega) (by omega)
        · split
          · exact stNums_good hv (by omega) (by omega)
          · split
            · exact stNums_good hv (by omega) (by omega)
            · exact stGood_bad (by omega) (by omega)
      · exact stGood_bad (by omega) (by omega)
    · split
      · unfold stEnter
        refine bnd_cases (stGood_bad (by omega) (by omega)) (fun r e1 h1 => ?_)
        have b1 := num1_b h1
        refine bnd_cases (stGood_bad (by omega) (by omega)) (fun c e2 h2 => ?_)
        have b2 := num1_b h2
        refine bnd_cases (stGood_bad (by omega) (by omega)) (fun n e3 h3 => ?_)
        have b3 := num1_b h3
        refine bnd_cases (stGood_bad (by omega) (by omega)) (fun x e4 h4 => ?_)
        have b4 := num1_b h4
        split
        · split
          · rename_i hx
            have h10 := hv.ns10
            have h99 := hv.2.2.2.1 c.toNat (by omega)
            split
            · exact ⟨fun _ => ⟨by show p < e4 + 1; omega, by show e4 + 1 ≤ L; omega, okR_addApp hv (by omega) (by omega) (by omega) (by omega)⟩, fun z => absurd rfl z, by show 0 ≤ 4; omega⟩
            · exact stGood_bad (by omega) (by omega)
          · exact stGood_bad (by omega) (by omega)
        · exact stGood_bad (by omega) (by omega)
      · exact stGood_bad (by omega) (by omega)
/-- all statements from p on: the first that is malformed or -1004, its reason, the row -/
def rdS (t : Nat → Int) (L : Nat) : Nat → (Nat → Int) → Nat → Int × Nat × (Nat → Int)
  | _, v, 0 => (-1004, 0, v)
  | p, v, f + 1 => if p < L then (if (stm t L p v).1 = 0 then rdS t L (stm t L p v).2.1 (stm t L p v).2.2 f else (((p : Nat) : Int), (stm t L p v).1, (stm t L p v).2.2)) else (-1004, 0, v)
def rdA (t : Nat → Int) (L : Nat) : Int × Nat × (Nat → Int) := rdS t L 0 eR (L + 1)
theorem rdS_ok {t : Nat → Int} {L : Nat} : ∀ (f p : Nat) (v : Nat → Int), okR v → okR (rdS t L p v f).2.2
  | 0, p, v, hv => hv
  | f + 1, p, v, hv => by
    have hg := stm_good (t := t) (L := L) (p := p) hv
    rw [rdS]
    split
    · split
      · rename_i h0
        exact rdS_ok f _ _ (hg.1 h0).2.2
      · rename_i h0
        show okR (stm t L p v).2.2
        rw [hg.2.1 h0]
        exact hv
    · exact hv
theorem okR_rdA (t : Nat → Int) (L : Nat) : okR (rdA t L).2.2 := rdS_ok _ _ _ okR_eR
def opErr (t : Nat → Int) (L : Nat) : Int := if (rdA t L).1 = -1004 then -1004 else (((rdA t L).2.1 : Nat) : Int)
def opCnf (v kp : Nat → Int) (kn : Nat) (t : Nat → Int) (L : Nat) : OpT := if (rdA t L).1 = -1004 ∧ ns (rdA t L).2.2 ≠ 0 ∧ nr (rdA t L).2.2 ≠ 0 then (((nr (rdA t L).2.2 : Nat) : Int), (rdA t L).2.2, kp, 0) else (-1002, v, kp, kn)
