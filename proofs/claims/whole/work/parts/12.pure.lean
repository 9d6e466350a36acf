/-! ===== cells whose contents agree where it counts ===== -/
theorem arrV_congr {c : ClassId} {n : Nat} {f g : Nat → Value} (h : ∀ k, k < n → f k = g k) : arrV c n f = arrV c n g := by
  unfold arrV
  congr 1
  apply Array.ext
  · simp
  · intro i h1 h2
    simp at h1
    simp [h i h1]
theorem Hold.cong {X : XT} {A : Nat → Prop} {w w2 : va_W} {H : Heap} (hH : Hold X A w H) (q0 : Nat) {a n : Nat} {g g2 : Nat → Int} (he : w[q0]? = some (ia X a n g)) (h : ∀ k, k < n → g k = g2 k) (hw : w.set q0 (ia X a n g2) = w2) : Hold X A w2 H := by
  subst hw
  refine ⟨hH.1.set hH.2 he ?_ (fun q _ => rfl), hH.2.set he⟩
  have h1 := hH.1 q0 _ he
  show H[a]? = some (vp_cell _ _)
  have h2 : H[a]? = some (vp_cell (X.2.1 0) (n, .inl (zA g))) := h1
  rw [h2, vp_cell_i, vp_cell_i]
  congr 1
  apply arrV_congr
  intro k hk
  show Value.int (iI (g k)) = Value.int (iI (g2 k))
  rw [h k hk]
/-! ===== a row of the reference ===== -/
def nr (v : Nat → Int) : Nat := (v 11).toNat
def na (v : Nat → Int) : Nat := (v 44).toNat
def ns (v : Nat → Int) : Nat := (v 0).toNat
def rl (v : Nat → Int) (a : Nat) : Nat := (v (45 + (4 * a))).toNat
def sn (v : Nat → Int) (a : Nat) : Nat := (v ((45 + (4 * a)) + 1)).toNat
def st (v : Nat → Int) : Nat → Int
  | 0 => 0
  | k + 1 => st v k + v (1 + k)
def eT (v : Nat → Int) (a : Nat) : Int := st v (sn v a) + v ((45 + (4 * a)) + 2)
def xT (v : Nat → Int) (a : Nat) : Int := st v (sn v a) + v ((45 + (4 * a)) + 3)
def okR (v : Nat → Int) : Prop :=
  (0 ≤ v 0 ∧ v 0 ≤ 10) ∧ (0 ≤ v 11 ∧ v 11 ≤ 8) ∧ (0 ≤ v 44 ∧ v 44 ≤ 20) ∧ (∀ i, i < 10 → 0 ≤ v (1 + i) ∧ v (1 + i) ≤ 99) ∧
  (∀ r, r < 8 → (0 ≤ v (12 + r) ∧ v (12 + r) ≤ 2) ∧ (0 ≤ v (20 + r) ∧ v (20 + r) ≤ 60) ∧ (0 ≤ v (28 + r) ∧ v (28 + r) ≤ 60) ∧ (-1 ≤ v (36 + r) ∧ v (36 + r) ≤ 7)) ∧
  (∀ a, a < 20 → (0 ≤ v (45 + (4 * a)) ∧ v (45 + (4 * a)) ≤ 7) ∧ (0 ≤ v ((45 + (4 * a)) + 1) ∧ v ((45 + (4 * a)) + 1) ≤ 9) ∧ (0 ≤ v ((45 + (4 * a)) + 2) ∧ v ((45 + (4 * a)) + 2) ≤ 99) ∧ (0 ≤ v ((45 + (4 * a)) + 3) ∧ v ((45 + (4 * a)) + 3) ≤ 99)) ∧
  (∀ a : Nat, (a : Int) < v 44 → v (45 + (4 * a)) < v 11 ∧ v ((45 + (4 * a)) + 1) < v 0 ∧ v ((45 + (4 * a)) + 2) < v ((45 + (4 * a)) + 3))
theorem okR.e11 {v : Nat → Int} (h : okR v) : v 11 = ((nr v : Nat) : Int) := by
  have := h.2.1
  unfold nr
  omega
theorem okR.e44 {v : Nat → Int} (h : okR v) : v 44 = ((na v : Nat) : Int) := by
  have := h.2.2.1
  unfold na
  omega
theorem okR.e0 {v : Nat → Int} (h : okR v) : v 0 = ((ns v : Nat) : Int) := by
  have := h.1
  unfold ns
  omega
theorem okR.nr8 {v : Nat → Int} (h : okR v) : nr v ≤ 8 := by
  have := h.2.1
  unfold nr
  omega
theorem okR.na20 {v : Nat → Int} (h : okR v) : na v ≤ 20 := by
  have := h.2.2.1
  unfold na
  omega
theorem okR.ns10 {v : Nat → Int} (h : okR v) : ns v ≤ 10 := by
  have := h.1
  unfold ns
  omega
theorem okR.rlE {v : Nat → Int} (h : okR v) (a : Nat) (ha : a < 20) : v (45 + (4 * a)) = ((rl v a : Nat) : Int) := by
  have := (h.2.2.2.2.2.1 a ha).1
  unfold rl
  omega
theorem okR.rl8 {v : Nat → Int} (h : okR v) (a : Nat) (ha : a < 20) : rl v a < 8 := by
  have := (h.2.2.2.2.2.1 a ha).1
  unfold rl
  omega
theorem okR.rlr {v : Nat → Int} (h : okR v) (a : Nat) (ha : a < na v) : rl v a < nr v := by
  have h1 := h.na20
  have h2 := (h.2.2.2.2.2.2 a (by rw [h.e44]; omega)).1
  have h3 := h.e11
  have h4 := h.rlE a (by omega)
  omega
theorem okR.snE {v : Nat → Int} (h : okR v) (a : Nat) (ha : a < 20) : v ((45 + (4 * a)) + 1) = ((sn v a : Nat) : Int) := by
  have := (h.2.2.2.2.2.1 a ha).2.1
  unfold sn
  omega
theorem okR.sn10 {v : Nat → Int} (h : okR v) (a : Nat) (ha : a < 20) : sn v a < 10 := by
  have := (h.2.2.2.2.2.1 a ha).2.1
  unfold sn
  omega
theorem okR.stB {v : Nat → Int} (h : okR v) : ∀ (k : Nat), k ≤ 10 → 0 ≤ st v k ∧ st v k ≤ 99 * (k : Int)
  | 0, _ => by simp [st]
  | k + 1, hk => by
    have h1 := okR.stB h k (by omega)
    have h2 := h.2.2.2.1 k (by omega)
    simp only [st]
    omega
theorem okR.stR {v : Nat → Int} (h : okR v) (k : Nat) (hk : k ≤ 10) : inR (st v k) := by
  have := h.stB k hk
  omega
theorem okR.eTB {v : Nat → Int} (h : okR v) (a : Nat) (ha : a < 20) : 0 ≤ eT v a ∧ eT v a ≤ 1089 := by
  have h1 := h.stB (sn v a) (by have := h.sn10 a ha; omega)
  have h2 := h.sn10 a ha
  have h3 := (h.2.2.2.2.2.1 a ha).2.2.1
  unfold eT
  omega
theorem okR.xTB {v : Nat → Int} (h : okR v) (a : Nat) (ha : a < 20) : 0 ≤ xT v a ∧ xT v a ≤ 1089 := by
  have h1 := h.stB (sn v a) (by have := h.sn10 a ha; omega)
  have h2 := h.sn10 a ha
  have h3 := (h.2.2.2.2.2.1 a ha).2.2.2
  unfold xT
  omega
theorem okR.eTR {v : Nat → Int} (h : okR v) (a : Nat) (ha : a < 20) : inR (eT v a) := by
  have := h.eTB a ha
  omega
theorem okR.xTR {v : Nat → Int} (h : okR v) (a : Nat) (ha : a < 20) : inR (xT v a) := by
  have := h.xTB a ha
  omega
theorem okR.lo {v : Nat → Int} (h : okR v) (k : Nat) (hk : k < 125) : -1 ≤ v k ∧ v k ≤ 99 := by
  rcases (show k = 0 ∨ (1 ≤ k ∧ k < 11) ∨ k = 11 ∨ (12 ≤ k ∧ k < 20) ∨ (20 ≤ k ∧ k < 28) ∨ (28 ≤ k ∧ k < 36) ∨ (36 ≤ k ∧ k < 44) ∨ k = 44 ∨ 45 ≤ k by omega) with h0 | h0 | h0 | h0 | h0 | h0 | h0 | h0 | h0
  · subst h0; have := h.1; omega
  · obtain ⟨i, rfl⟩ : ∃ i, k = 1 + i := ⟨k - 1, by omega⟩
    have := h.2.2.2.1 i (by omega); omega
  · subst h0; have := h.2.1; omega
  · obtain ⟨i, rfl⟩ : ∃ i, k = 12 + i := ⟨k - 12, by omega⟩
    have := (h.2.2.2.2.1 i (by omega)).1; omega
  · obtain ⟨i, rfl⟩ : ∃ i, k = 20 + i := ⟨k - 20, by omega⟩
    have := (h.2.2.2.2.1 i (by omega)).2.1; omega
  · obtain ⟨i, rfl⟩ : ∃ i, k = 28 + i := ⟨k - 28, by omega⟩
    have := (h.2.2.2.2.1 i (by omega)).2.2.1; omega
  · obtain ⟨i, rfl⟩ : ∃ i, k = 36 + i := ⟨k - 36, by omega⟩
    have := (h.2.2.2.2.1 i (by omega)).2.2.2; omega
  · subst h0; have := h.2.2.1; omega
  · obtain ⟨a, j, hj, rfl⟩ : ∃ a j, j < 4 ∧ k = (45 + (4 * a)) + j := ⟨(k - 45) / 4, (k - 45) % 4, by omega, by omega⟩
    have h1 := h.2.2.2.2.2.1 a (by omega)
    rcases (show j = 0 ∨ j = 1 ∨ j = 2 ∨ j = 3 by omega) with rfl | rfl | rfl | rfl
    · have h2 := h1.1
      rw [Nat.add_zero]
      omega
    · have := h1.2.1; omega
    · have := h1.2.2.1; omega
    · have := h1.2.2.2; omega
theorem okR.inRk {v : Nat → Int} (h : okR v) (k : Nat) (hk : k < 125) : inR (v k) := by
  have := h.lo k hk
  omega
/-! ===== bits ===== -/
def popF : Nat → Nat → Nat
  | 0, _ => 0
  | f + 1, n => if n = 0 then 0 else 1 + popF f (n &&& (n - 1))
def pop (n : Nat) : Nat := popF 8 n
theorem pop_s : ∀ n, n < 256 → n ≠ 0 → (pop n = 1 + pop (n &&& (n - 1)) ∧ (n &&& (n - 1)) < n) := by decide +kernel
theorem pop_8 : ∀ n, n < 256 → pop n ≤ 8 := by decide +kernel
/-- the roles on stage at a time, out of the first appearances -/
def ra (v : Nat → Int) (t : Int) : Nat → Nat
  | 0 => 0
  | a + 1 => if eT v a ≤ t ∧ t < xT v a then ra v t a ||| 2 ^ rl v a else ra v t a
theorem or_lt256 {a r : Nat} (ha : a < 256) (hr : r < 8) : a ||| 2 ^ r < 256 := by
  have h : 2 ^ r < 2 ^ 8 := Nat.pow_lt_pow_right (by omega) hr
  exact Nat.or_lt_two_pow (n := 8) ha h
theorem ra_lt {v : Nat → Int} (h : okR v) (t : Int) : ∀ a, a ≤ 20 → ra v t a < 256
  | 0, _ => by simp [ra]
  | a + 1, ha => by
    have h1 := ra_lt h t a (by omega)
    simp only [ra]
    split
    · exact or_lt256 h1 (h.rl8 a (by omega))
    · exact h1
/-- the roles of an actor, out of the first roles -/
def cb (v : Nat → Int) (x : Int) : Nat → Nat
  | 0 => 0
  | r + 1 => if v (36 + r) = x then cb v x r ||| 2 ^ r else cb v x r
theorem cb_lt {v : Nat → Int} (x : Int) : ∀ r, r ≤ 8 → cb v x r < 256
  | 0, _ => by simp [cb]
  | r + 1, hr => by
    have h1 := cb_lt (v := v) x r (by omega)
    simp only [cb]
    split
    · exact or_lt256 h1 (by omega)
    · exact h1
def ris (v : Nat → Int) (c : Int) : Nat → Nat
  | 0 => 0
  | a + 1 => if v ((45 + (4 * a)) + 1) = c then ris v c a ||| 2 ^ rl v a else ris v c a
theorem ris_lt {v : Nat → Int} (h : okR v) (t : Int) : ∀ a, a ≤ 20 → ris v t a < 256
  | 0, _ => by simp [ris]
  | a + 1, ha => by
    have h1 := ris_lt h t a (by omega)
    simp only [ris]
    split
    · exact or_lt256 h1 (h.rl8 a (by omega))
    · exact h1
/-- the greatest number on stage at an entrance, out of the first appearances -/
def pk (v : Nat → Int) : Nat → Nat
  | 0 => 0
  | a + 1 => if pk v a < pop (ra v (eT v a) (na v)) then pop (ra v (eT v a) (na v)) else pk v a
