/-! ===== conflicts, as the reference lays them ===== -/
theorem iI_and1 (a : Nat) : iI (a : Int) &&& iI ((1 : Nat) : Int) = iI ((a % 2 : Nat) : Int) := by
  rw [iI_and, Nat.and_one_is_mod]
theorem nar_b {n : Nat} (h : n ≤ 1) : narrow .boolean (.int (iI (n : Int))) = .int (iI (n : Int)) := by
  rcases (show n = 0 ∨ n = 1 by omega) with rfl | rfl
  · rfl
  · rfl
def ovI (v : Nat → Int) (p q a : Nat) : Nat → Nat → Nat
  | 0, x => x
  | b + 1, x => if ovI v p q a b x ≠ 0 ∨ (rl v a = p ∧ rl v b = q ∧ eT v a < xT v b ∧ eT v b < xT v a) then 1 else 0
def ovO (v : Nat → Int) (p q : Nat) : Nat → Nat
  | 0 => 0
  | a + 1 => ovI v p q a (na v) (ovO v p q a)
def ov (v : Nat → Int) (p q : Nat) : Nat := ovO v p q (na v)
def chT (v : Nat → Int) (p q : Nat) (f : Int) : Int := if v (20 + p) + v (28 + q) - f < 0 then 0 else v (20 + p) + v (28 + q) - f
def roI (v : Nat → Int) (p q : Nat) (f : Int) (a : Nat) : Nat → Int → Int
  | 0, x => x
  | b + 1, x => if rl v a = p ∧ rl v b = q ∧ 0 ≤ eT v b - xT v a ∧ (eT v b - xT v a) - chT v p q f < roI v p q f a b x then (eT v b - xT v a) - chT v p q f else roI v p q f a b x
def roO (v : Nat → Int) (p q : Nat) (f : Int) : Nat → Int
  | 0 => 100000
  | a + 1 => roI v p q f a (na v) (roO v p q f a)
def rm (v : Nat → Int) (p q : Nat) (f : Int) : Int := roO v p q f (na v)
theorem okR.chB {v : Nat → Int} (h : okR v) (p q : Nat) (f : Int) (hp : p < 8) (hq : q < 8) (hf : 0 ≤ f) : 0 ≤ chT v p q f ∧ chT v p q f ≤ 120 := by
  have h1 := (h.2.2.2.2.1 p hp).2.1
  have h2 := (h.2.2.2.2.1 q hq).2.2.1
  unfold chT
  split <;> omega
theorem okR.roIB {v : Nat → Int} (h : okR v) (p q : Nat) (f : Int) (hp : p < 8) (hq : q < 8) (hf : 0 ≤ f) (a : Nat) (ha : a < 20) : ∀ (b : Nat) (x : Int), b ≤ 20 → (-2000 ≤ x ∧ x ≤ 100000) → -2000 ≤ roI v p q f a b x ∧ roI v p q f a b x ≤ 100000
  | 0, x, _, hx => hx
  | b + 1, x, hb, hx => by
    have h1 := okR.roIB h p q f hp hq hf a ha b x (by omega) hx
    have h2 := h.chB p q f hp hq hf
    have h3 := h.eTB b (by omega)
    have h4 := h.xTB a ha
    simp only [roI]
    split <;> omega
theorem okR.roOB {v : Nat → Int} (h : okR v) (p q : Nat) (f : Int) (hp : p < 8) (hq : q < 8) (hf : 0 ≤ f) : ∀ (a : Nat), a ≤ 20 → -2000 ≤ roO v p q f a ∧ roO v p q f a ≤ 100000
  | 0, _ => by simp [roO]
  | a + 1, ha => h.roIB p q f hp hq hf a (by omega) (na v) _ h.na20 (okR.roOB h p q f hp hq hf a (by omega))
theorem okR.rmB {v : Nat → Int} (h : okR v) (p q : Nat) (f : Int) (hp : p < 8) (hq : q < 8) (hf : 0 ≤ f) : -2000 ≤ rm v p q f ∧ rm v p q f ≤ 100000 := h.roOB p q f hp hq hf (na v) h.na20
def rsn (v : Nat → Int) (p q : Nat) (f : Int) : Nat := if v (12 + p) ≠ v (12 + q) then 1 else if ov v p q ≠ 0 then 2 else if rm v p q f < 0 ∨ rm v q p f < 0 then 3 else 0
theorem rsn3 (v : Nat → Int) (p q : Nat) (f : Int) : rsn v p q f ≤ 3 := by
  unfold rsn
  (repeat' split) <;> omega
def mk (v : Nat → Int) (f : Int) (p : Nat) : Nat → Nat
  | 0 => 0
  | q + 1 => if p ≠ q ∧ rsn v p q f ≠ 0 then mk v f p q ||| 2 ^ q else mk v f p q
theorem mk_lt (v : Nat → Int) (f : Int) (p : Nat) : ∀ q, q ≤ 8 → mk v f p q < 256
  | 0, _ => by simp [mk]
  | q + 1, hq => by
    have h1 := mk_lt v f p q (by omega)
    simp only [mk]
    split
    · exact or_lt256 h1 (by omega)
    · exact h1
def wiO (v : Nat → Int) (f : Int) (wi : Nat → Int) (P : Nat) : Nat → Int := fun k => if k < P then ((mk v f k (nr v) : Nat) : Int) else wi k
def wiF (v : Nat → Int) (f : Int) (wi : Nat → Int) : Nat → Int := wiO v f wi (nr v)
theorem wiF_at {v : Nat → Int} {f : Int} {wi : Nat → Int} {k : Nat} (h : k < nr v) : wiF v f wi k = ((mk v f k (nr v) : Nat) : Int) := if_pos h
def ccS (v : Nat → Int) : Nat → Nat
  | 0 => 0
  | p + 1 => ccS v p + pop (mk v 0 p (nr v))
theorem ccS_le (v : Nat → Int) (h : nr v ≤ 8) : ∀ p, ccS v p ≤ 8 * p
  | 0 => by simp [ccS]
  | p + 1 => by
    have h1 := ccS_le v h p
    have h2 := pop_8 _ (mk_lt v 0 p (nr v) h)
    simp only [ccS]
    omega
def skO (v : Nat → Int) (p q : Nat) : Int := if rm v p q 0 < rm v q p 0 then rm v p q 0 else rm v q p 0
theorem okR.skB {v : Nat → Int} (h : okR v) (p q : Nat) (hp : p < 8) (hq : q < 8) : -2000 ≤ skO v p q ∧ skO v p q ≤ 100000 := by
  have h1 := h.rmB p q 0 hp hq (by omega)
  have h2 := h.rmB q p 0 hq hp (by omega)
  unfold skO
  split <;> omega

def slkF (v : Nat → Int) (r o : Int) : Int := if (0 ≤ r ∧ r < ((nr v : Nat) : Int)) ∧ (0 ≤ o ∧ o < ((nr v : Nat) : Int)) ∧ ¬ r = o then (if ov v r.toNat o.toNat ≠ 0 then -1002 else if skO v r.toNat o.toNat = 100000 then -1004 else skO v r.toNat o.toNat) else -1001
def tcI (v : Nat → Int) (x : Int) (p : Nat) : Nat → Int → Int
  | 0, y => y
  | q + 1, y => if v (36 + p) = x ∧ v (36 + q) = x ∧ skO v p q < tcI v x p q y then skO v p q else tcI v x p q y
def tcO (v : Nat → Int) (x : Int) : Nat → Int
  | 0 => 100000
  | p + 1 => tcI v x p p (tcO v x p)
theorem okR.tcIB {v : Nat → Int} (h : okR v) (x : Int) (p : Nat) (hp : p < 8) : ∀ (q : Nat) (y : Int), q ≤ 8 → (-2000 ≤ y ∧ y ≤ 100000) → -2000 ≤ tcI v x p q y ∧ tcI v x p q y ≤ 100000
  | 0, y, _, hy => hy
  | q + 1, y, hq, hy => by
    have h1 := okR.tcIB h x p hp q y (by omega) hy
    have h2 := h.skB p q hp (by omega)
    simp only [tcI]
    split <;> omega
theorem okR.tcOB {v : Nat → Int} (h : okR v) (x : Int) : ∀ (p : Nat), p ≤ 8 → -2000 ≤ tcO v x p ∧ tcO v x p ≤ 100000
  | 0, _ => by simp [tcO]
  | p + 1, hp => h.tcIB x p (by omega) p _ (by omega) (okR.tcOB h x p (by omega))
def tcF (v : Nat → Int) (x : Int) : Int := if 0 ≤ x ∧ x ≤ 7 then (if tcO v x (nr v) = 100000 then -1004 else tcO v x (nr v)) else -1001
def mhI (gi : Nat → Int) (m : Nat) (x : Int) : Nat → Nat
  | 0 => 1
  | p + 1 => if mhI gi m x p ≠ 0 ∧ (gi p ≠ x ∨ m / 2 ^ p % 2 = 0) then 1 else 0
