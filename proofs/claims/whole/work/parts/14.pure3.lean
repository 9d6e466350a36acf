/-! ===== cliques and casts, as the reference finds them ===== -/
theorem iI_not (b : Int) : iI b ^^^ iI (-1) = iI (-b - 1) := by
  rw [show iI (-1) = (-1 : Int32) by decide, Int32.xor_neg_one, Int32.not_eq_neg_sub]
  show -iI b - 1 = Int32.ofInt (-b - 1)
  rw [Int32.ofInt_sub, Int32.ofInt_neg]
  rfl
theorem iI_xor (a b : Nat) : iI (a : Int) ^^^ iI (b : Int) = iI ((a ^^^ b : Nat) : Int) := by
  rw [iI_nat, iI_nat, iI_nat]
  apply Int32.toBitVec.inj
  show BitVec.ofNat 32 a ^^^ BitVec.ofNat 32 b = BitVec.ofNat 32 (a ^^^ b)
  apply BitVec.eq_of_toNat_eq
  simp [Nat.xor_mod_two_pow]
theorem and_not32 (x y : Int32) : x &&& ~~~y = x ^^^ (x &&& y) := by
  apply Int32.toBitVec.inj
  show x.toBitVec &&& ~~~y.toBitVec = x.toBitVec ^^^ (x.toBitVec &&& y.toBitVec)
  ext i hi
  simp
  cases x.toBitVec[i] <;> cases y.toBitVec[i] <;> rfl
theorem iI_andn (a b : Nat) : iI (a : Int) &&& iI (-(b : Int) - 1) = iI ((a ^^^ (a &&& b) : Nat) : Int) := by
  rw [← iI_not, show iI (-1) = (-1 : Int32) by decide, Int32.xor_neg_one, and_not32, iI_and, iI_xor]
def clI (v : Nat → Int) (x : Nat) : Nat → Nat
  | 0 => 1
  | p + 1 => if clI v x p ≠ 0 ∧ (x / 2 ^ p % 2 = 0 ∨ (x ^^^ (x &&& mk v 0 p (nr v))) = 2 ^ p) then 1 else 0
def clM (v : Nat → Int) : Nat → Nat
  | 0 => 0
  | x + 1 => if clI v x (nr v) ≠ 0 ∧ clM v x < pop x then pop x else clM v x
/-- a cast of the first r roles: nothing behind -/
def cut (r : Nat) (g : Nat → Int) : Nat → Int := fun k => if k < r then g k else 0
theorem cut_at {r k : Nat} {g : Nat → Int} (h : k < r) : cut r g k = g k := if_pos h
theorem cut_eq {r : Nat} {g g2 : Nat → Int} (h : ∀ k, k < r → g k = g2 k) : cut r g = cut r g2 := by
  funext k
  unfold cut
  by_cases e : k < r
  · rw [if_pos e, if_pos e, h k e]
  · rw [if_neg e, if_neg e]
theorem cut_s {r : Nat} {g g2 : Nat → Int} {x : Int} (h : ∀ k, k < r → g2 k = g k) (hx : g2 r = x) : cut (r + 1) g2 = uI (cut r g) r x := by
  funext k
  show (if k < r + 1 then g2 k else 0) = (if k = r then x else if k < r then g k else 0)
  by_cases e : k = r
  · subst e
    rw [if_pos (Nat.lt_succ_self k), if_pos rfl]
    exact hx
  · by_cases e2 : k < r
    · rw [if_pos (show k < r + 1 by omega), if_neg e, if_pos e2]
      exact h k e2
    · rw [if_neg (show ¬ k < r + 1 by omega), if_neg e, if_neg e2]
theorem mhI_cong {g g2 : Nat → Int} (m : Nat) (x : Int) : ∀ (r : Nat), (∀ k, k < r → g k = g2 k) → mhI g m x r = mhI g2 m x r
  | 0, _ => rfl
  | r + 1, h => by
    simp only [mhI]
    rw [mhI_cong m x r (fun k hk => h k (by omega)), h r (by omega)]
theorem mhI_cut (g : Nat → Int) (m : Nat) (x : Int) (r : Nat) : mhI (cut r g) m x r = mhI g m x r := mhI_cong m x r (fun _ hk => cut_at hk)
def trF (M : Nat → Nat) (r K : Nat) (rec : (Nat → Int) → Option (Nat → Int)) (g : Nat → Int) : Nat → Option (Nat → Int)
  | 0 => none
  | c + 1 => if mhI g (M r) ((K - (c + 1) : Nat) : Int) r ≠ 0 then (match rec (uI g r ((K - (c + 1) : Nat) : Int)) with | some g' => some g' | none => trF M r K rec g c) else trF M r K rec g c
def srch (M : Nat → Nat) (n K : Nat) : Nat → (Nat → Int) → Option (Nat → Int)
  | 0, g => some g
  | d + 1, g => trF M (n - (d + 1)) K (srch M n K d) g K
def fc (M : Nat → Nat) (n K : Nat) : Option (Nat → Int) := srch M n K n (fun _ => 0)
theorem cut_0 (g : Nat → Int) : cut 0 g = fun _ => 0 := by
  funext k
  exact if_neg (Nat.not_lt_zero k)
def okG (g : Nat → Int) : Prop := ∀ k, k < 8 → -1 ≤ g k ∧ g k ≤ 8
theorem okG.inR {g : Nat → Int} (h : okG g) (k : Nat) (hk : k < 8) : inR (g k) := by
  have := h k hk
  omega
theorem okG.up {g : Nat → Int} (h : okG g) (j : Nat) (x : Int) (hx : -1 ≤ x ∧ x ≤ 8) : okG (uI g j x) := by
  intro k hk
  by_cases e : k = j
  · rw [e, uI_s]
    exact hx
  · rw [uI_n e]
    exact h k hk
/-- the head of a walk, with any heap that holds the sections and any locals that hold the list -/
def AtL (p : Program) (l : Launch) (e : Env) (R : Room) (s : State) (m : MethodId) (args : Array Value) (below : List Frame) (meth : Method) (c : Code) (Q : State → Prop) (A : Nat → Prop) (X : XT) (nL pc : Nat) (ss : List va_W) (lv : List (Nat × Value)) : Prop :=
  ∀ (H : Heap) (locs : List Loc), Hold X A ss.flatten H → va_S A s.heap H locs → ∀ ls : Array Slot, lv_has ls nL lv → W p l e R s m args below meth c H locs 0 0 Q (F0 m pc ls [])
