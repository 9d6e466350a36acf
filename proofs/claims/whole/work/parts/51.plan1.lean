/-! ===== rows that differ in actors only: the same conflicts ===== -/
theorem ovI_same {v w : Nat → Int} (hv : okR v) (h : sameA v w) (p q a : Nat) (ha : a < 20) : ∀ (b x : Nat), b ≤ 20 → ovI w p q a b x = ovI v p q a b x
  | 0, x, _ => rfl
  | b + 1, x, hb => by
    have t1 := h.tm hv a ha
    have t2 := h.tm hv b (by omega)
    rw [ovI, ovI, ovI_same hv h p q a ha b x (by omega), h.rl, h.rl, t1.1, t1.2, t2.1, t2.2]
theorem ovO_same {v w : Nat → Int} (hv : okR v) (h : sameA v w) (p q : Nat) : ∀ (a : Nat), a ≤ 20 → ovO w p q a = ovO v p q a
  | 0, _ => rfl
  | a + 1, ha => by rw [ovO, ovO, h.na, ovO_same hv h p q a (by omega), ovI_same hv h p q a (by omega) _ _ hv.na20]
theorem ov_same {v w : Nat → Int} (hv : okR v) (h : sameA v w) (p q : Nat) : ov w p q = ov v p q := by
  unfold ov
  rw [h.na, ovO_same hv h p q _ hv.na20]
theorem chT_same {v w : Nat → Int} (h : sameA v w) (p q : Nat) (f : Int) (hp : p < 8) (hq : q < 8) : chT w p q f = chT v p q f := by
  unfold chT
  rw [h _ (by omega), h _ (by omega)]
theorem roI_same {v w : Nat → Int} (hv : okR v) (h : sameA v w) (p q : Nat) (f : Int) (hp : p < 8) (hq : q < 8) (a : Nat) (ha : a < 20) : ∀ (b : Nat) (x : Int), b ≤ 20 → roI w p q f a b x = roI v p q f a b x
  | 0, x, _ => rfl
  | b + 1, x, hb => by
    have t1 := h.tm hv a ha
    have t2 := h.tm hv b (by omega)
    rw [roI, roI, roI_same hv h p q f hp hq a ha b x (by omega), h.rl, h.rl, t1.2, t2.1, chT_same h p q f hp hq]
theorem roO_same {v w : Nat → Int} (hv : okR v) (h : sameA v w) (p q : Nat) (f : Int) (hp : p < 8) (hq : q < 8) : ∀ (a : Nat), a ≤ 20 → roO w p q f a = roO v p q f a
  | 0, _ => rfl
  | a + 1, ha => by rw [roO, roO, h.na, roO_same hv h p q f hp hq a (by omega), roI_same hv h p q f hp hq a (by omega) _ _ hv.na20]
theorem rm_same {v w : Nat → Int} (hv : okR v) (h : sameA v w) (p q : Nat) (f : Int) (hp : p < 8) (hq : q < 8) : rm w p q f = rm v p q f := by
  unfold rm
  rw [h.na, roO_same hv h p q f hp hq _ hv.na20]
theorem rsn_same {v w : Nat → Int} (hv : okR v) (h : sameA v w) (p q : Nat) (f : Int) (hp : p < 8) (hq : q < 8) : rsn w p q f = rsn v p q f := by
  unfold rsn
  rw [h _ (by omega), h _ (by omega), ov_same hv h, rm_same hv h p q f hp hq, rm_same hv h q p f hq hp]
theorem TbOK_same {T : Nat → Nat → Int} {v w : Nat → Int} (hv : okR v) (h : sameA v w) (hT : TbOK T v) : TbOK T w := by
  intro r o hr ho hne
  rw [hT r o hr ho hne]
  unfold tbV skO
  rw [ov_same hv h, rm_same hv h r o 0 hr ho, rm_same hv h o r 0 ho hr]
theorem sameA_u {v : Nat → Int} {r : Nat} {x : Int} (hr : r < 8) : sameA v (uI v (36 + r) x) := fun k hk => uI_n (by omega)
theorem sameA.trans {v w u : Nat → Int} (h : sameA v w) (h2 : sameA w u) : sameA v u := fun k hk => (h2 k hk).trans (h k hk)
theorem sameA_rp {M : Nat → Nat} {v : Nat → Int} {r : Nat} (hr : r ≤ 8) : sameA v (rp M v r) := fun k hk => rp_o r hr hk
/-! ===== counting conflicts ===== -/
def cfl (v : Nat → Int) (p q : Nat) : Nat := if p ≠ q ∧ rsn v p q 0 ≠ 0 then 1 else 0
def cf1 (v : Nat → Int) (p : Nat) : Nat → Nat
  | 0 => 0
  | q + 1 => cf1 v p q + cfl v p q
def cf2 (v : Nat → Int) : Nat → Nat
  | 0 => 0
  | p + 1 => cf2 v p + cf1 v p p
theorem pop_or : ∀ q, q < 8 → ∀ m, m < 2 ^ q → pop (m ||| 2 ^ q) = pop m + 1 := by decide +kernel
theorem mk_pw (v : Nat → Int) (f : Int) (p : Nat) : ∀ q, mk v f p q < 2 ^ q
  | 0 => by simp [mk]
  | q + 1 => by
    have h := mk_pw v f p q
    have h2 : 2 ^ q < 2 ^ (q + 1) := Nat.pow_lt_pow_right (by omega) (by omega)
    rw [mk]
    split
    · exact Nat.or_lt_two_pow (by omega) h2
    · omega
theorem pop_mk (v : Nat → Int) (p : Nat) : ∀ q, q ≤ 8 → pop (mk v 0 p q) = cf1 v p q
  | 0, _ => rfl
  | q + 1, hq => by
    rw [mk, cf1, ← pop_mk v p q (by omega)]
    unfold cfl
    split
    · exact pop_or q (by omega) _ (mk_pw v 0 p q)
    · rfl
theorem cfl_sym {v : Nat → Int} (hv : okR v) (p q : Nat) : cfl v p q = cfl v q p := by
  unfold cfl
  by_cases e : p = q
  · subst e; rfl
  · rw [rsn_sym hv e (by omega) (by omega)]
    by_cases c : rsn v q p 0 ≠ 0
    · rw [if_pos ⟨e, c⟩, if_pos ⟨Ne.symm e, c⟩]
    · rw [if_neg (fun z => c z.2), if_neg (fun z => c z.2)]
def cfK (v : Nat → Int) (k : Nat) : Nat → Nat
  | 0 => 0
  | p + 1 => cfK v k p + cf1 v p k
theorem cfK_s {v : Nat → Int} (hv : okR v) (k : Nat) : ∀ p, cfK v (k + 1) p = cfK v k p + cf1 v k p
  | 0 => rfl
  | p + 1 => by
    rw [cfK, cfK, cf1, cfK_s hv k p, cf1, cfl_sym hv p k]
    omega
theorem cfK_2 {v : Nat → Int} (hv : okR v) : ∀ k, cfK v k k = 2 * cf2 v k
  | 0 => rfl
  | k + 1 => by
    rw [cfK, cfK_s hv k k, cfK_2 hv k, cf2, cf1, show cfl v k k = 0 by unfold cfl; rw [if_neg (fun z => z.1 rfl)]]
    omega
theorem ccS_K {v : Nat → Int} (h : nr v ≤ 8) : ∀ p, ccS v p = cfK v (nr v) p
  | 0 => rfl
  | p + 1 => by rw [ccS, cfK, ccS_K h p, pop_mk v p _ h]
theorem cc_half {v : Nat → Int} (hv : okR v) : ccS v (nr v) / 2 = cf2 v (nr v) := by
  rw [ccS_K hv.nr8, cfK_2 hv]
  omega
theorem cf1_le (v : Nat → Int) (p : Nat) : ∀ q, cf1 v p q ≤ q
  | 0 => Nat.le_refl _
  | q + 1 => by
    have := cf1_le v p q
    rw [cf1]
    unfold cfl
    split <;> omega
theorem cf2_le (v : Nat → Int) : ∀ p, p ≤ 8 → cf2 v p ≤ 8 * p
  | 0, _ => Nat.le_refl _
  | p + 1, hp => by
    have := cf2_le v p (by omega)
    have := cf1_le v p p
    rw [cf2]
    omega
/-! ===== one actor's roles do not conflict ===== -/
def okC (v : Nat → Int) : Prop := ∀ p q, p < nr v → q < nr v → p ≠ q → v (36 + p) = v (36 + q) → v (36 + p) ≠ -1 → rsn v p q 0 = 0
def tkI (v : Nat → Int) (x : Int) (p : Nat) : Nat → Int → Int
  | 0, y => y
  | q + 1, y => if v (36 + p) = x ∧ v (36 + q) = x then lsS (tkI v x p q y) (tbV v p q) else tkI v x p q y
def tkO (v : Nat → Int) (x : Int) : Nat → Int
  | 0 => -1004
  | p + 1 => tkI v x p p (tkO v x p)
def e2 (y : Int) : Int := if y = 100000 then -1004 else y
theorem rsn_ov {v : Nat → Int} {p q : Nat} {f : Int} (h : rsn v p q f = 0) : ov v p q = 0 := by
  unfold rsn at h
  split at h
  · omega
  · split at h
    · omega
    · rename_i c; omega
theorem tkI_e {v : Nat → Int} (hv : okR v) (hc : okC v) {x : Int} (hx : 0 ≤ x) {p : Nat} (hp : p < nr v) : ∀ (q : Nat) (y : Int), q ≤ p → (y = 100000 ∨ (-120 ≤ y ∧ y ≤ 1089)) → tkI v x p q (e2 y) = e2 (tcI v x p q y) ∧ (tcI v x p q y = 100000 ∨ (-120 ≤ tcI v x p q y ∧ tcI v x p q y ≤ 1089))
  | 0, y, _, hy => ⟨rfl, hy⟩
  | q + 1, y, hq, hy => by
    have ih := tkI_e hv hc hx hp q y (by omega) hy
    have hs := skO_b hv p q
    rw [tkI, tcI, ih.1]
    by_cases c : v (36 + p) = x ∧ v (36 + q) = x
    · have ho := rsn_ov (hc p q hp (by omega) (by omega) (by omega) (by omega))
      have ht : tbV v p q = e2 (skO v p q) := by unfold tbV e2; rw [if_neg (by omega)]
      rw [if_pos c, ht]
      generalize tcI v x p q y = a at *
      generalize skO v p q = b at *
      have ih2 := ih.2
      by_cases c2 : b < a
      · rw [if_pos ⟨c.1, c.2, c2⟩]
        refine ⟨?_, hs⟩
        unfold e2 lsS
        (repeat' split) <;> omega
      · rw [if_neg (fun z => c2 z.2.2)]
        refine ⟨?_, ih2⟩
        unfold e2 lsS
        (repeat' split) <;> omega
    · rw [if_neg c, if_neg (fun z => c ⟨z.1, z.2.1⟩)]
      exact ⟨rfl, ih.2⟩
theorem tkO_e {v : Nat → Int} (hv : okR v) (hc : okC v) {x : Int} (hx : 0 ≤ x) : ∀ (p : Nat), p ≤ nr v → tkO v x p = e2 (tcO v x p) ∧ (tcO v x p = 100000 ∨ (-120 ≤ tcO v x p ∧ tcO v x p ≤ 1089))
  | 0, _ => ⟨rfl, Or.inl rfl⟩
  | p + 1, hp => by
    have ih := tkO_e hv hc hx p (by omega)
    rw [tkO, tcO, ih.1]
    exact tkI_e hv hc hx (by omega) p _ (by omega) ih.2
theorem tkI_b {v : Nat → Int} (hv : okR v) (x : Int) (p : Nat) : ∀ (q : Nat) (y : Int), -2000 ≤ y ∧ y ≤ 2000 → -2000 ≤ tkI v x p q y ∧ tkI v x p q y ≤ 2000
  | 0, y, hy => hy
  | q + 1, y, hy => by
    have ih := tkI_b hv x p q y hy
    have hb := tbV_b hv p q
    rw [tkI]
    split
    · unfold lsS
      (repeat' split) <;> omega
    · exact ih
/-! ===== faster changes ===== -/
theorem rsn_mono {v : Nat → Int} (hv : okR v) {p q : Nat} {f g : Int} (hne : p ≠ q) (hf : 0 ≤ f) (hfg : f ≤ g) (hg : g ≤ 120) (h : rsn v p q g ≠ 0) : rsn v p q f ≠ 0 := by
  rw [rsn_tb hv hne (by omega) hg] at h
  rw [rsn_tb hv hne hf (by omega)]
  split at h
  · rename_i c; rw [if_pos c]; exact h
  · rename_i c; rw [if_neg c]
    split at h
    · rename_i c; rw [if_pos c]; exact h
    · rename_i c; rw [if_neg c]
      split at h
      · exact absurd rfl h
      · rename_i c; rw [if_neg c]
        split at h
        · rw [if_pos (by omega)]; exact h
        · exact absurd rfl h
theorem fc_mono {v : Nat → Int} (hv : okR v) {K : Nat} {f g : Int} (hf : 0 ≤ f) (hfg : f ≤ g) (hg : g ≤ 120) (h : fc (Mk v f) (nr v) K ≠ none) : fc (Mk v g) (nr v) K ≠ none := by
  rw [fc_iff] at h ⊢
  obtain ⟨col, hc⟩ := h
  refine ⟨col, fun q hq => ⟨(hc q hq).1, fun p hp => ?_⟩⟩
  rcases (hc q hq).2 p hp with z | z
  · exact Or.inl z
  · right
    rw [tb_div] at z ⊢
    unfold Mk at z ⊢
    rw [mk_bit] at z ⊢
    exact fun w => z ⟨w.1, w.2.1, rsn_mono hv w.2.1 hf hfg hg w.2.2⟩
theorem suS_min {v : Nat → Int} {K m : Nat} (h : fc (Mk v ((m : Nat) : Int)) (nr v) K ≠ none) : ∀ (f L : Nat), L ≤ m → m < L + f → (∀ j, L ≤ j → j < m → fc (Mk v ((j : Nat) : Int)) (nr v) K = none) → suS v K L f = ((m : Nat) : Int)
  | 0, L, h1, h2, _ => by omega
  | f + 1, L, h1, h2, h3 => by
    by_cases e : L = m
    · subst e; exact suS_hit h
    · rw [suS_miss (h3 L (Nat.le_refl _) (by omega))]
      exact suS_min h f (L + 1) (by omega) (by omega) (fun j a b => h3 j (by omega) b)
theorem suS_none {v : Nat → Int} {K : Nat} : ∀ (f L : Nat), (∀ j, L ≤ j → j < L + f → fc (Mk v ((j : Nat) : Int)) (nr v) K = none) → suS v K L f = -1004
  | 0, L, _ => rfl
  | f + 1, L, h => by
    rw [suS_miss (h L (Nat.le_refl _) (by omega))]
    exact suS_none f (L + 1) (fun j a b => h j (by omega) (by omega))
