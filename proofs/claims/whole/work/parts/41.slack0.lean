/-! ===== slacks: what the class's table holds ===== -/
def olp (v : Nat → Int) (a b : Nat) : Prop := eT v a < xT v b ∧ eT v b < xT v a
theorem ovI_iff (v : Nat → Int) (p q a : Nat) : ∀ (b x : Nat), ovI v p q a b x ≠ 0 ↔ (x ≠ 0 ∨ ∃ b', b' < b ∧ rl v a = p ∧ rl v b' = q ∧ olp v a b')
  | 0, x => by
    constructor
    · exact fun h => Or.inl h
    · rintro (h | ⟨b', h, _⟩)
      · exact h
      · exact absurd h (Nat.not_lt_zero _)
  | b + 1, x => by
    have ih := ovI_iff v p q a b x
    rw [ovI]
    constructor
    · intro h
      split at h
      · rename_i c
        rcases c with c | c
        · rcases ih.mp c with z | ⟨b', z⟩
          · exact Or.inl z
          · exact Or.inr ⟨b', by omega, z.2⟩
        · exact Or.inr ⟨b, by omega, c.1, c.2.1, c.2.2⟩
      · exact absurd rfl h
    · intro h
      rw [if_pos]
      · exact Nat.one_ne_zero
      · rcases h with h | ⟨b', h1, h2⟩
        · exact Or.inl (ih.mpr (Or.inl h))
        · by_cases e : b' = b
          · subst e; exact Or.inr ⟨h2.1, h2.2.1, h2.2.2⟩
          · exact Or.inl (ih.mpr (Or.inr ⟨b', by omega, h2⟩))
theorem ovO_iff (v : Nat → Int) (p q : Nat) : ∀ (a : Nat), ovO v p q a ≠ 0 ↔ ∃ a' b', a' < a ∧ b' < na v ∧ rl v a' = p ∧ rl v b' = q ∧ olp v a' b'
  | 0 => by
    constructor
    · exact fun h => absurd rfl h
    · rintro ⟨a', _, h, _⟩
      exact absurd h (Nat.not_lt_zero _)
  | a + 1 => by
    rw [ovO, ovI_iff, ovO_iff v p q a]
    constructor
    · rintro (⟨a', b', h⟩ | ⟨b', h⟩)
      · exact ⟨a', b', by omega, h.2⟩
      · exact ⟨a, b', by omega, h⟩
    · rintro ⟨a', b', h1, h2⟩
      by_cases e : a' = a
      · subst e; exact Or.inr ⟨b', h2⟩
      · exact Or.inl ⟨a', b', by omega, h2⟩
theorem ov_iff (v : Nat → Int) (p q : Nat) : ov v p q ≠ 0 ↔ ∃ a b, a < na v ∧ b < na v ∧ rl v a = p ∧ rl v b = q ∧ olp v a b := ovO_iff v p q (na v)
theorem roI_le (v : Nat → Int) (p q : Nat) (f : Int) (a : Nat) : ∀ (b : Nat) (x : Int), roI v p q f a b x ≤ x ∧ ∀ b', b' < b → rl v a = p → rl v b' = q → xT v a ≤ eT v b' → roI v p q f a b x ≤ (eT v b' - xT v a) - chT v p q f
  | 0, x => ⟨Int.le_refl _, fun _ h => absurd h (Nat.not_lt_zero _)⟩
  | b + 1, x => by
    have ih := roI_le v p q f a b x
    rw [roI]
    split
    · rename_i c
      refine ⟨by omega, fun b' hb h1 h2 h3 => ?_⟩
      by_cases e : b' = b
      · subst e; exact Int.le_refl _
      · have := ih.2 b' (by omega) h1 h2 h3
        omega
    · rename_i c
      refine ⟨ih.1, fun b' hb h1 h2 h3 => ?_⟩
      by_cases e : b' = b
      · subst e
        have : ¬ ((eT v b' - xT v a) - chT v p q f < roI v p q f a b' x) := fun z => c ⟨h1, h2, by omega, z⟩
        omega
      · exact ih.2 b' (by omega) h1 h2 h3
theorem roI_at (v : Nat → Int) (p q : Nat) (f : Int) (a : Nat) : ∀ (b : Nat) (x : Int), roI v p q f a b x = x ∨ ∃ b', b' < b ∧ rl v a = p ∧ rl v b' = q ∧ xT v a ≤ eT v b' ∧ roI v p q f a b x = (eT v b' - xT v a) - chT v p q f
  | 0, x => Or.inl rfl
  | b + 1, x => by
    have ih := roI_at v p q f a b x
    rw [roI]
    split
    · rename_i c
      exact Or.inr ⟨b, by omega, c.1, c.2.1, by omega, rfl⟩
    · rcases ih with h | ⟨b', h1, h2⟩
      · exact Or.inl h
      · exact Or.inr ⟨b', by omega, h2⟩
theorem roO_le (v : Nat → Int) (p q : Nat) (f : Int) : ∀ (a : Nat), roO v p q f a ≤ 100000 ∧ ∀ a' b', a' < a → b' < na v → rl v a' = p → rl v b' = q → xT v a' ≤ eT v b' → roO v p q f a ≤ (eT v b' - xT v a') - chT v p q f
  | 0 => ⟨Int.le_refl _, fun _ _ h => absurd h (Nat.not_lt_zero _)⟩
  | a + 1 => by
    have ih := roO_le v p q f a
    have h := roI_le v p q f a (na v) (roO v p q f a)
    rw [roO]
    refine ⟨by omega, fun a' b' h1 h2 h3 h4 h5 => ?_⟩
    by_cases e : a' = a
    · subst e; exact h.2 b' h2 h3 h4 h5
    · have := ih.2 a' b' (by omega) h2 h3 h4 h5
      omega
theorem roO_at (v : Nat → Int) (p q : Nat) (f : Int) : ∀ (a : Nat), roO v p q f a = 100000 ∨ ∃ a' b', a' < a ∧ b' < na v ∧ rl v a' = p ∧ rl v b' = q ∧ xT v a' ≤ eT v b' ∧ roO v p q f a = (eT v b' - xT v a') - chT v p q f
  | 0 => Or.inl rfl
  | a + 1 => by
    have ih := roO_at v p q f a
    have h := roI_at v p q f a (na v) (roO v p q f a)
    rw [roO]
    rcases h with h | ⟨b', h⟩
    · rw [h]
      rcases ih with z | ⟨a', b', z1, z2⟩
      · exact Or.inl z
      · exact Or.inr ⟨a', b', by omega, z2⟩
    · exact Or.inr ⟨a, b', by omega, h⟩
theorem rm_le {v : Nat → Int} {p q : Nat} {f : Int} {a b : Nat} (ha : a < na v) (hb : b < na v) (h1 : rl v a = p) (h2 : rl v b = q) (h3 : xT v a ≤ eT v b) : rm v p q f ≤ (eT v b - xT v a) - chT v p q f := (roO_le v p q f (na v)).2 a b ha hb h1 h2 h3
theorem rm_at (v : Nat → Int) (p q : Nat) (f : Int) : rm v p q f = 100000 ∨ ∃ a b, a < na v ∧ b < na v ∧ rl v a = p ∧ rl v b = q ∧ xT v a ≤ eT v b ∧ rm v p q f = (eT v b - xT v a) - chT v p q f := roO_at v p q f (na v)
theorem rm_up (v : Nat → Int) (p q : Nat) (f : Int) : rm v p q f ≤ 100000 := (roO_le v p q f (na v)).1
def slF (v : Nat → Int) (a b : Nat) : Int := (eT v b - xT v a) - (v (20 + rl v a) + v (28 + rl v b))
def lsS (x y : Int) : Int := if x = -1004 then y else if y = -1004 then x else min x y
def ct (v : Nat → Int) (a b : Nat) : Int := if xT v a ≤ eT v b then slF v a b else slF v b a
def nxT (v : Nat → Int) (a b : Nat) (x : Int) : Int := if x = -1002 then x else if xT v a ≤ eT v b then lsS x (slF v a b) else if xT v b ≤ eT v a then lsS x (slF v b a) else -1002
def uT (T : Nat → Nat → Int) (r : Nat) (g : Nat → Int) : Nat → Nat → Int := fun j => if j = r then g else T j
def cpT (v : Nat → Int) (a b : Nat) (T : Nat → Nat → Int) : Nat → Nat → Int := if rl v a = rl v b ∨ T (rl v a) (rl v b) = -1002 then T else
  uT (uT T (rl v a) (uI (T (rl v a)) (rl v b) (nxT v a b (T (rl v a) (rl v b))))) (rl v b) (uI (T (rl v b)) (rl v a) (nxT v a b (T (rl v a) (rl v b))))
def tbV (v : Nat → Int) (r o : Nat) : Int := if ov v r o ≠ 0 then -1002 else if skO v r o = 100000 then -1004 else skO v r o
def TbOK (T : Nat → Nat → Int) (v : Nat → Int) : Prop := ∀ r o, r < 8 → o < 8 → r ≠ o → T r o = tbV v r o
def okX (v : Nat → Int) (x : Int) (S : Nat → Nat → Prop) : Prop := (x = -1002 ∧ ∃ a b, S a b ∧ olp v a b) ∨ (x = -1004 ∧ ∀ a b, ¬ S a b) ∨ (-1000 ≤ x ∧ x ≤ 1089 ∧ (∀ a b, S a b → ¬ olp v a b ∧ x ≤ ct v a b) ∧ ∃ a b, S a b ∧ x = ct v a b)
theorem okR.chg {v : Nat → Int} (h : okR v) {a b : Nat} (ha : a < 20) (hb : b < 20) : 0 ≤ v (20 + rl v a) + v (28 + rl v b) ∧ v (20 + rl v a) + v (28 + rl v b) ≤ 120 := by
  have h1 := (h.2.2.2.2.1 (rl v a) (h.rl8 a ha)).2.1
  have h2 := (h.2.2.2.2.1 (rl v b) (h.rl8 b hb)).2.2.1
  omega
theorem okR.slB {v : Nat → Int} (h : okR v) {a b : Nat} (ha : a < 20) (hb : b < 20) (hg : xT v a ≤ eT v b) : -120 ≤ slF v a b ∧ slF v a b ≤ 1089 := by
  have h1 := h.chg ha hb
  have h2 := h.eTB b hb
  have h3 := h.xTB a ha
  unfold slF
  omega
theorem lsS_b {x y : Int} (hx : x = -1004 ∨ (-1000 ≤ x ∧ x ≤ 1089)) (hy : -120 ≤ y ∧ y ≤ 1089) : -1000 ≤ lsS x y ∧ lsS x y ≤ 1089 ∧ lsS x y ≤ y ∧ (x = -1004 → lsS x y = y) ∧ (x ≠ -1004 → lsS x y ≤ x ∧ (lsS x y = x ∨ lsS x y = y)) := by
  unfold lsS
  split
  · exact ⟨by omega, by omega, by omega, fun _ => rfl, fun z => absurd (by assumption) z⟩
  · rw [if_neg (by omega)]
    refine ⟨by omega, by omega, by omega, fun z => absurd z (by assumption), fun z => ⟨by omega, by omega⟩⟩
theorem okX_step {v : Nat → Int} (h : okR v) {x : Int} {S S' : Nat → Nat → Prop} {a b : Nat} (ha : a < na v) (hb : b < na v) (hx : okX v x S) (hS : ∀ a' b', S' a' b' ↔ (S a' b' ∨ (a' = a ∧ b' = b))) : okX v (nxT v a b x) S' := by
  have k := h.na20
  have ea := h.ext ha
  have eb := h.ext hb
  have hab : S' a b := (hS a b).mpr (Or.inr ⟨rfl, rfl⟩)
  rcases hx with ⟨e, a1, b1, h1, h2⟩ | ⟨e, h1⟩ | ⟨e1, e2, h1, h2⟩
  · left
    unfold nxT
    rw [if_pos e]
    exact ⟨e, a1, b1, (hS _ _).mpr (Or.inl h1), h2⟩
  · unfold nxT
    rw [if_neg (by omega)]
    by_cases c1 : xT v a ≤ eT v b
    · rw [if_pos c1]
      have hs := h.slB (a := a) (b := b) (by omega) (by omega) c1
      have hl : lsS x (slF v a b) = slF v a b := by unfold lsS; rw [if_pos e]
      rw [hl]
      have hc : ct v a b = slF v a b := by unfold ct; rw [if_pos c1]
      refine Or.inr (Or.inr ⟨by omega, by omega, fun a' b' z => ?_, a, b, hab, hc.symm⟩)
      rcases (hS _ _).mp z with q | ⟨rfl, rfl⟩
      · exact absurd q (h1 _ _)
      · exact ⟨fun q => by unfold olp at q; omega, by omega⟩
    · rw [if_neg c1]
      by_cases c2 : xT v b ≤ eT v a
      · rw [if_pos c2]
        have hs := h.slB (a := b) (b := a) (by omega) (by omega) c2
        have hl : lsS x (slF v b a) = slF v b a := by unfold lsS; rw [if_pos e]
        rw [hl]
        have hc : ct v a b = slF v b a := by unfold ct; rw [if_neg c1]
        refine Or.inr (Or.inr ⟨by omega, by omega, fun a' b' z => ?_, a, b, hab, hc.symm⟩)
        rcases (hS _ _).mp z with q | ⟨rfl, rfl⟩
        · exact absurd q (h1 _ _)
        · exact ⟨fun q => by unfold olp at q; omega, by omega⟩
      · rw [if_neg c2]
        exact Or.inl ⟨rfl, a, b, hab, by unfold olp; omega⟩
  · unfold nxT
    rw [if_neg (by omega)]
    have fin : ∀ y : Int, -120 ≤ y → y ≤ 1089 → ct v a b = y → ¬ olp v a b → okX v (lsS x y) S' := by
      intro y hy1 hy2 hc ho
      have hl := lsS_b (x := x) (y := y) (Or.inr ⟨e1, e2⟩) ⟨hy1, hy2⟩
      have hl2 := hl.2.2.2.2 (by omega)
      refine Or.inr (Or.inr ⟨hl.1, hl.2.1, fun a' b' z => ?_, ?_⟩)
      · rcases (hS _ _).mp z with q | ⟨rfl, rfl⟩
        · have := h1 _ _ q
          exact ⟨this.1, by omega⟩
        · exact ⟨ho, by omega⟩
      · rcases hl2.2 with q | q
        · obtain ⟨a', b', s1, s2⟩ := h2
          exact ⟨a', b', (hS _ _).mpr (Or.inl s1), by omega⟩
        · exact ⟨a, b, hab, by omega⟩
    by_cases c1 : xT v a ≤ eT v b
    · rw [if_pos c1]
      have hs := h.slB (a := a) (b := b) (by omega) (by omega) c1
      exact fin _ hs.1 hs.2 (by unfold ct; rw [if_pos c1]) (fun q => by unfold olp at q; omega)
    · rw [if_neg c1]
      by_cases c2 : xT v b ≤ eT v a
      · rw [if_pos c2]
        have hs := h.slB (a := b) (b := a) (by omega) (by omega) c2
        exact fin _ hs.1 hs.2 (by unfold ct; rw [if_neg c1]) (fun q => by unfold olp at q; omega)
      · rw [if_neg c2]
        exact Or.inl ⟨rfl, a, b, hab, by unfold olp; omega⟩
theorem okX_same {v : Nat → Int} {x : Int} {S S' : Nat → Nat → Prop} (hx : okX v x S) (hS : ∀ a' b', S' a' b' ↔ S a' b') : okX v x S' := by
  have : S' = S := by funext a b; exact propext (hS a b)
  rw [this]; exact hx
def mt (v : Nat → Int) (r o a b : Nat) : Prop := (rl v a = r ∧ rl v b = o) ∨ (rl v a = o ∧ rl v b = r)
def okTb (v : Nat → Int) (D : Nat → Nat → Prop) (T : Nat → Nat → Int) : Prop := ∀ r o, r < 8 → o < 8 → r ≠ o → T r o = T o r ∧ okX v (T r o) (fun a b => D a b ∧ mt v r o a b)
theorem okTb_step {v : Nat → Int} (h : okR v) {D D' : Nat → Nat → Prop} {T : Nat → Nat → Int} {a b : Nat} (ha : a < na v) (hb : b < na v) (hT : okTb v D T) (hD : ∀ a' b', D' a' b' ↔ (D a' b' ∨ (a' = a ∧ b' = b))) : okTb v D' (cpT v a b T) := by
  have k := h.na20
  have ra := h.rl8 a (by omega)
  have rb := h.rl8 b (by omega)
  intro r o hr ho hne
  obtain ⟨hs, hx⟩ := hT r o hr ho hne
  have nm : ∀ r o, ¬ mt v r o a b → okX v (T r o) (fun a b => D a b ∧ mt v r o a b) → okX v (T r o) (fun a b => D' a b ∧ mt v r o a b) := by
    intro r o hm hx
    refine okX_same hx (fun a' b' => ⟨fun z => ?_, fun z => ⟨(hD _ _).mpr (Or.inl z.1), z.2⟩⟩)
    rcases (hD _ _).mp z.1 with q | ⟨rfl, rfl⟩
    · exact ⟨q, z.2⟩
    · exact absurd z.2 hm
  have ym : mt v r o a b → okX v (nxT v a b (T r o)) (fun a b => D' a b ∧ mt v r o a b) := by
    intro hm
    refine okX_step h ha hb hx (fun a' b' => ⟨fun z => ?_, fun z => ?_⟩)
    · rcases (hD _ _).mp z.1 with q | q
      · exact Or.inl ⟨q, z.2⟩
      · exact Or.inr q
    · rcases z with q | ⟨rfl, rfl⟩
      · exact ⟨(hD _ _).mpr (Or.inl q.1), q.2⟩
      · exact ⟨(hD _ _).mpr (Or.inr ⟨rfl, rfl⟩), hm⟩
  unfold cpT
  split
  · rename_i c
    refine ⟨hs, ?_⟩
    by_cases hm : mt v r o a b
    · have hy := ym hm
      have e2 : T r o = -1002 := by
        rcases c with c | c
        · rcases hm with ⟨q1, q2⟩ | ⟨q1, q2⟩ <;> (exfalso; omega)
        · rcases hm with ⟨q1, q2⟩ | ⟨q1, q2⟩
          · rw [q1, q2] at c; exact c
          · rw [q1, q2] at c; rw [hs]; exact c
      have e3 : nxT v a b (T r o) = T r o := by unfold nxT; rw [if_pos e2]
      rw [e3] at hy
      exact hy
    · exact nm r o hm hx
  · rename_i c
    have hab : rl v a ≠ rl v b := fun z => c (Or.inl z)
    generalize hA : rl v a = A at *
    generalize hB : rl v b = B at *
    have val : ∀ r o, uT (uT T A (uI (T A) B (nxT v a b (T A B)))) B (uI (T B) A (nxT v a b (T A B))) r o = if (r = A ∧ o = B) ∨ (r = B ∧ o = A) then nxT v a b (T A B) else T r o := by
      intro r o
      unfold uT uI
      by_cases e1 : r = B
      · subst e1
        rw [if_pos rfl]
        by_cases e2 : o = A
        · rw [if_pos e2, if_pos (Or.inr ⟨rfl, e2⟩)]
        · rw [if_neg e2, if_neg (by omega)]
      · rw [if_neg e1]
        by_cases e2 : r = A
        · subst e2
          rw [if_pos rfl]
          by_cases e3 : o = B
          · rw [if_pos e3, if_pos (Or.inl ⟨rfl, e3⟩)]
          · rw [if_neg e3, if_neg (by omega)]
        · rw [if_neg e2, if_neg (by omega)]
    rw [val r o, val o r]
    by_cases hm : (r = A ∧ o = B) ∨ (r = B ∧ o = A)
    · rw [if_pos hm, if_pos (by omega)]
      refine ⟨rfl, ?_⟩
      have e1 : T A B = T r o := by
        rcases hm with ⟨rfl, rfl⟩ | ⟨rfl, rfl⟩
        · rfl
        · exact hs.symm
      rw [e1]
      exact ym (by unfold mt; rw [hA, hB]; omega)
    · rw [if_neg hm, if_neg (by omega)]
      exact ⟨hs, nm r o (by unfold mt; rw [hA, hB]; omega) hx⟩
theorem chT_0 {v : Nat → Int} (h : okR v) {a b : Nat} (ha : a < 20) (hb : b < 20) : chT v (rl v a) (rl v b) 0 = v (20 + rl v a) + v (28 + rl v b) := by
  have := h.chg ha hb
  unfold chT
  rw [if_neg (by omega)]
  omega
theorem okX_fin {v : Nat → Int} (h : okR v) {r o : Nat} {x : Int} (hne : r ≠ o) (hx : okX v x (fun a b => (b < a ∧ a < na v) ∧ mt v r o a b)) : x = tbV v r o := by
  have k := h.na20
  -- a directed pair is a pair of the set
  have dir : ∀ a b, a < na v → b < na v → rl v a = r → rl v b = o → (b < a ∨ a < b) := fun a b _ _ h1 h2 => by
    rcases Nat.lt_trichotomy a b with z | z | z
    · exact Or.inr z
    · subst z; omega
    · exact Or.inl z
  have dval : ∀ a b, a < na v → b < na v → xT v a ≤ eT v b → (eT v b - xT v a) - chT v (rl v a) (rl v b) 0 = slF v a b := fun a b ha hb _ => by
    rw [chT_0 h (by omega) (by omega)]; rfl
  have cts : ∀ a b, a < na v → b < na v → xT v a ≤ eT v b → ct v a b = slF v a b ∧ ct v b a = slF v a b := fun a b ha hb hg => by
    have ea := h.ext ha
    have eb := h.ext hb
    unfold ct
    rw [if_pos hg, if_neg (by omega)]
    exact ⟨rfl, rfl⟩
  unfold tbV
  rcases hx with ⟨e, a, b, h1, h2⟩ | ⟨e, h1⟩ | ⟨e1, e2, h1, a0, b0, h2, h3⟩
  · rw [if_pos, e]
    rw [ov_iff]
    rcases h1.2 with q | q
    · exact ⟨a, b, by omega, by omega, q.1, q.2, h2⟩
    · exact ⟨b, a, by omega, by omega, q.2, q.1, h2.2, h2.1⟩
  · have no : ∀ a b, a < na v → b < na v → ¬ mt v r o a b := by
      intro a b ha hb hm
      rcases hm with q | q
      · rcases dir a b ha hb q.1 q.2 with z | z
        · exact h1 a b ⟨⟨z, ha⟩, Or.inl q⟩
        · exact h1 b a ⟨⟨z, hb⟩, Or.inr ⟨q.2, q.1⟩⟩
      · rcases dir b a hb ha q.2 q.1 with z | z
        · exact h1 b a ⟨⟨z, hb⟩, Or.inl ⟨q.2, q.1⟩⟩
        · exact h1 a b ⟨⟨z, ha⟩, Or.inr q⟩
    have n1 : ¬ ov v r o ≠ 0 := by
      rw [ov_iff]
      rintro ⟨a, b, ha, hb, q1, q2, _⟩
      exact no a b ha hb (Or.inl ⟨q1, q2⟩)
    rw [if_neg n1]
    have r1 : rm v r o 0 = 100000 := by
      rcases rm_at v r o 0 with z | ⟨a, b, ha, hb, q1, q2, _⟩
      · exact z
      · exact absurd (Or.inl ⟨q1, q2⟩) (no a b ha hb)
    have r2 : rm v o r 0 = 100000 := by
      rcases rm_at v o r 0 with z | ⟨a, b, ha, hb, q1, q2, _⟩
      · exact z
      · exact absurd (Or.inr ⟨q1, q2⟩) (no a b ha hb)
    have e3 : skO v r o = 100000 := by unfold skO; rw [r1, r2]; rfl
    rw [if_pos e3]
    exact e
  · have n1 : ¬ ov v r o ≠ 0 := by
      rw [ov_iff]
      rintro ⟨a, b, ha, hb, q1, q2, q3⟩
      rcases dir a b ha hb q1 q2 with z | z
      · exact (h1 a b ⟨⟨z, ha⟩, Or.inl ⟨q1, q2⟩⟩).1 q3
      · exact (h1 b a ⟨⟨z, hb⟩, Or.inr ⟨q2, q1⟩⟩).1 ⟨q3.2, q3.1⟩
    rw [if_neg n1]
    have lb1 : x ≤ rm v r o 0 := by
      rcases rm_at v r o 0 with z | ⟨a, b, ha, hb, q1, q2, q3, q4⟩
      · omega
      · rw [← q1, ← q2, dval a b ha hb q3] at q4
        rw [q1, q2] at q4
        have c := cts a b ha hb q3
        rcases dir a b ha hb q1 q2 with z | z
        · have := (h1 a b ⟨⟨z, ha⟩, Or.inl ⟨q1, q2⟩⟩).2; omega
        · have := (h1 b a ⟨⟨z, hb⟩, Or.inr ⟨q2, q1⟩⟩).2; omega
    have lb2 : x ≤ rm v o r 0 := by
      rcases rm_at v o r 0 with z | ⟨a, b, ha, hb, q1, q2, q3, q4⟩
      · omega
      · rw [← q1, ← q2, dval a b ha hb q3] at q4
        rw [q1, q2] at q4
        have c := cts a b ha hb q3
        rcases dir b a hb ha q2 q1 with z | z
        · have := (h1 b a ⟨⟨z, hb⟩, Or.inl ⟨q2, q1⟩⟩).2; omega
        · have := (h1 a b ⟨⟨z, ha⟩, Or.inr ⟨q1, q2⟩⟩).2; omega
    have up : rm v r o 0 ≤ x ∨ rm v o r 0 ≤ x := by
      have hn := (h1 a0 b0 h2).1
      have ha : a0 < na v := h2.1.2
      have hb : b0 < na v := by omega
      by_cases c1 : xT v a0 ≤ eT v b0
      · have c := cts a0 b0 ha hb c1
        have dv := dval a0 b0 ha hb c1
        rcases h2.2 with q | q
        · left
          have := rm_le (f := 0) ha hb q.1 q.2 c1
          rw [q.1, q.2] at dv; omega
        · right
          have := rm_le (f := 0) ha hb q.1 q.2 c1
          rw [q.1, q.2] at dv; omega
      · have c2 : xT v b0 ≤ eT v a0 := by
          unfold olp at hn; omega
        have c := cts b0 a0 hb ha c2
        have dv := dval b0 a0 hb ha c2
        rcases h2.2 with q | q
        · right
          have := rm_le (f := 0) hb ha q.2 q.1 c2
          rw [q.1, q.2] at dv; omega
        · left
          have := rm_le (f := 0) hb ha q.2 q.1 c2
          rw [q.1, q.2] at dv; omega
    have e3 : skO v r o = x := by unfold skO; split <;> omega
    rw [e3, if_neg (by omega)]
theorem TbOK_fin {v : Nat → Int} (h : okR v) {D : Nat → Nat → Prop} {T : Nat → Nat → Int} (hT : okTb v D T) (hD : ∀ a b, D a b ↔ (b < a ∧ a < na v)) : TbOK T v := by
  intro r o hr ho hne
  refine okX_fin h hne (okX_same (hT r o hr ho hne).2 (fun a b => ?_))
  rw [hD]
theorem skO_b {v : Nat → Int} (h : okR v) (r o : Nat) : skO v r o = 100000 ∨ (-120 ≤ skO v r o ∧ skO v r o ≤ 1089) := by
  have k := h.na20
  have bd : ∀ p q, rm v p q 0 = 100000 ∨ (-120 ≤ rm v p q 0 ∧ rm v p q 0 ≤ 1089) := by
    intro p q
    rcases rm_at v p q 0 with z | ⟨a, b, ha, hb, q1, q2, q3, q4⟩
    · exact Or.inl z
    · right
      have h1 := h.eTB b (by omega)
      have h2 := h.xTB a (by omega)
      have h3 := h.chB p q 0 (by rw [← q1]; exact h.rl8 a (by omega)) (by rw [← q2]; exact h.rl8 b (by omega)) (by omega)
      omega
  have b1 := bd r o
  have b2 := bd o r
  unfold skO
  split <;> omega
theorem tbV_b {v : Nat → Int} (h : okR v) (r o : Nat) : tbV v r o = -1002 ∨ tbV v r o = -1004 ∨ (-120 ≤ tbV v r o ∧ tbV v r o ≤ 1089) := by
  have hb := skO_b h r o
  unfold tbV
  split
  · exact Or.inl rfl
  · split <;> omega
theorem rm_neg {v : Nat → Int} (h : okR v) (p q : Nat) (f : Int) (hf : 0 ≤ f) : rm v p q f < 0 ↔ rm v p q 0 + f < 0 := by
  have k := h.na20
  have cc : ∀ a b, a < na v → b < na v → rl v a = p → rl v b = q → chT v p q 0 = v (20 + p) + v (28 + q) ∧ 0 ≤ v (20 + p) + v (28 + q) := by
    intro a b ha hb q1 q2
    have h1 := chT_0 h (a := a) (b := b) (by omega) (by omega)
    have h2 := h.chg (a := a) (b := b) (by omega) (by omega)
    rw [q1, q2] at h1 h2
    exact ⟨h1, h2.1⟩
  have cf : chT v p q f = if v (20 + p) + v (28 + q) - f < 0 then 0 else v (20 + p) + v (28 + q) - f := rfl
  constructor
  · intro hn
    rcases rm_at v p q f with z | ⟨a, b, ha, hb, q1, q2, q3, q4⟩
    · omega
    · have h1 := cc a b ha hb q1 q2
      have h2 := rm_le (f := 0) ha hb q1 q2 q3
      split at cf <;> omega
  · intro hn
    rcases rm_at v p q 0 with z | ⟨a, b, ha, hb, q1, q2, q3, q4⟩
    · omega
    · have h1 := cc a b ha hb q1 q2
      have h2 := rm_le (f := f) ha hb q1 q2 q3
      split at cf <;> omega
theorem rsn_tb {v : Nat → Int} (h : okR v) {r o : Nat} {f : Int} (hne : r ≠ o) (hf : 0 ≤ f) (hf2 : f ≤ 120) : rsn v r o f = if v (12 + r) ≠ v (12 + o) then 1 else if tbV v r o = -1002 then 2 else if tbV v r o = -1004 then 0 else if tbV v r o + f < 0 then 3 else 0 := by
  have hb := skO_b h r o
  have n1 := rm_neg h r o f hf
  have n2 := rm_neg h o r f hf
  unfold rsn
  split
  · rfl
  · by_cases c : ov v r o ≠ 0
    · have e : tbV v r o = -1002 := by unfold tbV; rw [if_pos c]
      rw [if_pos c, if_pos e]
    · have hu1 := rm_up v r o 0
      have hu2 := rm_up v o r 0
      have hs : skO v r o ≤ rm v r o 0 ∧ skO v r o ≤ rm v o r 0 ∧ (skO v r o = rm v r o 0 ∨ skO v r o = rm v o r 0) := by unfold skO; split <;> omega
      have e0 : tbV v r o = if skO v r o = 100000 then -1004 else skO v r o := by unfold tbV; rw [if_neg c]
      rw [if_neg c]
      by_cases c2 : skO v r o = 100000
      · rw [if_pos c2] at e0
        rw [if_neg (by omega), if_neg (by omega), if_pos e0]
      · rw [if_neg c2] at e0
        have f1 : ¬ tbV v r o = -1002 := by omega
        have f2 : ¬ tbV v r o = -1004 := by omega
        by_cases c3 : rm v r o f < 0 ∨ rm v o r f < 0
        · rw [if_pos c3, if_neg f1, if_neg f2, if_pos (by omega)]
        · rw [if_neg c3, if_neg f1, if_neg f2, if_neg (by omega)]
theorem tbV_sym {v : Nat → Int} (h : okR v) {r o : Nat} (hne : r ≠ o) : tbV v r o = tbV v o r := by
  have e1 : (ov v r o ≠ 0) ↔ (ov v o r ≠ 0) := by
    rw [ov_iff, ov_iff]
    constructor
    · rintro ⟨a, b, ha, hb, q1, q2, q3⟩
      exact ⟨b, a, hb, ha, q2, q1, q3.2, q3.1⟩
    · rintro ⟨a, b, ha, hb, q1, q2, q3⟩
      exact ⟨b, a, hb, ha, q2, q1, q3.2, q3.1⟩
  have e2 : skO v r o = skO v o r := by unfold skO; split <;> split <;> omega
  unfold tbV
  rw [e2]
  by_cases c : ov v r o ≠ 0
  · rw [if_pos c, if_pos (e1.mp c)]
  · rw [if_neg c, if_neg (fun z => c (e1.mpr z))]
theorem rsn_sym {v : Nat → Int} (h : okR v) {r o : Nat} {f : Int} (hne : r ≠ o) (hf : 0 ≤ f) (hf2 : f ≤ 120) : rsn v r o f = rsn v o r f := by
  rw [rsn_tb h hne hf hf2, rsn_tb h (Ne.symm hne) hf hf2, tbV_sym h hne]
  by_cases c : v (12 + r) ≠ v (12 + o)
  · rw [if_pos c, if_pos (Ne.symm c)]
  · rw [if_neg c, if_neg (fun z => c (Ne.symm z))]
