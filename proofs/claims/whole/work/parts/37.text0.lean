/-! ===== the class's text ===== -/
abbrev toW (q : Nat) (Qt : Nat → Nat) (ln ss rs pl ws : Int) : va_W := [(q, .inr (3, [.ref (Qt 0), .int (iI ln), .int (iI ss), .int (iI rs), .int (iI pl), .int (iI ws), .ref (Qt 1)]))]
def ptF (t : Nat → Int) (L i : Nat) : Nat → Nat → Int
  | 0 => t
  | n + 1 => uI (ptF t L i n) (L + n) ((chJ i n : Nat) : Int)
def isJ (i : Nat) (t : Nat → Int) (p n : Nat) : Prop := n = lnJ i ∧ ∀ k, k < lnJ i → t (p + k) = ((chJ i k : Nat) : Int)
theorem isJ_W {i : Nat} {cs : List Int} (h : lnJ i = cs.length ∧ ∀ k, k < cs.length → ((chJ i k : Nat) : Int) = cs.getD k 0) (t : Nat → Int) (p n : Nat) : isJ i t p n ↔ isW t p n cs := by
  unfold isJ isW
  rw [h.1]
  constructor
  · rintro ⟨a, b⟩
    exact ⟨a, fun k hk => (b k hk).trans (h.2 k hk)⟩
  · rintro ⟨a, b⟩
    exact ⟨a, fun k hk => (b k hk).trans (h.2 k hk).symm⟩
theorem isJ5 (t : Nat → Int) (p n : Nat) : isJ 5 t p n ↔ wdV t p n = nmd 115 99 101 110 101 := (isJ_W (cs := cScene) (by decide +kernel) t p n).trans (wd5 (by decide) (by decide) (by decide) (by decide) (by decide)).symm
theorem isJ6 (t : Nat → Int) (p n : Nat) : isJ 6 t p n ↔ wdV t p n = nmd 114 111 108 101 0 := (isJ_W (cs := cRole) (by decide +kernel) t p n).trans (wd4 (by decide) (by decide) (by decide) (by decide)).symm
theorem isJ7 (t : Nat → Int) (p n : Nat) : isJ 7 t p n ↔ wdV t p n = nmd 101 110 116 101 114 := (isJ_W (cs := cEnter) (by decide +kernel) t p n).trans (wd5 (by decide) (by decide) (by decide) (by decide) (by decide)).symm
theorem isJ8 (t : Nat → Int) (p n : Nat) : isJ 8 t p n ↔ wdV t p n = nmd 108 111 119 0 0 := (isJ_W (cs := cLow) (by decide +kernel) t p n).trans (wd3 (by decide) (by decide) (by decide)).symm
theorem isJ9 (t : Nat → Int) (p n : Nat) : isJ 9 t p n ↔ wdV t p n = nmd 104 105 103 104 0 := (isJ_W (cs := cHigh) (by decide +kernel) t p n).trans (wd4 (by decide) (by decide) (by decide) (by decide)).symm
theorem isJ10 (t : Nat → Int) (p n : Nat) : isJ 10 t p n ↔ wdV t p n = nmd 99 104 105 108 100 := (isJ_W (cs := cChild) (by decide +kernel) t p n).trans (wd5 (by decide) (by decide) (by decide) (by decide) (by decide)).symm
def voR (t : Nat → Int) (p n : Nat) : Int := if wdV t p n = nmd 108 111 119 0 0 then 0 else if wdV t p n = nmd 104 105 103 104 0 then 1 else if wdV t p n = nmd 99 104 105 108 100 then 2 else -1
theorem voR_b (t : Nat → Int) (p n : Nat) : -1 ≤ voR t p n ∧ voR t p n ≤ 2 := by
  unfold voR
  (repeat' split) <;> omega
def nvR (t : Nat → Int) (p n : Nat) : Int := if (1 ≤ n ∧ n ≤ 3) ∧ dg t p n ≠ 0 then nv t p n else -1
theorem nv_b {t : Nat → Int} {p n : Nat} (h : dg t p n ≠ 0) (hn : n ≤ 3) : 0 ≤ nv t p n ∧ nv t p n ≤ 999 := by
  have h1 := (fgI_dg t p n).1 h
  have h2 := vI_b t p n
  have h3 := h2.1 (by omega)
  omega
theorem nvR_b (t : Nat → Int) (p n : Nat) : -1 ≤ nvR t p n ∧ nvR t p n ≤ 999 := by
  unfold nvR
  split
  · rename_i h
    have := nv_b h.2 h.1.2
    omega
  · omega
theorem dg_s {t : Nat → Int} {w k : Nat} (hw : w ≤ k) : dg t w (k + 1 - w) = if dg t w (k - w) ≠ 0 ∧ 48 ≤ t k ∧ t k ≤ 57 then 1 else 0 := by
  rw [show k + 1 - w = (k - w) + 1 by omega, dg, show w + (k - w) = k by omega]
theorem nv_s {t : Nat → Int} {w k : Nat} (hw : w ≤ k) : nv t w (k + 1 - w) = 10 * nv t w (k - w) + (t k - 48) := by
  rw [show k + 1 - w = (k - w) + 1 by omega, nv, show w + (k - w) = k by omega]
theorem dg_all {t : Nat → Int} {w k : Nat} : ∀ n, k < n → dg t w n ≠ 0 → 48 ≤ t (w + k) ∧ t (w + k) ≤ 57
  | 0, h, _ => absurd h (Nat.not_lt_zero _)
  | n + 1, h, hd => by
    rw [dg] at hd
    split at hd
    · rename_i q
      by_cases e : k = n
      · subst e; exact q.2
      · exact dg_all n (by omega) q.1
    · exact absurd rfl hd
theorem dg_bad {t : Nat → Int} {w k p : Nat} (hw : w ≤ k) (hk : k < p) (h : ¬ (48 ≤ t k ∧ t k ≤ 57)) : dg t w (p - w) = 0 := by
  by_cases z : dg t w (p - w) = 0
  · exact z
  · have := dg_all (k := k - w) (p - w) (by omega) z
    rw [show w + (k - w) = k by omega] at this
    exact absurd this h
theorem num1_no {t : Nat → Int} {L p : Nat} (h : ¬ (p < L ∧ t p = 32)) : num1 t L p = none := by
  unfold num1
  rw [if_neg (fun z => h z.1)]
theorem num1_bad {t : Nat → Int} {L p e : Nat} (he : e = we t L (p + 1)) (h : nvR t (p + 1) (e - (p + 1)) = -1) : num1 t L p = none := by
  subst he
  unfold num1
  rw [if_neg]
  intro z
  unfold nvR at h
  rw [if_pos z.2] at h
  have := nv_b z.2.2 z.2.1.2
  omega
theorem num1_ok {t : Nat → Int} {L p e : Nat} (hq : p < L ∧ t p = 32) (he : e = we t L (p + 1)) (h : nvR t (p + 1) (e - (p + 1)) ≠ -1) : num1 t L p = some (nvR t (p + 1) (e - (p + 1)), e) := by
  subst he
  unfold num1
  unfold nvR at h ⊢
  split at h
  · rename_i z
    rw [if_pos ⟨hq, z⟩, if_pos z]
  · exact absurd rfl h
def rn1 (t : Nat → Int) (L p : Nat) : Option (Int × Nat) := bnd (num1 t L p) (fun x e => if e < L ∧ t e = 59 then some (x, e + 1) else none) none
def rn2 (t : Nat → Int) (L p : Nat) : Option (Int × Int × Nat) := bnd (num1 t L p) (fun x e => bnd (num1 t L e) (fun y f => if f < L ∧ t f = 59 then some (x, y, f + 1) else none) none) none
def rn4 (t : Nat → Int) (L p : Nat) : Option (Int × Int × Int × Int × Nat) := bnd (num1 t L p) (fun x e => bnd (num1 t L e) (fun y f => bnd (num1 t L f) (fun z g => bnd (num1 t L g) (fun w h => if h < L ∧ t h = 59 then some (x, y, z, w, h + 1) else none) none) none) none) none
theorem bnd_all {α : Type} {P : α → Prop} {o : Option (Int × Nat)} {k : Int → Nat → α} {d : α} (hd : P d) (hk : ∀ x e, o = some (x, e) → P (k x e)) : P (bnd o k d) := by
  cases o with
  | none => exact hd
  | some q => exact hk q.1 q.2 rfl
def fin2 (r : Nat × (Nat → Int)) (e : Nat) : StT := (r.1, (if r.1 = 0 then e else 0), r.2)
theorem stScene_no {t : Nat → Int} {L e : Nat} {v : Nat → Int} (h : rn1 t L e = none) : stScene t L e v = (2, 0, v) := by
  unfold rn1 at h; unfold stScene
  cases hn : num1 t L e with
  | none => rfl
  | some q =>
    rw [hn] at h
    show (if _ then _ else _) = _
    by_cases c : q.2 < L ∧ t q.2 = 59
    · exact absurd h (by show ¬ (if _ then _ else _) = _; rw [if_pos c]; simp)
    · rw [if_neg c]
theorem stScene_ok {t : Nat → Int} {L e e2 : Nat} {v : Nat → Int} {x : Int} (h : rn1 t L e = some (x, e2)) : stScene t L e v = fin2 (scR v x) e2 := by
  unfold rn1 at h; unfold stScene
  cases hn : num1 t L e with
  | none => rw [hn] at h; cases h
  | some q =>
    rw [hn] at h
    rw [show (bnd (some q) (fun x e => if e < L ∧ t e = 59 then some (x, e + 1) else none) none) = (if q.2 < L ∧ t q.2 = 59 then some (q.1, q.2 + 1) else none) from rfl] at h
    by_cases c : q.2 < L ∧ t q.2 = 59
    · rw [if_pos c] at h
      cases h
      show (if _ then _ else _) = _
      rw [if_pos c]
      unfold fin2 scR
      (repeat' split) <;> first | rfl | simp_all
    · rw [if_neg c] at h; cases h
theorem stNums_no {t : Nat → Int} {L e : Nat} {v : Nat → Int} {k : Int} (h : rn2 t L e = none) : stNums t L e v k = (2, 0, v) := by
  unfold rn2 at h; unfold stNums
  cases hn : num1 t L e with
  | none => rfl
  | some q =>
    rw [hn] at h
    rw [show ∀ (α : Type) (k : Int → Nat → α) (d : α), bnd (some q) k d = k q.1 q.2 from fun _ _ _ => rfl] at h ⊢
    cases hn2 : num1 t L q.2 with
    | none => rfl
    | some q2 =>
      rw [hn2] at h
      rw [show ∀ (α : Type) (k : Int → Nat → α) (d : α), bnd (some q2) k d = k q2.1 q2.2 from fun _ _ _ => rfl] at h ⊢
      by_cases c : q2.2 < L ∧ t q2.2 = 59
      · rw [if_pos c] at h; cases h
      · rw [if_neg c]
theorem stNums_ok {t : Nat → Int} {L e e2 : Nat} {v : Nat → Int} {k x y : Int} (h : rn2 t L e = some (x, y, e2)) : stNums t L e v k = fin2 (roR v k x y) e2 := by
  unfold rn2 at h; unfold stNums
  cases hn : num1 t L e with
  | none => rw [hn] at h; cases h
  | some q =>
    rw [hn] at h
    rw [show ∀ (α : Type) (k : Int → Nat → α) (d : α), bnd (some q) k d = k q.1 q.2 from fun _ _ _ => rfl] at h ⊢
    cases hn2 : num1 t L q.2 with
    | none => rw [hn2] at h; cases h
    | some q2 =>
      rw [hn2] at h
      rw [show ∀ (α : Type) (k : Int → Nat → α) (d : α), bnd (some q2) k d = k q2.1 q2.2 from fun _ _ _ => rfl] at h ⊢
      by_cases c : q2.2 < L ∧ t q2.2 = 59
      · rw [if_pos c] at h ⊢
        cases h
        unfold fin2 roR
        (repeat' split) <;> first | rfl | simp_all
      · rw [if_neg c] at h; cases h
theorem stEnter_no {t : Nat → Int} {L e : Nat} {v : Nat → Int} (h : rn4 t L e = none) : stEnter t L e v = (2, 0, v) := by
  unfold rn4 at h; unfold stEnter
  cases hn : num1 t L e with
  | none => rfl
  | some q =>
    rw [hn] at h
    rw [show ∀ (α : Type) (k : Int → Nat → α) (d : α), bnd (some q) k d = k q.1 q.2 from fun _ _ _ => rfl] at h ⊢
    cases hn2 : num1 t L q.2 with
    | none => rfl
    | some q2 =>
      rw [hn2] at h
      rw [show ∀ (α : Type) (k : Int → Nat → α) (d : α), bnd (some q2) k d = k q2.1 q2.2 from fun _ _ _ => rfl] at h ⊢
      cases hn3 : num1 t L q2.2 with
      | none => rfl
      | some q3 =>
        rw [hn3] at h
        rw [show ∀ (α : Type) (k : Int → Nat → α) (d : α), bnd (some q3) k d = k q3.1 q3.2 from fun _ _ _ => rfl] at h ⊢
        cases hn4 : num1 t L q3.2 with
        | none => rfl
        | some q4 =>
          rw [hn4] at h
          rw [show ∀ (α : Type) (k : Int → Nat → α) (d : α), bnd (some q4) k d = k q4.1 q4.2 from fun _ _ _ => rfl] at h ⊢
          by_cases c : q4.2 < L ∧ t q4.2 = 59
          · rw [if_pos c] at h; cases h
          · rw [if_neg c]
theorem stEnter_ok {t : Nat → Int} {L e e2 : Nat} {v : Nat → Int} {x y z w : Int} (h : rn4 t L e = some (x, y, z, w, e2)) : stEnter t L e v = fin2 (apR v x y z w) e2 := by
  unfold rn4 at h; unfold stEnter
  cases hn : num1 t L e with
  | none => rw [hn] at h; cases h
  | some q =>
    rw [hn] at h
    rw [show ∀ (α : Type) (k : Int → Nat → α) (d : α), bnd (some q) k d = k q.1 q.2 from fun _ _ _ => rfl] at h ⊢
    cases hn2 : num1 t L q.2 with
    | none => rw [hn2] at h; cases h
    | some q2 =>
      rw [hn2] at h
      rw [show ∀ (α : Type) (k : Int → Nat → α) (d : α), bnd (some q2) k d = k q2.1 q2.2 from fun _ _ _ => rfl] at h ⊢
      cases hn3 : num1 t L q2.2 with
      | none => rw [hn3] at h; cases h
      | some q3 =>
        rw [hn3] at h
        rw [show ∀ (α : Type) (k : Int → Nat → α) (d : α), bnd (some q3) k d = k q3.1 q3.2 from fun _ _ _ => rfl] at h ⊢
        cases hn4 : num1 t L q3.2 with
        | none => rw [hn4] at h; cases h
        | some q4 =>
          rw [hn4] at h
          rw [show ∀ (α : Type) (k : Int → Nat → α) (d : α), bnd (some q4) k d = k q4.1 q4.2 from fun _ _ _ => rfl] at h ⊢
          by_cases c : q4.2 < L ∧ t q4.2 = 59
          · rw [if_pos c] at h ⊢
            cases h
            unfold fin2 apR
            (repeat' split) <;> first | rfl | simp_all
          · rw [if_neg c] at h; cases h
theorem stRole_no {t : Nat → Int} {L e : Nat} {v : Nat → Int} (h : ¬ (e < L ∧ t e = 32)) : stRole t L e v = (2, 0, v) := by
  unfold stRole; rw [if_neg h]
theorem stRole_vo {t : Nat → Int} {L e : Nat} {v : Nat → Int} (h : e < L ∧ t e = 32) : stRole t L e v = if voR t (e + 1) (we t L (e + 1) - (e + 1)) = -1 then (1, 0, v) else stNums t L (we t L (e + 1)) v (voR t (e + 1) (we t L (e + 1) - (e + 1))) := by
  unfold stRole voR
  rw [if_pos h]
  (repeat' split) <;> first | rfl | simp_all
theorem stm_J (t : Nat → Int) (L p : Nat) (v : Nat → Int) : (isJ 5 t p (we t L p - p) → stm t L p v = stScene t L (we t L p) v) ∧ (¬ isJ 5 t p (we t L p - p) → isJ 6 t p (we t L p - p) → stm t L p v = stRole t L (we t L p) v) ∧ (¬ isJ 5 t p (we t L p - p) → ¬ isJ 6 t p (we t L p - p) → isJ 7 t p (we t L p - p) → stm t L p v = stEnter t L (we t L p) v) ∧ (¬ isJ 5 t p (we t L p - p) → ¬ isJ 6 t p (we t L p - p) → ¬ isJ 7 t p (we t L p - p) → stm t L p v = (1, 0, v)) := by
  rw [isJ5, isJ6, isJ7]
  refine ⟨fun a => ?_, fun a b => ?_, fun a b c => ?_, fun a b c => ?_⟩
  · rw [stm, if_pos a]
  · rw [stm, if_neg a, if_pos b]
  · rw [stm, if_neg a, if_neg b, if_pos c]
  · rw [stm, if_neg a, if_neg b, if_neg c]
