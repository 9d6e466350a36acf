/-! ===== the class's statements ===== -/
theorem stm_act {t : Nat → Int} {L p : Nat} {v : Nat → Int} (hv : okR v) (h : ∀ r, r < 8 → v (36 + r) = -1) : ∀ r, r < 8 → (stm t L p v).2.2 (36 + r) = -1 := by
  have k1 := hv.nr8
  have k2 := hv.na20
  have k3 := hv.ns10
  have hS : ∀ x, ns v < 10 → ∀ r, r < 8 → addScene v x (36 + r) = -1 := fun x hx r hr => by rw [addScene_o (by omega) (by omega)]; exact h r hr
  have hR : ∀ k o i, nr v < 8 → ∀ r, r < 8 → addRole v k o i (36 + r) = -1 := fun k o i hx r hr => by rw [addRole_o (by omega) (by omega) (by omega) (by omega)]; exact h r hr
  have hA : ∀ a b c d, na v < 20 → ∀ r, r < 8 → addApp v a b c d (36 + r) = -1 := fun a b c d hx r hr => by rw [addApp_o (by omega) (by omega)]; exact h r hr
  have hN : ∀ e k, ∀ r, r < 8 → (stNums t L e v k).2.2 (36 + r) = -1 := by
    intro e k
    unfold stNums
    refine bnd_cases (P := fun q => ∀ r, r < 8 → q.2.2 (36 + r) = -1) h (fun x e _ => ?_)
    refine bnd_cases (P := fun q => ∀ r, r < 8 → q.2.2 (36 + r) = -1) h (fun x e _ => ?_)
    (repeat' split) <;> first | exact h | exact hR _ _ _ (by assumption)
  unfold stm
  split
  · unfold stScene
    refine bnd_cases (P := fun q => ∀ r, r < 8 → q.2.2 (36 + r) = -1) h (fun x e _ => ?_)
    (repeat' split) <;> first | exact h | exact hS _ (by assumption)
  · split
    · unfold stRole
      (repeat' split) <;> first | exact h | exact hN _ _
    · split
      · unfold stEnter
        refine bnd_cases (P := fun q => ∀ r, r < 8 → q.2.2 (36 + r) = -1) h (fun x e _ => ?_)
        refine bnd_cases (P := fun q => ∀ r, r < 8 → q.2.2 (36 + r) = -1) h (fun x e _ => ?_)
        refine bnd_cases (P := fun q => ∀ r, r < 8 → q.2.2 (36 + r) = -1) h (fun x e _ => ?_)
        refine bnd_cases (P := fun q => ∀ r, r < 8 → q.2.2 (36 + r) = -1) h (fun x e _ => ?_)
        (repeat' split) <;> first | exact h | exact hA _ _ _ _ (by assumption)
      · exact h
def rdI (t : Nat → Int) (L p n : Nat) (ss : Int) (rs : Nat) (v : Nat → Int) : Prop := (rs = 0 ∧ rdA t L = rdS t L p v (L + 1 - n) ∧ n ≤ p) ∨ (rs ≠ 0 ∧ rdA t L = (ss, rs, v) ∧ 0 ≤ ss)
theorem rdI_0 (t : Nat → Int) (L : Nat) (ss : Int) : rdI t L 0 0 ss 0 eR := Or.inl ⟨rfl, rfl, Nat.le_refl _⟩
theorem rdI_s {t : Nat → Int} {L p n sj : Nat} {ss : Int} {v : Nat → Int} (hv : okR v) (h : rdI t L p n ss 0 v) (hp : p < L) (hn : n ≤ p) (hs : (stm t L p v).1 = 0 → sj = (stm t L p v).2.1) : rdI t L sj (n + 1) ((p : Nat) : Int) (stm t L p v).1 (stm t L p v).2.2 := by
  rcases h with ⟨_, h1, h2⟩ | ⟨h1, _⟩
  · by_cases c : (stm t L p v).1 = 0
    · refine Or.inl ⟨c, ?_, ?_⟩
      · rw [h1, rdS_go hp (by omega) c, ← hs c]
        congr 1
      · have := (stm_good (t := t) (L := L) (p := p) hv).1 c
        have := hs c
        omega
    · refine Or.inr ⟨c, ?_, by omega⟩
      rw [h1, rdS_bad hp (by omega) c]
  · exact absurd rfl h1
theorem rdI_e {t : Nat → Int} {L p n : Nat} {ss : Int} {rs : Nat} {v : Nat → Int} (h : rdI t L p n ss rs v) (he : rs = 0 → ¬ p < L) : (rdA t L).2.2 = v ∧ ((rs = 0 ∧ (rdA t L).1 = -1004) ∨ (rs ≠ 0 ∧ (rdA t L).1 = ss ∧ (rdA t L).2.1 = rs ∧ 0 ≤ ss)) := by
  rcases h with ⟨a, h1, h2⟩ | ⟨a, h1, h2⟩
  · rw [h1, rdS_end (he a)]
    exact ⟨rfl, Or.inl ⟨a, rfl⟩⟩
  · rw [h1]
    exact ⟨rfl, Or.inr ⟨a, rfl, rfl, h2⟩⟩
