/-! ===== the text below its length ===== -/
theorem weS_cong {t t2 : Nat → Int} {L : Nat} (h : ∀ k, k < L → t k = t2 k) : ∀ (f p : Nat), weS t L p f = weS t2 L p f
  | 0, p => rfl
  | f + 1, p => by
    rw [weS, weS, weS_cong h f (p + 1)]
    by_cases c : p < L
    · rw [h p c]
    · rw [if_neg (fun z => c z.1), if_neg (fun z => c z.1)]
theorem we_cong {t t2 : Nat → Int} {L : Nat} (h : ∀ k, k < L → t k = t2 k) (p : Nat) : we t L p = we t2 L p := weS_cong h _ _
theorem ltI_cong {t t2 : Nat → Int} {p : Nat} : ∀ n, (∀ i, i < n → t (p + i) = t2 (p + i)) → ltI t p n = ltI t2 p n
  | 0, _ => rfl
  | n + 1, h => by rw [ltI, ltI, ltI_cong n (fun i hi => h i (by omega)), h n (by omega)]
theorem wv_cong {t t2 : Nat → Int} {p : Nat} : ∀ n, (∀ i, i < n → t (p + i) = t2 (p + i)) → wv t p n = wv t2 p n
  | 0, _ => rfl
  | n + 1, h => by rw [wv, wv, ltI_cong (n + 1) h, wv_cong n (fun i hi => h i (by omega)), h n (by omega)]
theorem dg_cong {t t2 : Nat → Int} {p : Nat} : ∀ n, (∀ i, i < n → t (p + i) = t2 (p + i)) → dg t p n = dg t2 p n
  | 0, _ => rfl
  | n + 1, h => by rw [dg, dg, dg_cong n (fun i hi => h i (by omega)), h n (by omega)]
theorem nv_cong {t t2 : Nat → Int} {p : Nat} : ∀ n, (∀ i, i < n → t (p + i) = t2 (p + i)) → nv t p n = nv t2 p n
  | 0, _ => rfl
  | n + 1, h => by rw [nv, nv, nv_cong n (fun i hi => h i (by omega)), h n (by omega)]
theorem in_we {t t2 : Nat → Int} {L p : Nat} (h : ∀ k, k < L → t k = t2 k) (hp : p ≤ L) : ∀ i, i < we t L p - p → t (p + i) = t2 (p + i) := by
  intro i hi
  have := we_le t L _ p rfl hp
  exact h _ (by omega)
theorem wdV_cong {t t2 : Nat → Int} {L p : Nat} (h : ∀ k, k < L → t k = t2 k) (hp : p ≤ L) : wdV t p (we t L p - p) = wdV t2 p (we t2 L p - p) := by
  rw [← we_cong h p]
  unfold wdV
  rw [ltI_cong _ (in_we h hp), wv_cong _ (in_we h hp)]
theorem num1_cong {t t2 : Nat → Int} {L : Nat} (h : ∀ k, k < L → t k = t2 k) (p : Nat) : num1 t L p = num1 t2 L p := by
  by_cases c : p < L
  · unfold num1
    rw [← we_cong h (p + 1), dg_cong _ (in_we h (show p + 1 ≤ L by omega)), nv_cong _ (in_we h (show p + 1 ≤ L by omega)), h p c]
  · rw [num1_no (fun z => c z.1), num1_no (fun z => c z.1)]
theorem end_cong {t t2 : Nat → Int} {L : Nat} (h : ∀ k, k < L → t k = t2 k) (x : Int) (e : Nat) : (e < L ∧ t e = x) = (e < L ∧ t2 e = x) := by
  apply propext
  constructor
  · rintro ⟨a, b⟩; exact ⟨a, by rw [← h e a]; exact b⟩
  · rintro ⟨a, b⟩; exact ⟨a, by rw [h e a]; exact b⟩
theorem bnd_cong {α : Type} {o o2 : Option (Int × Nat)} {k k2 : Int → Nat → α} {d : α} (ho : o = o2) (hk : ∀ x e, k x e = k2 x e) : bnd o k d = bnd o2 k2 d := by
  subst ho
  cases o with
  | none => rfl
  | some q => exact hk _ _
theorem if_cong2 {α : Type} {c c2 : Prop} [Decidable c] [Decidable c2] (h : c = c2) (a b : α) : (if c then a else b) = (if c2 then a else b) := by
  by_cases z : c
  · rw [if_pos z, if_pos (h ▸ z)]
  · rw [if_neg z, if_neg (h ▸ z)]
theorem stScene_cong {t t2 : Nat → Int} {L : Nat} (h : ∀ k, k < L → t k = t2 k) (e : Nat) (v : Nat → Int) : stScene t L e v = stScene t2 L e v := by
  unfold stScene
  exact bnd_cong (num1_cong h e) (fun x e1 => if_cong2 (end_cong h 59 e1) _ _)
theorem stNums_cong {t t2 : Nat → Int} {L : Nat} (h : ∀ k, k < L → t k = t2 k) (e : Nat) (v : Nat → Int) (k : Int) : stNums t L e v k = stNums t2 L e v k := by
  unfold stNums
  exact bnd_cong (num1_cong h e) (fun x e1 => bnd_cong (num1_cong h e1) (fun y e2 => if_cong2 (end_cong h 59 e2) _ _))
theorem stEnter_cong {t t2 : Nat → Int} {L : Nat} (h : ∀ k, k < L → t k = t2 k) (e : Nat) (v : Nat → Int) : stEnter t L e v = stEnter t2 L e v := by
  unfold stEnter
  exact bnd_cong (num1_cong h e) (fun x e1 => bnd_cong (num1_cong h e1) (fun y e2 => bnd_cong (num1_cong h e2) (fun z e3 => bnd_cong (num1_cong h e3) (fun w e4 => if_cong2 (end_cong h 59 e4) _ _))))
theorem stRole_cong {t t2 : Nat → Int} {L : Nat} (h : ∀ k, k < L → t k = t2 k) (e : Nat) (v : Nat → Int) : stRole t L e v = stRole t2 L e v := by
  by_cases c : e < L ∧ t e = 32
  · have c2 : e < L ∧ t2 e = 32 := (end_cong h 32 e) ▸ c
    unfold stRole
    rw [if_pos c, if_pos c2, wdV_cong h (show e + 1 ≤ L by omega), we_cong h (e + 1), stNums_cong h, stNums_cong h, stNums_cong h]
  · have c2 : ¬ (e < L ∧ t2 e = 32) := (end_cong h 32 e) ▸ c
    unfold stRole
    rw [if_neg c, if_neg c2]
theorem stm_cong {t t2 : Nat → Int} {L p : Nat} (h : ∀ k, k < L → t k = t2 k) (hp : p ≤ L) (v : Nat → Int) : stm t L p v = stm t2 L p v := by
  unfold stm
  rw [wdV_cong h hp, we_cong h p, stScene_cong h, stRole_cong h, stEnter_cong h]
theorem rdS_cong {t t2 : Nat → Int} {L : Nat} (h : ∀ k, k < L → t k = t2 k) : ∀ (f p : Nat) (v : Nat → Int), rdS t L p v f = rdS t2 L p v f
  | 0, p, v => rfl
  | f + 1, p, v => by
    rw [rdS, rdS]
    by_cases c : p < L
    · rw [if_pos c, if_pos c, stm_cong h (by omega), rdS_cong h f]
    · rw [if_neg c, if_neg c]
theorem rdA_cong {t t2 : Nat → Int} {L : Nat} (h : ∀ k, k < L → t k = t2 k) : rdA t L = rdA t2 L := rdS_cong h _ _ _
/-! ===== one actor's roles never conflict ===== -/
theorem okC_neg {v : Nat → Int} (h : ∀ r, r < 8 → v (36 + r) = -1) (hv : okR v) : okC v := by
  intro p q hp _ _ _ hn
  have := hv.nr8
  exact absurd (h p (by omega)) hn
theorem okC_u {v : Nat → Int} (hv : okR v) (hC : okC v) {r : Nat} {x : Int} (hr : r < nr v) (h : x ≠ -1 → ¬ rvX v x r (nr v)) : okC (uI v (36 + r) x) := by
  have k1 := hv.nr8
  have hs := sameA_u (v := v) (r := r) (x := x) (by omega)
  intro p q hp hq hne he hn
  rw [hs.nr] at hp hq
  rw [rsn_same hv hs p q 0 (by omega) (by omega)]
  by_cases ep : p = r
  · subst ep
    rw [uI_s] at he hn
    rw [uI_n (by omega)] at he
    apply Classical.byContradiction
    intro z
    exact h hn ⟨q, hq, fun w => hne w.symm, he.symm, z⟩
  · rw [uI_n (by omega)] at he hn
    by_cases eq : q = r
    · subst eq
      rw [uI_s] at he
      rw [rsn_sym hv hne (by omega) (by omega)]
      apply Classical.byContradiction
      intro z
      exact h (by rw [← he]; exact hn) ⟨p, hp, ep, he, z⟩
    · rw [uI_n (by omega)] at he
      exact hC p q hp hq hne he hn
theorem okC_ad {v : Nat → Int} (hv : okR v) : okC (adS v) := by
  have k1 := hv.nr8
  have hs := sameA_ad v k1
  intro p q hp hq hne he hn
  rw [hs.nr] at hp hq
  rw [rsn_same hv hs p q 0 (by omega) (by omega)]
  have e1 : ∀ j, j < nr v → adS v (36 + j) = fcG (Mk v 0) (nr v) j := fun j hj => by unfold adS; rw [if_pos (by omega), show 36 + j - 36 = j by omega]
  rw [e1 p hp, e1 q hq] at he
  have key : ∀ a b, a < nr v → b < nr v → a < b → fcG (Mk v 0) (nr v) a = fcG (Mk v 0) (nr v) b → rsn v b a 0 = 0 := by
    intro a b ha hb hab hx
    rcases (fcG_s (M := Mk v 0) b hb).2 a hab with z | z
    · exact absurd hx z
    · rw [tb_div] at z
      unfold Mk at z
      rw [mk_bit] at z
      apply Classical.byContradiction
      intro w
      exact z ⟨ha, by omega, w⟩
  rcases Nat.lt_or_gt_of_ne hne with z | z
  · rw [rsn_sym hv hne (by omega) (by omega)]
    exact key p q hp hq z he
  · exact key q p hq hp z he.symm
theorem okC_rp {v : Nat → Int} (hv : okR v) : ∀ r, r ≤ nr v → ∀ p q, p < r → q < r → p ≠ q → rp (Mk v 0) v r (36 + p) = rp (Mk v 0) v r (36 + q) → rp (Mk v 0) v r (36 + p) ≠ -1 → rsn v p q 0 = 0
  | 0, _ => fun p q hp => absurd hp (Nat.not_lt_zero _)
  | r + 1, hr => by
    have k1 := hv.nr8
    have ih := okC_rp hv r (by omega)
    have hs := sameA_rp (M := Mk v 0) (v := v) (r := r) (by omega)
    have fx := fx_rv (v := v) (w := rp (Mk v 0) v r) (r := r) (by omega) (fun p hp => by rw [rsn_same hv hs r p 0 (by omega) (by omega)])
    intro p q hp hq hne he hn
    rw [rp] at he hn
    have top : ∀ a, a < r → fxI (Mk v 0) (rp (Mk v 0) v r) r r ≠ 0 → rp (Mk v 0) v r (36 + a) = rp (Mk v 0) v r (36 + r) → rp (Mk v 0) v r (36 + a) ≠ -1 → rsn v r a 0 = 0 := by
      intro a ha hf hx hm
      apply Classical.byContradiction
      intro z
      exact hf (fx.mpr ⟨by rw [← hx]; exact hm, a, ha, by omega, hx, by rw [rsn_same hv hs r a 0 (by omega) (by omega)]; exact z⟩)
    split at he
    · rename_i c
      rw [if_pos c] at hn
      by_cases ep : p = r
      · subst ep
        rw [uI_s] at hn
        exact absurd rfl hn
      · by_cases eq : q = r
        · subst eq
          rw [uI_n (by omega)] at hn
          rw [uI_s, uI_n (by omega)] at he
          exact absurd he hn
        · rw [uI_n (by omega)] at hn
          rw [uI_n (by omega), uI_n (by omega)] at he
          exact ih p q (by omega) (by omega) hne he hn
    · rename_i c
      rw [if_neg c] at hn
      by_cases ep : p = r
      · subst ep
        exact top q (by omega) c he.symm (by rw [← he]; exact hn)
      · by_cases eq : q = r
        · subst eq
          rw [rsn_sym hv hne (by omega) (by omega)]
          exact top p (by omega) c he hn
        · exact ih p q (by omega) (by omega) hne he hn
theorem okC_rpA {v : Nat → Int} (hv : okR v) : okC (rpA v) := by
  have k1 := hv.nr8
  have hs := sameA_rp (M := Mk v 0) (v := v) (r := nr v) k1
  intro p q hp hq hne he hn
  have e : nr (rpA v) = nr v := hs.nr
  rw [e] at hp hq
  rw [show rsn (rpA v) p q 0 = rsn v p q 0 from rsn_same hv hs p q 0 (by omega) (by omega)]
  exact okC_rp hv (nr v) (Nat.le_refl _) p q hp hq hne he hn
theorem rsn_rem {v : Nat → Int} (hv : okR v) {b p q : Nat} (hb : b < na v) (hp : p < 8) (hq : q < 8) (hne : p ≠ q) (h : rsn v p q 0 = 0) : rsn (remApp v b) p q 0 = 0 := by
  have k1 := hv.na20
  have hw := okR_remApp hv hb
  have idx : ∀ a, a < na (remApp v b) → ∃ a', a' < na v ∧ rl (remApp v b) a = rl v a' ∧ eT (remApp v b) a = eT v a' ∧ xT (remApp v b) a = xT v a' := by
    intro a ha
    rw [na_remApp] at ha
    refine ⟨(if b ≤ a then a + 1 else a), by split <;> omega, ?_, (remApp_times hv ha).1, (remApp_times hv ha).2⟩
    show (remApp v b (45 + (4 * a))).toNat = (v (45 + (4 * (if b ≤ a then a + 1 else a)))).toNat
    rw [show remApp v b (45 + (4 * a)) = _ from remApp_at (j := 0) ha (by omega)]
    rfl
  have ch : ∀ p q, p < 8 → q < 8 → chT (remApp v b) p q 0 = chT v p q 0 := by
    intro p q hp hq
    unfold chT
    rw [remApp_lo (by omega), remApp_lo (by omega)]
  have rmm : ∀ p q, p < 8 → q < 8 → ¬ rm v p q 0 < 0 → ¬ rm (remApp v b) p q 0 < 0 := by
    intro p q hp hq hn z
    rcases rm_at (remApp v b) p q 0 with w | ⟨a, a2, h1, h2, h3, h4, h5, h6⟩
    · omega
    · obtain ⟨c, c1, c2, c3, c4⟩ := idx a h1
      obtain ⟨d, d1, d2, d3, d4⟩ := idx a2 h2
      have := rm_le (f := 0) c1 d1 (c2.symm.trans h3) (d2.symm.trans h4) (by omega)
      rw [ch p q hp hq] at h6
      omega
  unfold rsn at h ⊢
  rw [remApp_lo (by omega), remApp_lo (by omega)]
  split at h
  · omega
  · rename_i c0
    rw [if_neg c0]
    split at h
    · omega
    · rename_i c1
      have n1 : ¬ ov (remApp v b) p q ≠ 0 := by
        rw [ov_iff]
        rintro ⟨a, a2, h1, h2, h3, h4, h5⟩
        obtain ⟨c, e1, e2, e3, e4⟩ := idx a h1
        obtain ⟨d, d1, d2, d3, d4⟩ := idx a2 h2
        refine c1 ((ov_iff v p q).mpr ⟨c, d, e1, d1, e2.symm.trans h3, d2.symm.trans h4, ?_⟩)
        unfold olp at h5 ⊢
        rw [← e3, ← e4, ← d3, ← d4]
        exact h5
      rw [if_neg n1]
      split at h
      · omega
      · rename_i c2
        rw [if_neg]
        rintro (z | z)
        · exact rmm p q hp hq (fun w => c2 (Or.inl w)) z
        · exact rmm q p hq hp (fun w => c2 (Or.inr w)) z
theorem okC_rem {v : Nat → Int} (hv : okR v) (hC : okC v) {b : Nat} (hb : b < na v) : okC (remApp v b) := by
  have k1 := hv.nr8
  intro p q hp hq hne he hn
  rw [nr_remApp] at hp hq
  rw [remApp_lo (by omega), remApp_lo (by omega)] at he
  rw [remApp_lo (by omega)] at hn
  exact rsn_rem hv hb (by omega) (by omega) hne (hC p q hp hq hne he hn)
