/-! ===== an appearance less ===== -/
def shJ (b a : Nat) (g g2 : Nat → Int) : Prop := ∀ k, g2 k = if b ≤ k ∧ k < a then g (k + 1) else g k
theorem shJ_0 (b : Nat) (g : Nat → Int) : shJ b b g g := fun k => by rw [if_neg (by omega)]
theorem shJ_s {b a : Nat} {g g2 : Nat → Int} (hb : b ≤ a) (h : shJ b a g g2) : shJ b (a + 1) g (uI g2 a (g2 (a + 1))) := by
  intro k
  by_cases e : k = a
  · subst e
    rw [uI_s, h (k + 1), if_neg (by omega), if_pos (by omega)]
  · rw [uI_n e, h k]
    by_cases z : b ≤ k ∧ k < a
    · rw [if_pos z, if_pos (by omega)]
    · rw [if_neg z, if_neg (by omega)]
theorem remApp_lo {v : Nat → Int} {a k : Nat} (h : k < 44) : remApp v a k = v k := by
  unfold remApp
  rw [if_neg (by omega), if_neg (by omega)]
theorem ns_remApp (v : Nat → Int) (a : Nat) : ns (remApp v a) = ns v := ns_eq (remApp_lo (by omega))
theorem nr_remApp (v : Nat → Int) (a : Nat) : nr (remApp v a) = nr v := nr_eq (remApp_lo (by omega))
theorem na_remApp (v : Nat → Int) (a : Nat) : na (remApp v a) = na v - 1 := by
  show (remApp v a 44).toNat = na v - 1
  unfold remApp
  rw [if_pos rfl]
  exact Int.toNat_natCast _
theorem remApp_at {v : Nat → Int} {b a j : Nat} (h : a < na v - 1) (hj : j < 4) : remApp v b ((45 + (4 * a)) + j) = v ((45 + (4 * (if b ≤ a then a + 1 else a))) + j) := by
  unfold remApp
  rw [if_neg (by omega)]
  by_cases z : b ≤ a
  · rw [if_pos (by omega), if_pos z]
    congr 1
    omega
  · rw [if_neg (by omega), if_neg z]
theorem remApp_times {v : Nat → Int} (hv : okR v) {b a : Nat} (h : a < na v - 1) : eT (remApp v b) a = eT v (if b ≤ a then a + 1 else a) ∧ xT (remApp v b) a = xT v (if b ≤ a then a + 1 else a) := by
  have h1 := remApp_at (b := b) (j := 1) h (by omega)
  have h2 := remApp_at (b := b) (j := 2) h (by omega)
  have h3 := remApp_at (b := b) (j := 3) h (by omega)
  have hk := hv.na20
  have hj : (if b ≤ a then a + 1 else a) < 20 := by split <;> omega
  obtain ⟨j, hjj⟩ : ∃ j, j = (if b ≤ a then a + 1 else a) := ⟨_, rfl⟩
  rw [← hjj] at h1 h2 h3 hj ⊢
  have hsn : sn (remApp v b) a = sn v j := by
    show (remApp v b ((45 + (4 * a)) + 1)).toNat = _
    rw [h1]; rfl
  have hs : st (remApp v b) (sn v j) = st v (sn v j) := st_cong _ (fun i hi => remApp_lo (by have := hv.sn10 j hj; omega))
  unfold eT xT
  rw [hsn, hs, h2, h3]
  exact ⟨rfl, rfl⟩
theorem PA_rem {v sl vo ou inn ac ag ai et xt ag1 ai1 et1 xt1 : Nat → Int} {b : Nat} (hv : okR v) (h : PA v sl vo ou inn ac ag ai et xt) (hb : b < na v) (h1 : shJ b (na v - 1) ag ag1) (h2 : shJ b (na v - 1) ai ai1) (h3 : shJ b (na v - 1) et et1) (h4 : shJ b (na v - 1) xt xt1) : PA (remApp v b) sl vo ou inn ac ag1 ai1 et1 xt1 := by
  have hk := hv.nr8
  have hk2 := hv.ns10
  refine ⟨fun i hi => ?_, fun r hr => ?_, fun a ha => ?_⟩
  · rw [ns_remApp] at hi
    rw [remApp_lo (by omega)]
    exact h.1 i hi
  · rw [nr_remApp] at hr
    rw [remApp_lo (by omega), remApp_lo (by omega), remApp_lo (by omega), remApp_lo (by omega)]
    exact h.2.1 r hr
  · rw [na_remApp] at ha
    have e0 := remApp_at (v := v) (b := b) (j := 0) ha (by omega)
    have e1 := remApp_at (v := v) (b := b) (j := 1) ha (by omega)
    have et := remApp_times hv (b := b) ha
    rw [et.1, et.2, e1, show remApp v b (45 + (4 * a)) = _ from e0]
    have hj : ∀ (g g1 : Nat → Int), shJ b (na v - 1) g g1 → g1 a = g (if b ≤ a then a + 1 else a) := by
      intro g g1 hg
      rw [hg a]
      by_cases z : b ≤ a
      · rw [if_pos (by omega), if_pos z]
      · rw [if_neg (by omega), if_neg z]
    rw [hj _ _ h1, hj _ _ h2, hj _ _ h3, hj _ _ h4]
    exact h.2.2 _ (by split <;> omega)
theorem remApp_any (v : Nat → Int) (b a j : Nat) (hj : j < 4) : remApp v b ((45 + (4 * a)) + j) = v ((45 + (4 * (if b ≤ a ∧ a < na v - 1 then a + 1 else a))) + j) := by
  unfold remApp
  rw [if_neg (by omega)]
  by_cases z : b ≤ a ∧ a < na v - 1
  · rw [if_pos (by omega), if_pos z]
    congr 1
    omega
  · rw [if_neg (by omega), if_neg z]
theorem okR_remApp {v : Nat → Int} (hv : okR v) {b : Nat} (hb : b < na v) : okR (remApp v b) := by
  have hk := hv.na20
  have e44 := hv.e44
  have er : remApp v b 44 = (((na v - 1) : Nat) : Int) := by unfold remApp; rw [if_pos rfl]
  have l : ∀ k, k < 44 → remApp v b k = v k := fun k hk => remApp_lo hk
  refine ⟨?_, ?_, ?_, fun i hi => ?_, fun r hr => ?_, fun a ha => ?_, fun a ha => ?_⟩
  · rw [l 0 (by omega)]; exact hv.1
  · rw [l 11 (by omega)]; exact hv.2.1
  · rw [er]; omega
  · rw [l _ (by omega)]; exact hv.2.2.2.1 i hi
  · rw [l _ (by omega), l _ (by omega), l _ (by omega), l _ (by omega)]; exact hv.2.2.2.2.1 r hr
  · rw [remApp_any v b a 1 (by omega), remApp_any v b a 2 (by omega), remApp_any v b a 3 (by omega), show remApp v b (45 + (4 * a)) = _ from remApp_any v b a 0 (by omega)]
    exact hv.2.2.2.2.2.1 _ (by split <;> omega)
  · rw [er] at ha
    rw [l 11 (by omega), l 0 (by omega), remApp_any v b a 1 (by omega), remApp_any v b a 2 (by omega), remApp_any v b a 3 (by omega), show remApp v b (45 + (4 * a)) = _ from remApp_any v b a 0 (by omega)]
    exact hv.2.2.2.2.2.2 _ (by rw [e44]; split <;> omega)
