/-! ===== rows that agree below 125 ===== -/
def s125 (v w : Nat → Int) : Prop := ∀ k, k < 125 → w k = v k
theorem s125.nr {v w : Nat → Int} (h : s125 v w) : nr w = nr v := nr_eq (h 11 (by omega))
theorem s125.na {v w : Nat → Int} (h : s125 v w) : na w = na v := na_eq (h 44 (by omega))
theorem s125.rl {v w : Nat → Int} (h : s125 v w) (a : Nat) (ha : a < 20) : rl w a = rl v a := by show (w (45 + (4 * a))).toNat = (v (45 + (4 * a))).toNat; rw [h _ (by omega)]
theorem s125.tm {v w : Nat → Int} (hv : okR v) (h : s125 v w) (a : Nat) (ha : a < 20) : eT w a = eT v a ∧ xT w a = xT v a := by
  have s10 := hv.sn10 a ha
  exact times_cong (h _ (by omega)) (h _ (by omega)) (h _ (by omega)) (fun i hi => h _ (by omega))
theorem ovI_125 {v w : Nat → Int} (hv : okR v) (h : s125 v w) (p q a : Nat) (ha : a < 20) : ∀ (b x : Nat), b ≤ 20 → ovI w p q a b x = ovI v p q a b x
  | 0, x, _ => rfl
  | b + 1, x, hb => by
    have t1 := h.tm hv a ha
    have t2 := h.tm hv b (by omega)
    rw [ovI, ovI, ovI_125 hv h p q a ha b x (by omega), h.rl a ha, h.rl b (by omega), t1.1, t1.2, t2.1, t2.2]
theorem ovO_125 {v w : Nat → Int} (hv : okR v) (h : s125 v w) (p q : Nat) : ∀ (a : Nat), a ≤ 20 → ovO w p q a = ovO v p q a
  | 0, _ => rfl
  | a + 1, ha => by rw [ovO, ovO, h.na, ovO_125 hv h p q a (by omega), ovI_125 hv h p q a (by omega) _ _ hv.na20]
theorem roI_125 {v w : Nat → Int} (hv : okR v) (h : s125 v w) (p q : Nat) (f : Int) (hp : p < 8) (hq : q < 8) (a : Nat) (ha : a < 20) : ∀ (b : Nat) (x : Int), b ≤ 20 → roI w p q f a b x = roI v p q f a b x
  | 0, x, _ => rfl
  | b + 1, x, hb => by
    have t1 := h.tm hv a ha
    have t2 := h.tm hv b (by omega)
    have tc : chT w p q f = chT v p q f := by unfold chT; rw [h _ (by omega), h _ (by omega)]
    rw [roI, roI, roI_125 hv h p q f hp hq a ha b x (by omega), h.rl a ha, h.rl b (by omega), t1.2, t2.1, tc]
theorem roO_125 {v w : Nat → Int} (hv : okR v) (h : s125 v w) (p q : Nat) (f : Int) (hp : p < 8) (hq : q < 8) : ∀ (a : Nat), a ≤ 20 → roO w p q f a = roO v p q f a
  | 0, _ => rfl
  | a + 1, ha => by rw [roO, roO, h.na, roO_125 hv h p q f hp hq a (by omega), roI_125 hv h p q f hp hq a (by omega) _ _ hv.na20]
theorem rsn_125 {v w : Nat → Int} (hv : okR v) (h : s125 v w) (p q : Nat) (f : Int) (hp : p < 8) (hq : q < 8) : rsn w p q f = rsn v p q f := by
  unfold rsn ov rm
  rw [h _ (by omega), h _ (by omega), h.na, ovO_125 hv h p q _ hv.na20, roO_125 hv h p q f hp hq _ hv.na20, roO_125 hv h q p f hq hp _ hv.na20]
theorem okC_125 {v w : Nat → Int} (hv : okR v) (h : s125 v w) (hC : okC v) : okC w := by
  have k1 := hv.nr8
  intro p q hp hq hne he hn
  rw [h.nr] at hp hq
  rw [h _ (by omega), h _ (by omega)] at he
  rw [h _ (by omega)] at hn
  rw [rsn_125 hv h p q 0 (by omega) (by omega)]
  exact hC p q hp hq hne he hn
/-! ===== what every row keeps ===== -/
def gd (v : Nat → Int) : Prop := okR v ∧ 1 ≤ nr v ∧ okC v
theorem gd_125 {v w : Nat → Int} (h : s125 v w) (hg : gd v) : gd w := ⟨okR_cong hg.1 h, by rw [h.nr]; exact hg.2.1, okC_125 hg.1 h hg.2.2⟩
def gdK (kp : Nat → Int) (kn : Nat) : Prop := kn ≤ 5 ∧ ∀ i, i < kn → gd (unF kp i)
theorem gdK_rem {v kp : Nat → Int} {kn : Nat} (hv : gd v) (hK : gdK kp kn) : gdK (kpF v kp kn) (kmF kn) := by
  obtain ⟨hk, hR⟩ := hK
  refine ⟨by unfold kmF; split <;> omega, fun i hi => ?_⟩
  by_cases e : kn = 5
  · have hi : i < 5 := by unfold kmF at hi; rw [if_pos e] at hi; exact hi
    by_cases e4 : i = 4
    · refine gd_125 (fun k hk => ?_) hv
      unfold unF kpF
      rw [if_pos e, if_pos (by omega), show 125 * i + k - 500 = k by omega]
    · refine gd_125 (fun k hk => ?_) (hR (i + 1) (by omega))
      unfold unF kpF
      rw [if_pos e, if_neg (by omega), show 125 + (125 * i + k) = 125 * (i + 1) + k by omega]
  · have hi : i < kn + 1 := by unfold kmF at hi; rw [if_neg e] at hi; exact hi
    by_cases e4 : i = kn
    · subst e4
      refine gd_125 (fun k hk => ?_) hv
      unfold unF kpF
      rw [if_neg e, if_pos (by omega), show 125 * i + k - 125 * i = k by omega]
    · refine gd_125 (fun k hk => ?_) (hR i (by omega))
      unfold unF kpF
      rw [if_neg e, if_neg]
      have : 125 * i + 125 ≤ 125 * kn := by omega
      omega
def gdO (o : OpT) : Prop := gd o.2.1 ∧ gdK o.2.2.1 o.2.2.2
theorem gd_add {v kp : Nat → Int} {kn : Nat} (hv : gd v) (hK : gdK kp kn) (r c e x : Int) : gdO (opAdd v kp kn r c e x) := by
  unfold opAdd
  split
  · rename_i h
    split
    · exact ⟨hv, hK⟩
    · rename_i h2
      have l9 := hv.1.ns10
      have n20 := hv.1.na20
      have hl := (hv.1.2.2.2.1 c.toNat (by omega)).2
      have ok2 := okR_addApp hv.1 (show na v < 20 by omega) (r := r) (c := c) (e := e) (x := x) h.1.1 h.1.2 (by omega)
      refine ⟨⟨okR_rp ok2 _ ok2.nr8, ?_, okC_rpA ok2⟩, gdK_rem hv hK⟩
      show 1 ≤ nr (rpA (addApp v r c e x))
      rw [show nr (rpA (addApp v r c e x)) = nr v from ((sameA_rp ok2.nr8).nr).trans (nr_addApp v r c e x)]
      exact hv.2.1
  · exact ⟨hv, hK⟩
theorem gd_set {v kp : Nat → Int} {kn : Nat} (hv : gd v) (hK : gdK kp kn) (r o i : Int) : gdO (opSet v kp kn r o i) := by
  unfold opSet
  split
  · rename_i h
    have n8 := hv.1.nr8
    have ok2 := okR_setCh hv.1 (r := r.toNat) (by omega) h.2.1 h.2.2
    refine ⟨⟨okR_rp ok2 _ ok2.nr8, ?_, okC_rpA ok2⟩, gdK_rem hv hK⟩
    show 1 ≤ nr (rpA (setCh v r.toNat o i))
    rw [show nr (rpA (setCh v r.toNat o i)) = nr v from ((sameA_rp ok2.nr8).nr).trans nr_setCh]
    exact hv.2.1
  · exact ⟨hv, hK⟩
theorem gd_rem {v kp : Nat → Int} {kn : Nat} (hv : gd v) (hK : gdK kp kn) (a : Int) : gdO (opRem v kp kn a) := by
  unfold opRem
  split
  · rename_i h
    exact ⟨⟨okR_remApp hv.1 (by omega), by rw [nr_remApp]; exact hv.2.1, okC_rem hv.1 hv.2.2 (by omega)⟩, gdK_rem hv hK⟩
  · exact ⟨hv, hK⟩
theorem gd_u {v : Nat → Int} (hv : gd v) {r : Nat} {x : Int} (hr : r < nr v) (hx : -1 ≤ x ∧ x ≤ 7) (h : x ≠ -1 → ¬ rvX v x r (nr v)) : gd (uI v (36 + r) x) := by
  have n8 := hv.1.nr8
  exact ⟨okR_actU hv.1 (by omega) hx, by rw [(sameA_u (v := v) (r := r) (x := x) (by omega)).nr]; exact hv.2.1, okC_u hv.1 hv.2.2 hr h⟩
theorem gd_cast {v kp : Nat → Int} {kn : Nat} (hv : gd v) (hK : gdK kp kn) (r x : Int) : gdO (opCast v kp kn r x) := by
  unfold opCast
  split
  · rename_i h
    split
    · exact ⟨hv, hK⟩
    · rename_i h2
      exact ⟨gd_u hv (by omega) (by omega) (fun _ z => h2 ((cast_iff v x r.toNat).mpr z)), gdK_rem hv hK⟩
  · exact ⟨hv, hK⟩
theorem gd_unc {v kp : Nat → Int} {kn : Nat} (hv : gd v) (hK : gdK kp kn) (r : Int) : gdO (opUnc v kp kn r) := by
  unfold opUnc
  split
  · rename_i h
    split
    · exact ⟨hv, hK⟩
    · exact ⟨gd_u hv (by omega) (by omega) (fun z => absurd rfl z), gdK_rem hv hK⟩
  · exact ⟨hv, hK⟩
theorem gd_ado {v kp : Nat → Int} {kn : Nat} (hv : gd v) (hK : gdK kp kn) : gdO (opAdo v kp kn) := by
  have n8 := hv.1.nr8
  refine ⟨⟨okR_act hv.1 (sameA_ad v n8) (fun r hr => ?_), by rw [show nr (opAdo v kp kn).2.1 = nr v from (sameA_ad v n8).nr]; exact hv.2.1, okC_ad hv.1⟩, gdK_rem hv hK⟩
  show -1 ≤ adS v (36 + r) ∧ adS v (36 + r) ≤ 7
  unfold adS
  split
  · rename_i h
    rw [show 36 + r - 36 = r by omega]
    have := fcG_b (M := Mk v 0) (q := r) n8 (by omega)
    omega
  · exact (hv.1.2.2.2.2.1 r hr).2.2.2
theorem gd_und {v kp : Nat → Int} {kn : Nat} (hv : gd v) (hK : gdK kp kn) : gdO (opUnd v kp kn) := by
  unfold opUnd
  split
  · exact ⟨hv, hK⟩
  · exact ⟨hK.2 _ (by omega), by have := hK.1; show kn - 1 ≤ 5; omega, fun i hi => hK.2 i (Nat.lt_of_lt_of_le hi (Nat.sub_le _ _))⟩
theorem rdA_act (t : Nat → Int) (L : Nat) : ∀ r, r < 8 → (rdA t L).2.2 (36 + r) = -1 := by
  have key : ∀ (f p : Nat) (v : Nat → Int), okR v → (∀ r, r < 8 → v (36 + r) = -1) → ∀ r, r < 8 → (rdS t L p v f).2.2 (36 + r) = -1 := by
    intro f
    induction f with
    | zero => intro p v _ h; exact h
    | succ f ih =>
      intro p v hv h
      rw [rdS]
      split
      · split
        · rename_i c
          exact ih _ _ ((stm_good (t := t) (L := L) (p := p) hv).1 c).2.2 (stm_act hv h)
        · exact stm_act hv h
      · exact h
  exact key _ _ _ okR_eR (by decide)
theorem gd_cnf {v kp : Nat → Int} {kn : Nat} (hv : gd v) (hK : gdK kp kn) (t : Nat → Int) (L : Nat) : gdO (opCnf v kp kn t L) := by
  unfold opCnf
  split
  · rename_i h
    exact ⟨⟨okR_rdA t L, by show 1 ≤ nr (rdA t L).2.2; omega, okC_neg (rdA_act t L) (okR_rdA t L)⟩, by show 0 ≤ 5; omega, fun i hi => absurd hi (Nat.not_lt_zero _)⟩
  · exact ⟨hv, hK⟩
theorem okT_apn {t : Nat → Int} {L : Nat} (h : okT t L) (c : Int) : okT (opApn t L c).2.1 (opApn t L c).2.2 := by
  unfold opApn
  split
  · split
    · exact h
    · rename_i h1 h2
      have := h.1
      refine ⟨by show L + 1 ≤ 400; omega, fun i hi => ?_⟩
      show 32 ≤ uI t L c i ∧ uI t L c i ≤ 126
      have hi : i < L + 1 := hi
      by_cases e : i = L
      · subst e; rw [uI_s]; omega
      · rw [uI_n e]; exact h.2 i (by omega)
  · exact h
theorem tx_apn {t t2 : Nat → Int} {L : Nat} (h : ∀ k, k < L → t k = t2 k) (c : Int) : (opApn t L c).1 = (opApn t2 L c).1 ∧ (opApn t L c).2.2 = (opApn t2 L c).2.2 ∧ ∀ k, k < (opApn t L c).2.2 → (opApn t L c).2.1 k = (opApn t2 L c).2.1 k := by
  unfold opApn
  split
  · split
    · exact ⟨rfl, rfl, h⟩
    · refine ⟨rfl, rfl, fun k hk => ?_⟩
      have hk : k < L + 1 := hk
      show uI t L c k = uI t2 L c k
      by_cases e : k = L
      · subst e; rw [uI_s, uI_s]
      · rw [uI_n e, uI_n e]; exact h k (by omega)
  · exact ⟨rfl, rfl, h⟩
