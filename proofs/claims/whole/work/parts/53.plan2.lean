/-! ===== what the class remembers ===== -/
theorem okR_cong {v w : Nat → Int} (hv : okR v) (h : ∀ k, k < 125 → w k = v k) : okR w := by
  obtain ⟨h1, h2, h3, h4, h5, h6, h7⟩ := hv
  refine ⟨?_, ?_, ?_, fun i hi => ?_, fun r hr => ?_, fun a ha => ?_, fun a ha => ?_⟩
  · rw [h 0 (by omega)]; exact h1
  · rw [h 11 (by omega)]; exact h2
  · rw [h 44 (by omega)]; exact h3
  · rw [h _ (by omega)]; exact h4 i hi
  · rw [h _ (by omega), h _ (by omega), h _ (by omega), h _ (by omega)]; exact h5 r hr
  · rw [h _ (by omega), h _ (by omega), h _ (by omega), h _ (by omega)]; exact h6 a ha
  · rw [h 44 (by omega)] at ha
    rw [h _ (by omega), h _ (by omega), h _ (by omega), h _ (by omega), h _ (by omega), h _ (by omega)]
    exact h7 a ha
theorem PA_cong {v w sl vo ou inn ac ag ai et xt : Nat → Int} (hv : okR v) (h : ∀ k, k < 125 → w k = v k) (hP : PA v sl vo ou inn ac ag ai et xt) : PA w sl vo ou inn ac ag ai et xt := by
  have k1 := hv.nr8
  have k2 := hv.na20
  have k3 := hv.ns10
  have e1 : ns w = ns v := ns_eq (h 0 (by omega))
  have e2 : nr w = nr v := nr_eq (h 11 (by omega))
  have e3 : na w = na v := na_eq (h 44 (by omega))
  refine ⟨fun i hi => ?_, fun r hr => ?_, fun a ha => ?_⟩
  · rw [e1] at hi
    rw [h _ (by omega)]; exact hP.1 i hi
  · rw [e2] at hr
    rw [h _ (by omega), h _ (by omega), h _ (by omega), h _ (by omega)]; exact hP.2.1 r hr
  · rw [e3] at ha
    have s10 := hv.sn10 a (by omega)
    have tc := times_cong (v := v) (w := w) (a := a) (h _ (by omega)) (h _ (by omega)) (h _ (by omega)) (fun i hi => h _ (by omega))
    rw [h _ (by omega), h _ (by omega), tc.1, tc.2]
    exact hP.2.2 a ha
def PD (w : Nat → Int) (d : PlD) : Prop := okR w ∧ d.1 = (((ns w : Nat) : Int), ((nr w : Nat) : Int), ((na w : Nat) : Int)) ∧ PA w (d.2 0) (d.2 1) (d.2 2) (d.2 3) (d.2 4) (d.2 5) (d.2 6) (d.2 7) (d.2 8)
theorem PD_cong {v w : Nat → Int} {d : PlD} (h : ∀ k, k < 125 → w k = v k) (hP : PD v d) : PD w d := by
  obtain ⟨h1, h2, h3⟩ := hP
  refine ⟨okR_cong h1 h, ?_, PA_cong h1 h h3⟩
  rw [h2, show ns w = ns v from ns_eq (h 0 (by omega)), show nr w = nr v from nr_eq (h 11 (by omega)), show na w = na v from na_eq (h 44 (by omega))]
def HR (kp : Nat → Int) (kn : Nat) (D : Nat → PlD) : Prop := ∀ i, i < kn → PD (unF kp i) (D i)
theorem HR_rem {v kp : Nat → Int} {kn : Nat} {D : Nat → PlD} {sl vo ou inn ac ag ai et xt : Nat → Int} (hv : okR v) (hP : PA v sl vo ou inn ac ag ai et xt) (hk : kn ≤ 5) (hR : HR kp kn D) : HR (kpF v kp kn) (kmF kn) (remD D kn (mkD ((ns v : Nat) : Int) ((nr v : Nat) : Int) ((na v : Nat) : Int) sl vo ou inn ac ag ai et xt)) := by
  have hd : PD v (mkD ((ns v : Nat) : Int) ((nr v : Nat) : Int) ((na v : Nat) : Int) sl vo ou inn ac ag ai et xt) := ⟨hv, rfl, hP⟩
  intro i hi
  unfold remD
  by_cases e : kn = 5
  · rw [if_pos e]
    have hi : i < 5 := by unfold kmF at hi; rw [if_pos e] at hi; exact hi
    unfold upD
    by_cases e4 : i = 4
    · rw [if_pos e4]
      refine PD_cong (fun k hk => ?_) hd
      unfold unF kpF
      rw [if_pos e, if_pos (by omega), show 125 * i + k - 500 = k by omega]
    · rw [if_neg e4]
      have hD : rot D i = D (i + 1) := by
        rcases (show i = 0 ∨ i = 1 ∨ i = 2 ∨ i = 3 by omega) with rfl | rfl | rfl | rfl <;> rfl
      rw [hD]
      refine PD_cong (fun k hk => ?_) (hR (i + 1) (by omega))
      unfold unF kpF
      rw [if_pos e, if_neg (by omega)]
      congr 1
      omega
  · rw [if_neg e]
    have hi : i < kn + 1 := by unfold kmF at hi; rw [if_neg e] at hi; exact hi
    unfold upD
    by_cases e4 : i = kn
    · rw [if_pos e4]
      refine PD_cong (fun k hk => ?_) hd
      unfold unF kpF
      rw [if_neg e, if_pos (by subst e4; omega)]
      congr 1
      subst e4
      omega
    · rw [if_neg e4]
      refine PD_cong (fun k hk => ?_) (hR i (by omega))
      unfold unF kpF
      rw [if_neg e, if_neg]
      have : 125 * i + 125 ≤ 125 * kn := by omega
      omega
theorem PA_act {v sl vo ou inn ac ag ai et xt : Nat → Int} {r : Nat} {x : Int} (hv : okR v) (hP : PA v sl vo ou inn ac ag ai et xt) (hr : r < nr v) : PA (uI v (36 + r) x) sl vo ou inn (uI ac r x) ag ai et xt := by
  have k1 := hv.nr8
  have k2 := hv.na20
  have k3 := hv.ns10
  have hs := sameA_u (v := v) (r := r) (x := x) (by omega)
  refine ⟨fun i hi => ?_, fun q hq => ?_, fun a ha => ?_⟩
  · rw [hs.ns] at hi
    rw [hs _ (by omega)]; exact hP.1 i hi
  · rw [hs.nr] at hq
    have h := hP.2.1 q hq
    rw [hs (12 + q) (by omega), hs (20 + q) (by omega), hs (28 + q) (by omega)]
    refine ⟨h.1, h.2.1, h.2.2.1, ?_⟩
    by_cases e : q = r
    · subst e; rw [uI_s, uI_s]
    · rw [uI_n e, uI_n (by omega)]; exact h.2.2.2
  · rw [hs.na] at ha
    have t := hs.tm hv a (by omega)
    rw [hs _ (by omega), hs _ (by omega), t.1, t.2]
    exact hP.2.2 a ha
theorem setCh_o {v : Nat → Int} {r k : Nat} {o i : Int} (h1 : k ≠ 20 + r) (h2 : k ≠ 28 + r) : setCh v r o i k = v k := by
  unfold setCh
  rw [uI_n h2, uI_n h1]
theorem ns_setCh {v : Nat → Int} {r : Nat} {o i : Int} : ns (setCh v r o i) = ns v := ns_eq (setCh_o (by omega) (by omega))
theorem nr_setCh {v : Nat → Int} {r : Nat} {o i : Int} : nr (setCh v r o i) = nr v := nr_eq (setCh_o (by omega) (by omega))
theorem na_setCh {v : Nat → Int} {r : Nat} {o i : Int} (hr : r < 8) : na (setCh v r o i) = na v := na_eq (setCh_o (by omega) (by omega))
theorem PA_set {v sl vo ou inn ac ag ai et xt : Nat → Int} {r : Nat} {o i : Int} (hv : okR v) (hP : PA v sl vo ou inn ac ag ai et xt) (hr : r < nr v) : PA (setCh v r o i) sl vo (uI ou r o) (uI inn r i) ac ag ai et xt := by
  have k1 := hv.nr8
  have k2 := hv.na20
  have k3 := hv.ns10
  refine ⟨fun j hj => ?_, fun q hq => ?_, fun a ha => ?_⟩
  · rw [ns_setCh] at hj
    rw [setCh_o (by omega) (by omega)]; exact hP.1 j hj
  · rw [nr_setCh] at hq
    have h := hP.2.1 q hq
    rw [setCh_o (k := 12 + q) (by omega) (by omega), setCh_o (k := 36 + q) (by omega) (by omega)]
    refine ⟨h.1, ?_, ?_, h.2.2.2⟩
    · by_cases e : q = r
      · subst e; unfold setCh; rw [uI_s, uI_n (by omega), uI_s]
      · rw [uI_n e, setCh_o (by omega) (by omega)]; exact h.2.1
    · by_cases e : q = r
      · subst e; unfold setCh; rw [uI_s, uI_s]
      · rw [uI_n e, setCh_o (by omega) (by omega)]; exact h.2.2.1
  · rw [na_setCh (by omega)] at ha
    have s10 := hv.sn10 a (by omega)
    have tc := times_cong (v := v) (w := setCh v r o i) (a := a) (setCh_o (by omega) (by omega)) (setCh_o (by omega) (by omega)) (setCh_o (by omega) (by omega)) (fun j hj => setCh_o (by omega) (by omega))
    rw [setCh_o (by omega) (by omega), setCh_o (by omega) (by omega), tc.1, tc.2]
    exact hP.2.2 a ha
theorem sameA_ad (v : Nat → Int) (h : nr v ≤ 8) : sameA v (adS v) := fun k hk => by unfold adS; rw [if_neg (by omega)]
theorem PA_ad {v sl vo ou inn ac ac1 ag ai et xt : Nat → Int} (hv : okR v) (hP : PA v sl vo ou inn ac ag ai et xt) (h : ∀ j, j < nr v → ac1 j = fcG (Mk v 0) (nr v) j) : PA (adS v) sl vo ou inn ac1 ag ai et xt := by
  have k1 := hv.nr8
  have k2 := hv.na20
  have k3 := hv.ns10
  have hs := sameA_ad v k1
  refine ⟨fun i hi => ?_, fun q hq => ?_, fun a ha => ?_⟩
  · rw [hs.ns] at hi
    rw [hs _ (by omega)]; exact hP.1 i hi
  · rw [hs.nr] at hq
    have h1 := hP.2.1 q hq
    rw [hs (12 + q) (by omega), hs (20 + q) (by omega), hs (28 + q) (by omega)]
    refine ⟨h1.1, h1.2.1, h1.2.2.1, ?_⟩
    unfold adS
    rw [if_pos (by omega), h q hq, show 36 + q - 36 = q by omega]
  · rw [hs.na] at ha
    have t := hs.tm hv a (by omega)
    rw [hs _ (by omega), hs _ (by omega), t.1, t.2]
    exact hP.2.2 a ha
