/-! ===== what the calls do to a row ===== -/
def eR : Nat → Int := fun k => if 36 ≤ k ∧ k < 44 then -1 else 0
def addRole (v : Nat → Int) (x o i : Int) : Nat → Int := uI (uI (uI (uI v (12 + nr v) x) (20 + nr v) o) (28 + nr v) i) 11 (((nr v + 1) : Nat) : Int)
def addApp (v : Nat → Int) (r c e x : Int) : Nat → Int := uI (uI (uI (uI (uI v (45 + (4 * na v)) r) ((45 + (4 * na v)) + 1) c) ((45 + (4 * na v)) + 2) e) ((45 + (4 * na v)) + 3) x) 44 (((na v + 1) : Nat) : Int)
def addScene (v : Nat → Int) (x : Int) : Nat → Int := uI (uI v (1 + ns v) x) 0 (((ns v + 1) : Nat) : Int)
theorem okR_eR : okR eR := by
  refine ⟨by decide, by decide, by decide, fun i hi => ?_, fun r hr => ?_, fun a ha => ?_, fun a ha => ?_⟩
  · have e : eR (1 + i) = 0 := if_neg (by omega)
    rw [e]; omega
  · have e1 : eR (12 + r) = 0 := if_neg (by omega)
    have e2 : eR (20 + r) = 0 := if_neg (by omega)
    have e3 : eR (28 + r) = 0 := if_neg (by omega)
    have e4 : eR (36 + r) = -1 := if_pos (by omega)
    rw [e1, e2, e3, e4]; omega
  · have e1 : eR (45 + (4 * a)) = 0 := if_neg (by omega)
    have e2 : eR ((45 + (4 * a)) + 1) = 0 := if_neg (by omega)
    have e3 : eR ((45 + (4 * a)) + 2) = 0 := if_neg (by omega)
    have e4 : eR ((45 + (4 * a)) + 3) = 0 := if_neg (by omega)
    rw [e1, e2, e3, e4]; omega
  · have e : eR 44 = 0 := by decide
    rw [e] at ha
    omega
theorem addRole_o {v : Nat → Int} {x o i : Int} {k : Nat} (a : k ≠ 11) (b : k ≠ 12 + nr v) (c : k ≠ 20 + nr v) (d : k ≠ 28 + nr v) : addRole v x o i k = v k := by
  unfold addRole
  rw [uI_n a, uI_n d, uI_n c, uI_n b]
theorem addRole_11 (v : Nat → Int) (x o i : Int) : addRole v x o i 11 = (((nr v + 1) : Nat) : Int) := uI_s _ _ _
theorem addRole_v {v : Nat → Int} {x o i : Int} (h : nr v < 8) : addRole v x o i (12 + nr v) = x := by
  unfold addRole
  rw [uI_n (by omega), uI_n (by omega), uI_n (by omega), uI_s]
theorem addRole_out {v : Nat → Int} {x o i : Int} (h : nr v < 8) : addRole v x o i (20 + nr v) = o := by
  unfold addRole
  rw [uI_n (by omega), uI_n (by omega), uI_s]
theorem addRole_in {v : Nat → Int} {x o i : Int} (h : nr v < 8) : addRole v x o i (28 + nr v) = i := by
  unfold addRole
  rw [uI_n (by omega), uI_s]
theorem okR_addRole {v : Nat → Int} (h : okR v) (hn : nr v < 8) {x o i : Int} (hx : 0 ≤ x ∧ x ≤ 2) (ho : 0 ≤ o ∧ o ≤ 60) (hi : 0 ≤ i ∧ i ≤ 60) : okR (addRole v x o i) := by
  have h11 := h.e11
  refine ⟨by rw [addRole_o (by omega) (by omega) (by omega) (by omega)]; exact h.1, by rw [addRole_11]; omega, by rw [addRole_o (by omega) (by omega) (by omega) (by omega)]; exact h.2.2.1, fun j hj => by rw [addRole_o (by omega) (by omega) (by omega) (by omega)]; exact h.2.2.2.1 j hj, fun r hr => ?_, fun a ha => ?_, fun a ha => ?_⟩
  · have h5 := h.2.2.2.2.1 r hr
    by_cases e : r = nr v
    · subst e
      rw [addRole_v hn, addRole_out hn, addRole_in hn, addRole_o (k := 36 + nr v) (by omega) (by omega) (by omega) (by omega)]
      exact ⟨hx, ho, hi, h5.2.2.2⟩
    · rw [addRole_o (k := 12 + r) (by omega) (by omega) (by omega) (by omega), addRole_o (k := 20 + r) (by omega) (by omega) (by omega) (by omega), addRole_o (k := 28 + r) (by omega) (by omega) (by omega) (by omega), addRole_o (k := 36 + r) (by omega) (by omega) (by omega) (by omega)]
      exact h5
  · rw [addRole_o (k := 45 + (4 * a)) (by omega) (by omega) (by omega) (by omega), addRole_o (k := (45 + (4 * a)) + 1) (by omega) (by omega) (by omega) (by omega), addRole_o (k := (45 + (4 * a)) + 2) (by omega) (by omega) (by omega) (by omega), addRole_o (k := (45 + (4 * a)) + 3) (by omega) (by omega) (by omega) (by omega)]
    exact h.2.2.2.2.2.1 a ha
  · rw [addRole_o (k := 44) (by omega) (by omega) (by omega) (by omega)] at ha
    rw [addRole_o (k := 45 + (4 * a)) (by omega) (by omega) (by omega) (by omega), addRole_o (k := (45 + (4 * a)) + 1) (by omega) (by omega) (by omega) (by omega), addRole_o (k := (45 + (4 * a)) + 2) (by omega) (by omega) (by omega) (by omega), addRole_o (k := (45 + (4 * a)) + 3) (by omega) (by omega) (by omega) (by omega), addRole_11, addRole_o (k := 0) (by omega) (by omega) (by omega) (by omega)]
    have h6 := h.2.2.2.2.2.2 a ha
    omega
theorem addScene_o {v : Nat → Int} {x : Int} {k : Nat} (a : k ≠ 0) (b : k ≠ 1 + ns v) : addScene v x k = v k := by
  unfold addScene
  rw [uI_n a, uI_n b]
theorem addScene_0 (v : Nat → Int) (x : Int) : addScene v x 0 = (((ns v + 1) : Nat) : Int) := uI_s _ _ _
theorem addScene_n (v : Nat → Int) (x : Int) : addScene v x (1 + ns v) = x := by
  unfold addScene
  rw [uI_n (by omega), uI_s]
theorem okR_addScene {v : Nat → Int} (h : okR v) (hn : ns v < 10) {x : Int} (hx : 0 ≤ x ∧ x ≤ 99) : okR (addScene v x) := by
  have h0 := h.e0
  refine ⟨by rw [addScene_0]; omega, by rw [addScene_o (by omega) (by omega)]; exact h.2.1, by rw [addScene_o (by omega) (by omega)]; exact h.2.2.1, fun j hj => ?_, fun r hr => ?_, fun a ha => ?_, fun a ha => ?_⟩
  · by_cases e : j = ns v
    · rw [e, addScene_n]; exact hx
    · rw [addScene_o (by omega) (by omega)]; exact h.2.2.2.1 j hj
  · rw [addScene_o (k := 12 + r) (by omega) (by omega), addScene_o (k := 20 + r) (by omega) (by omega), addScene_o (k := 28 + r) (by omega) (by omega), addScene_o (k := 36 + r) (by omega) (by omega)]
    exact h.2.2.2.2.1 r hr
  · rw [addScene_o (k := 45 + (4 * a)) (by omega) (by omega), addScene_o (k := (45 + (4 * a)) + 1) (by omega) (by omega), addScene_o (k := (45 + (4 * a)) + 2) (by omega) (by omega), addScene_o (k := (45 + (4 * a)) + 3) (by omega) (by omega)]
    exact h.2.2.2.2.2.1 a ha
  · rw [addScene_o (k := 44) (by omega) (by omega)] at ha
    rw [addScene_o (k := 45 + (4 * a)) (by omega) (by omega), addScene_o (k := (45 + (4 * a)) + 1) (by omega) (by omega), addScene_o (k := (45 + (4 * a)) + 2) (by omega) (by omega), addScene_o (k := (45 + (4 * a)) + 3) (by omega) (by omega), addScene_0, addScene_o (k := 11) (by omega) (by omega)]
    have h6 := h.2.2.2.2.2.2 a ha
    omega
theorem addApp_o {v : Nat → Int} {r c e x : Int} {k : Nat} (h1 : k ≠ 44) (h2 : k < 45 + (4 * na v) ∨ (45 + (4 * na v)) + 4 ≤ k) : addApp v r c e x k = v k := by
  unfold addApp
  rw [uI_n h1, uI_n (by omega), uI_n (by omega), uI_n (by omega), uI_n (by omega)]
theorem addApp_44 (v : Nat → Int) (r c e x : Int) : addApp v r c e x 44 = (((na v + 1) : Nat) : Int) := uI_s _ _ _
theorem addApp_r (v : Nat → Int) (r c e x : Int) : addApp v r c e x (45 + (4 * na v)) = r := by
  unfold addApp
  rw [uI_n (by omega), uI_n (by omega), uI_n (by omega), uI_n (by omega), uI_s]
theorem addApp_c (v : Nat → Int) (r c e x : Int) : addApp v r c e x ((45 + (4 * na v)) + 1) = c := by
  unfold addApp
  rw [uI_n (by omega), uI_n (by omega), uI_n (by omega), uI_s]
theorem addApp_e (v : Nat → Int) (r c e x : Int) : addApp v r c e x ((45 + (4 * na v)) + 2) = e := by
  unfold addApp
  rw [uI_n (by omega), uI_n (by omega), uI_s]
theorem addApp_x (v : Nat → Int) (r c e x : Int) : addApp v r c e x ((45 + (4 * na v)) + 3) = x := by
  unfold addApp
  rw [uI_n (by omega), uI_s]
theorem okR_addApp {v : Nat → Int} (h : okR v) (hn : na v < 20) {r c e x : Int} (hr : 0 ≤ r ∧ r < ((nr v : Nat) : Int)) (hc : 0 ≤ c ∧ c < ((ns v : Nat) : Int)) (he : 0 ≤ e ∧ e < x ∧ x ≤ 99) : okR (addApp v r c e x) := by
  have h11 := h.e11
  have h0 := h.e0
  have h44 := h.e44
  have hr8 := h.nr8
  have hs10 := h.ns10
  refine ⟨by rw [addApp_o (by omega) (by omega)]; exact h.1, by rw [addApp_o (by omega) (by omega)]; exact h.2.1, by rw [addApp_44]; omega, fun j hj => by rw [addApp_o (by omega) (by omega)]; exact h.2.2.2.1 j hj, fun q hq => ?_, fun a ha => ?_, fun a ha => ?_⟩
  · rw [addApp_o (k := 12 + q) (by omega) (by omega), addApp_o (k := 20 + q) (by omega) (by omega), addApp_o (k := 28 + q) (by omega) (by omega), addApp_o (k := 36 + q) (by omega) (by omega)]
    exact h.2.2.2.2.1 q hq
  · by_cases e1 : a = na v
    · subst e1
      rw [addApp_r, addApp_c, addApp_e, addApp_x]
      omega
    · rw [addApp_o (k := 45 + (4 * a)) (by omega) (by omega), addApp_o (k := (45 + (4 * a)) + 1) (by omega) (by omega), addApp_o (k := (45 + (4 * a)) + 2) (by omega) (by omega), addApp_o (k := (45 + (4 * a)) + 3) (by omega) (by omega)]
      exact h.2.2.2.2.2.1 a ha
  · rw [addApp_44] at ha
    rw [addApp_o (k := 11) (by omega) (by omega), addApp_o (k := 0) (by omega) (by omega)]
    by_cases e1 : a = na v
    · subst e1
      rw [addApp_r, addApp_c, addApp_e, addApp_x]
      omega
    · rw [addApp_o (k := 45 + (4 * a)) (by omega) (by omega), addApp_o (k := (45 + (4 * a)) + 1) (by omega) (by omega), addApp_o (k := (45 + (4 * a)) + 2) (by omega) (by omega), addApp_o (k := (45 + (4 * a)) + 3) (by omega) (by omega)]
      exact h.2.2.2.2.2.2 a (by omega)
/-- the kept rows, and how many, behind an edit -/
def kpF (v kp : Nat → Int) (kn : Nat) : Nat → Int := fun j => if kn = 5 then (if 500 ≤ j then v (j - 500) else kp (125 + j)) else (if 125 * kn ≤ j ∧ j < 125 * kn + 125 then v (j - 125 * kn) else kp j)
def kmF (kn : Nat) : Nat := if kn = 5 then 5 else kn + 1
def unF (kp : Nat → Int) (kn : Nat) : Nat → Int := fun j => kp (125 * kn + j)
/-- roles that may not have their actor any more lose it -/
def fxI (M : Nat → Nat) (v : Nat → Int) (r : Nat) : Nat → Nat
  | 0 => 1
  | p + 1 => if fxI M v r p ≠ 0 ∧ (v (36 + r) = -1 ∨ v (36 + p) ≠ v (36 + r) ∨ M r / 2 ^ p % 2 = 0) then 1 else 0
def rp (M : Nat → Nat) (v : Nat → Int) : Nat → Nat → Int
  | 0 => v
  | r + 1 => if fxI M (rp M v r) r r = 0 then uI (rp M v r) (36 + r) (-1) else rp M v r
def lo (M : Nat → Nat) (v : Nat → Int) : Nat → Nat
  | 0 => 0
  | r + 1 => if fxI M (rp M v r) r r = 0 then lo M v r + 1 else lo M v r
theorem rp_o {M : Nat → Nat} {v : Nat → Int} {k : Nat} : ∀ (r : Nat), r ≤ 8 → (k < 36 ∨ 44 ≤ k) → rp M v r k = v k
  | 0, _, _ => rfl
  | r + 1, hr, hk => by
    have ih := rp_o (M := M) (v := v) r (by omega) hk
    simp only [rp]
    split
    · rw [uI_n (by omega)]; exact ih
    · exact ih
theorem lo_le (M : Nat → Nat) (v : Nat → Int) : ∀ r, lo M v r ≤ r
  | 0 => by simp [lo]
  | r + 1 => by
    have ih := lo_le M v r
    simp only [lo]
    split <;> omega
theorem okR_act {v w : Nat → Int} (h : okR v) (h1 : ∀ k, k < 36 ∨ 44 ≤ k → w k = v k) (h2 : ∀ r, r < 8 → -1 ≤ w (36 + r) ∧ w (36 + r) ≤ 7) : okR w := by
  refine ⟨by rw [h1 0 (by omega)]; exact h.1, by rw [h1 11 (by omega)]; exact h.2.1, by rw [h1 44 (by omega)]; exact h.2.2.1, fun j hj => by rw [h1 _ (by omega)]; exact h.2.2.2.1 j hj, fun q hq => ?_, fun a ha => ?_, fun a ha => ?_⟩
  · rw [h1 (12 + q) (by omega), h1 (20 + q) (by omega), h1 (28 + q) (by omega)]
    have h5 := h.2.2.2.2.1 q hq
    exact ⟨h5.1, h5.2.1, h5.2.2.1, h2 q hq⟩
  · rw [h1 (45 + (4 * a)) (by omega), h1 ((45 + (4 * a)) + 1) (by omega), h1 ((45 + (4 * a)) + 2) (by omega), h1 ((45 + (4 * a)) + 3) (by omega)]
    exact h.2.2.2.2.2.1 a ha
  · rw [h1 44 (by omega)] at ha
    rw [h1 (45 + (4 * a)) (by omega), h1 ((45 + (4 * a)) + 1) (by omega), h1 ((45 + (4 * a)) + 2) (by omega), h1 ((45 + (4 * a)) + 3) (by omega), h1 11 (by omega), h1 0 (by omega)]
    exact h.2.2.2.2.2.2 a ha
theorem okR_rp {M : Nat → Nat} {v : Nat → Int} (h : okR v) : ∀ (r : Nat), r ≤ 8 → okR (rp M v r)
  | 0, _ => h
  | r + 1, hr => by
    have ih := okR_rp (M := M) h r (by omega)
    simp only [rp]
    split
    · refine okR_act ih (fun k hk => uI_n (by omega)) (fun q hq => ?_)
      by_cases e : q = r
      · rw [e, uI_s]; omega
      · rw [uI_n (by omega)]; exact (ih.2.2.2.2.1 q hq).2.2.2
    · exact ih
def rpA (v : Nat → Int) : Nat → Int := rp (Mk v 0) v (nr v)
def loA (v : Nat → Int) : Nat := lo (Mk v 0) v (nr v)
def remApp (v : Nat → Int) (a : Nat) : Nat → Int := fun k => if k = 44 then (((na v - 1) : Nat) : Int) else if 45 + (4 * a) ≤ k ∧ k < 45 + (4 * (na v - 1)) then v (k + 4) else v k
def setCh (v : Nat → Int) (r : Nat) (o i : Int) : Nat → Int := uI (uI v (20 + r) o) (28 + r) i
def adS (v : Nat → Int) : Nat → Int := fun k => if 36 ≤ k ∧ k < 36 + nr v then fcG (Mk v 0) (nr v) (k - 36) else v k
abbrev OpT : Type := Int × (Nat → Int) × (Nat → Int) × Nat
def opAdd (v kp : Nat → Int) (kn : Nat) (r c e x : Int) : OpT := if ((0 ≤ r ∧ r < ((nr v : Nat) : Int)) ∧ (0 ≤ c ∧ c < ((ns v : Nat) : Int))) ∧ (0 ≤ e ∧ e < x ∧ x ≤ v (1 + c.toNat)) then (if na v = 20 then (-1003, v, kp, kn) else ((((na v + 1) : Nat) : Int), rpA (addApp v r c e x), kpF v kp kn, kmF kn)) else (-1001, v, kp, kn)
def opRem (v kp : Nat → Int) (kn : Nat) (a : Int) : OpT := if 0 ≤ a ∧ a < ((na v : Nat) : Int) then ((((na v - 1) : Nat) : Int), remApp v a.toNat, kpF v kp kn, kmF kn) else (-1001, v, kp, kn)
def opSet (v kp : Nat → Int) (kn : Nat) (r o i : Int) : OpT := if (0 ≤ r ∧ r < ((nr v : Nat) : Int)) ∧ (0 ≤ o ∧ o ≤ 60) ∧ (0 ≤ i ∧ i ≤ 60) then (((loA (setCh v r.toNat o i) : Nat) : Int), rpA (setCh v r.toNat o i), kpF v kp kn, kmF kn) else (-1001, v, kp, kn)
def opCast (v kp : Nat → Int) (kn : Nat) (r x : Int) : OpT := if (0 ≤ r ∧ r < ((nr v : Nat) : Int)) ∧ (0 ≤ x ∧ x ≤ 7) then (if Mk v 0 r.toNat &&& cb v x (nr v) ≠ 0 then (-1002, v, kp, kn) else (((pop (cb (uI v (36 + r.toNat) x) x (nr v)) : Nat) : Int), uI v (36 + r.toNat) x, kpF v kp kn, kmF kn)) else (-1001, v, kp, kn)
def opUnc (v kp : Nat → Int) (kn : Nat) (r : Int) : OpT := if 0 ≤ r ∧ r < ((nr v : Nat) : Int) then (if v (36 + r.toNat) = -1 then (-1002, v, kp, kn) else (v (36 + r.toNat), uI v (36 + r.toNat) (-1), kpF v kp kn, kmF kn)) else (-1001, v, kp, kn)
def opAdo (v kp : Nat → Int) (kn : Nat) : OpT := (((lc (Mk v 0) (nr v) : Nat) : Int), adS v, kpF v kp kn, kmF kn)
def opUnd (v kp : Nat → Int) (kn : Nat) : OpT := if kn = 0 then (-1002, v, kp, kn) else ((((kn - 1) : Nat) : Int), unF kp (kn - 1), kp, kn - 1)
