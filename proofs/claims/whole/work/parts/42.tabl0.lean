/-! ===== the table's cells ===== -/
abbrev slW (q qp qT : Nat) : va_W := [(q, .inr (4, [.ref qp, .ref qT]))]
abbrev tbW (X : XT) (qT : Nat) (Qs : Nat → Nat) (T : Nat → Nat → Int) : va_W := [rra X qT 8 (fun r => some (Qs r)), ia X (Qs 0) 8 (T 0), ia X (Qs 1) 8 (T 1), ia X (Qs 2) 8 (T 2), ia X (Qs 3) 8 (T 3), ia X (Qs 4) 8 (T 4), ia X (Qs 5) 8 (T 5), ia X (Qs 6) 8 (T 6), ia X (Qs 7) 8 (T 7)]
theorem lt8 {r : Nat} (h : r < 8) : r = 0 ∨ r = 1 ∨ r = 2 ∨ r = 3 ∨ r = 4 ∨ r = 5 ∨ r = 6 ∨ r = 7 := by omega
theorem tb_get {X : XT} {qT : Nat} {Qs : Nat → Nat} {T : Nat → Nat → Int} {rest : va_W} {r : Nat} (h : r < 8) : (tbW X qT Qs T ++ rest)[1 + r]? = some (ia X (Qs r) 8 (T r)) := by
  rcases lt8 h with rfl | rfl | rfl | rfl | rfl | rfl | rfl | rfl <;> rfl
theorem tb_set {X : XT} {qT : Nat} {Qs : Nat → Nat} {T : Nat → Nat → Int} {rest : va_W} {r : Nat} {g : Nat → Int} (h : r < 8) : (tbW X qT Qs T ++ rest).set (1 + r) (ia X (Qs r) 8 g) = tbW X qT Qs (uT T r g) ++ rest := by
  rcases lt8 h with rfl | rfl | rfl | rfl | rfl | rfl | rfl | rfl <;> rfl
section ZT
variable {p : Program} {l : Launch} {e : Env} {R : Room} {s : State} {m : MethodId} {args : Array Value} {below : List Frame} {meth : Method} {c : Code} {H : Heap} {locs : List Loc} {cells slots : Nat} {Q : State → Prop}
variable {cc : ByteArray} {pc nL : Nat} {ls : Array Slot} {rest : List Value} {X : XT} {A : Nat → Prop} {Ts : List Cond} {own : String}
theorem zv_aald3 {w : va_W} {a n q : Nat} {f : Nat → Option Nat} {i : Int} (S : CallFix p m c cc nL s args Ts own) (hAM : AM X A s) (hH : Hold X A w H) (q0 : Nat) (he : w[q0]? = some (rra X a n f)) (k : Nat) (hk : i = (k : Int)) (hlt : k < n) (hn : n < 2147483648) (hf : f k = some q) (hdg : decode cc pc = .ok (.aaload, 1))
    (kk : W p l e R s m args below meth c H locs cells slots Q (F0 m (pc + 1) ls (.ref q :: rest))) : W p l e R s m args below meth c H locs cells slots Q (F0 m pc ls (.int (iI i) :: .ref a :: rest)) := by
  subst hk
  have hin : vp_in (iI (k : Int)) n := iI_in hlt hn
  have hlt2 : (iI (k : Int)).toNatClampNeg < n := by rw [iI_clamp (by omega)]; exact hlt
  refine W.aald (v := va_rf (f (iI (k : Int)).toNatClampNeg)) (ty := .array .int) S.1 S.2.1 (hH.1 q0 _ he) ((hAM.1.2 3 _ rfl).1 n (fun j => va_rf (f j))) rfl (fun q => by cases q) (by show ¬ (_ ∨ (arrV _ _ _).slots.size ≤ _); rw [arrV_size]; exact hin) (by show (arrV _ _ _).slots[_]? = _; rw [arrV_read _ _ hlt2]) rfl rfl hdg ?_
  rw [iI_clamp (by omega), hf]
  exact kk
theorem zv_aald2 {w : va_W} {a n q : Nat} {f : Nat → Option Nat} {i : Int} (S : CallFix p m c cc nL s args Ts own) (hAM : AM X A s) (hH : Hold X A w H) (q0 : Nat) (he : w[q0]? = some (ppa X a n f)) (k : Nat) (hk : i = (k : Int)) (hlt : k < n) (hn : n < 2147483648) (hf : f k = some q) (hdg : decode cc pc = .ok (.aaload, 1))
    (kk : W p l e R s m args below meth c H locs cells slots Q (F0 m (pc + 1) ls (.ref q :: rest))) : W p l e R s m args below meth c H locs cells slots Q (F0 m pc ls (.int (iI i) :: .ref a :: rest)) := by
  subst hk
  refine va_aldq S.1 S.2.1 hAM.1 hH.1 q0 2 he rfl (iI_in hlt hn) hdg ?_
  rw [iI_clamp (by omega), hf]
  exact kk
theorem zv_aast2 {w w2 : va_W} {a n q qk : Nat} {vs : List Value} {f : Nat → Option Nat} {i : Int} (S : CallFix p m c cc nL s args Ts own) (hAM : AM X A s) (hH : Hold X A w H) (hS : va_S A s.heap H locs) (q0 : Nat) (he : w[q0]? = some (ppa X a n f)) (hv : w[qk]? = some (q, .inr (2, vs))) (k : Nat) (hk : i = (k : Int)) (hlt : k < n) (hn : n < 2147483648) (hw : w.set q0 (ppa X a n (va_up f k (some q))) = w2) (hdg : decode cc pc = .ok (.aastore, 1))
    (kk : ∀ (H1 : Heap) (locs1 : List Loc), Hold X A w2 H1 → va_S A s.heap H1 locs1 → W p l e R s m args below meth c H1 locs1 cells slots Q (F0 m (pc + 1) ls rest)) : W p l e R s m args below meth c H locs cells slots Q (F0 m pc ls (.ref q :: .int (iI i) :: .ref a :: rest)) := by
  subst hk; subst hw
  refine va_astq S.1 S.2.1 hAM.1 hH.1 hH.2 hS q0 2 qk 2 he rfl hv rfl (iI_in hlt hn) hdg (fun H1 locs1 h1 h2 h3 => ?_)
  rw [iI_clamp (by omega)] at h1 h2
  exact kk H1 locs1 ⟨h1, h2⟩ h3
end ZT
theorem uT_n {T : Nat → Nat → Int} {r o : Nat} {g : Nat → Int} (h : o ≠ r) : uT T r g o = T o := if_neg h
theorem uT_s {T : Nat → Nat → Int} {r : Nat} {g : Nat → Int} : uT T r g r = g := if_pos rfl
def DD (v : Nat → Int) (A B a b : Nat) : Prop := b < a ∧ a < na v ∧ (a < A ∨ (a = A ∧ b < B))
theorem okX_b {v : Nat → Int} {x : Int} {S : Nat → Nat → Prop} (h : okX v x S) : -2000 ≤ x ∧ x ≤ 2000 := by
  rcases h with ⟨e, _⟩ | ⟨e, _⟩ | ⟨e1, e2, _⟩ <;> omega
theorem okTb_same {v : Nat → Int} {D D' : Nat → Nat → Prop} {T : Nat → Nat → Int} (h : okTb v D T) (hD : ∀ a b, D' a b ↔ D a b) : okTb v D' T := by
  have : D' = D := by funext a b; exact propext (hD a b)
  rw [this]; exact h
theorem okTb_0 {v : Nat → Int} {T : Nat → Nat → Int} (h : ∀ r o, r < 8 → o < 8 → T r o = -1004) : okTb v (DD v 1 0) T := by
  intro r o hr ho _
  rw [h r o hr ho, h o r ho hr]
  refine ⟨rfl, Or.inr (Or.inl ⟨rfl, fun a b z => ?_⟩)⟩
  have := z.1
  unfold DD at this
  omega
theorem okTb_in {v : Nat → Int} (h : okR v) {T : Nat → Nat → Int} {a b : Nat} (hT : okTb v (DD v a b) T) (ha : a < na v) (hb : b < a) : okTb v (DD v a (b + 1)) (cpT v a b T) := okTb_step h ha (by omega) hT (fun a' b' => by unfold DD; omega)
theorem okTb_out {v : Nat → Int} {T : Nat → Nat → Int} {a b : Nat} (hT : okTb v (DD v a b) T) (hb : a ≤ b) : okTb v (DD v (a + 1) 0) T := okTb_same hT (fun a' b' => by unfold DD; omega)
theorem okTb_end {v : Nat → Int} (h : okR v) {T : Nat → Nat → Int} {a : Nat} (hT : okTb v (DD v a 0) T) (ha : na v ≤ a) : TbOK T v := TbOK_fin h hT (fun a' b' => by unfold DD; omega)
def clr (r o : Nat) (T : Nat → Nat → Int) : Prop := ∀ i j, j < 8 → (i < r ∨ (i = r ∧ j < o)) → T i j = -1004
theorem clr_in {r o : Nat} {T : Nat → Nat → Int} (h : clr r o T) : clr r (o + 1) (uT T r (uI (T r) o (-1004))) := by
  intro i j hj hi
  unfold uT uI
  by_cases e : i = r
  · subst e
    rw [if_pos rfl]
    by_cases e2 : j = o
    · rw [if_pos e2]
    · rw [if_neg e2]; exact h i j hj (by omega)
  · rw [if_neg e]; exact h i j hj (by omega)
theorem clr_out {r o : Nat} {T : Nat → Nat → Int} (h : clr r o T) (ho : 8 ≤ o) : clr (r + 1) 0 T := fun i j hj hi => h i j hj (by omega)
