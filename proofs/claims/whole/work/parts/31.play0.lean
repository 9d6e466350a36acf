/-! ===== the class: a play's cells ===== -/
abbrev poW (q : Nat) (Qp : Nat → Nat) (sc ro ap : Int) : va_W := [(q, .inr (2, [.int (iI sc), .int (iI ro), .int (iI ap), .ref (Qp 0), .ref (Qp 1), .ref (Qp 2), .ref (Qp 3), .ref (Qp 4), .ref (Qp 5), .ref (Qp 6), .ref (Qp 7), .ref (Qp 8)]))]
theorem Hold.cong32 {X : XT} {A : Nat → Prop} {w w2 : va_W} {H : Heap} (hH : Hold X A w H) (q0 : Nat) {a n : Nat} {f : Nat → Int32} {g2 : Nat → Int} (he : w[q0]? = some (a, .inl (X.2.1 0, n, .inl f))) (h : ∀ k, k < n → f k = iI (g2 k)) (hw : w.set q0 (ia X a n g2) = w2) : Hold X A w2 H := by
  subst hw
  refine ⟨hH.1.set hH.2 he ?_ (fun q _ => rfl), hH.2.set he⟩
  have h1 := hH.1 q0 _ he
  show H[a]? = some (vp_cell _ _)
  have h2 : H[a]? = some (vp_cell (X.2.1 0) (n, .inl f)) := h1
  rw [h2, vp_cell_i, vp_cell_i]
  congr 1
  apply arrV_congr
  intro k hk
  show Value.int (f k) = Value.int (iI (g2 k))
  rw [h k hk]
section ZC
variable {p : Program} {l : Launch} {e : Env} {R : Room} {s : State} {m : MethodId} {args : Array Value} {below : List Frame} {meth : Method} {c : Code} {H : Heap} {locs : List Loc} {cells slots : Nat} {Q : State → Prop}
variable {cc : ByteArray} {pc nL : Nat} {ls : Array Slot} {rest : List Value} {X : XT} {A : Nat → Prop} {Ts : List Cond} {own : String}
theorem zv_copy {index : Nat} {w w2 : va_W} {a0 a n : Nat} {g0 g1 : Nat → Int} (S : CallFix p m c cc nL s args Ts own) (hAM : AM X A s) (hH : Hold X A w H) (hS : va_S A s.heap H locs) (hls : ls.size = nL) (w1 : Cond.methodLink own index arraycopyName ∈ Ts) (wn : Cond.native arraycopyName ∈ Ts) (ws : Cond.static arraycopyName ∈ Ts) (wi : Cond.initialized "java/lang/System" ∈ Ts)
    (q0 q1 : Nat) (he0 : w[q0]? = some (ia X a0 n g0)) (he1 : w[q1]? = some (ia X a n g1)) (hn : n < 2147483648) (hw : w.set q1 (ia X a n g0) = w2) (hf : 1 ≤ R.frames) (hl : (rest.map fun v => v.category).sum + (nativeFrameWords "java/lang/System" "arraycopy" 5 + 11) ≤ R.locals) (hdg : decode cc pc = .ok (.invokestatic index, 3))
    (kk : ∀ (H1 : Heap) (locs1 : List Loc), Hold X A w2 H1 → va_S A s.heap H1 locs1 → W p l e R s m args below meth c H1 locs1 cells slots Q (F0 m (pc + 3) ls rest)) : W p l e R s m args below meth c H locs cells slots Q (F0 m pc ls (.int (iI (n : Int)) :: .int (iI ((0 : Nat) : Int)) :: .ref a :: .int (iI ((0 : Nat) : Int)) :: .ref a0 :: rest)) := by
  have c0 : (iI ((0 : Nat) : Int)).toNatClampNeg = 0 := by decide
  have cn : (iI (n : Int)).toNatClampNeg = n := iI_clamp hn
  have p0 : ¬ iI ((0 : Nat) : Int) < 0 := by decide
  have pn : ¬ iI (n : Int) < 0 := by
    rw [iI_0, iI_lt (by omega) (by omega)]
    omega
  refine va_copyi (ty := .int) S.1 S.2.1 (S.2.2.1.trans hls.symm) S.2.2.2.1 (S.2.2.2.2 _ w1) (S.2.2.2.2 _ wn) (S.2.2.2.2 _ ws) (S.2.2.2.2 _ wi) hAM.1 hH.1 hH.2 hS q0 q1 0 0 he0 he1 rfl rfl rfl p0 p0 pn (by rw [c0, cn]; omega) (by rw [c0, cn]; omega) (fun i _ => rfl) hf hl hdg (fun H1 locs1 h1 h2 h3 => ?_)
  rw [c0, cn] at h1 h2
  refine kk H1 locs1 ?_ h3
  have hlt : q1 < w.length := (List.getElem?_eq_some_iff.mp he1).1
  refine Hold.cong32 (w := w.set q1 (a, .inl (X.2.1 0, n, .inl (va_cpy (zA g0) (zA g1) 0 0 n)))) ⟨h1, h2⟩ q1 (a := a) (n := n) (f := va_cpy (zA g0) (zA g1) 0 0 n) (g2 := g0) (by rw [List.getElem?_set_self hlt]) (fun k hk => ?_) ?_
  · rw [pk_cpy_in (Nat.zero_le k) (by omega), Nat.zero_add, Nat.sub_zero]
    rfl
  · rw [List.set_set]
    exact hw
end ZC
/-- a play's arrays hold the row -/
def PA (v sl vo ou inn ac ag ai et xt : Nat → Int) : Prop := (∀ i, i < ns v → sl i = v (1 + i)) ∧ (∀ r, r < nr v → vo r = v (12 + r) ∧ ou r = v (20 + r) ∧ inn r = v (28 + r) ∧ ac r = v (36 + r)) ∧ (∀ a, a < na v → ag a = v (45 + (4 * a)) ∧ ai a = v ((45 + (4 * a)) + 1) ∧ et a = eT v a ∧ xt a = xT v a)
theorem st_cong {v w : Nat → Int} : ∀ (k : Nat), (∀ i, i < k → v (1 + i) = w (1 + i)) → st v k = st w k
  | 0, _ => rfl
  | k + 1, h => by
    rw [st, st, st_cong k (fun i hi => h i (by omega)), h k (by omega)]
/-- rows that agree in scenes and appearances have the same times -/
theorem times_cong {v w : Nat → Int} {a : Nat} (h1 : w ((45 + (4 * a)) + 1) = v ((45 + (4 * a)) + 1)) (h2 : w ((45 + (4 * a)) + 2) = v ((45 + (4 * a)) + 2)) (h3 : w ((45 + (4 * a)) + 3) = v ((45 + (4 * a)) + 3)) (hs : ∀ i, i < sn v a → w (1 + i) = v (1 + i)) : eT w a = eT v a ∧ xT w a = xT v a := by
  have e : sn w a = sn v a := by unfold sn; rw [h1]
  unfold eT xT
  rw [e, st_cong _ hs, h2, h3]
  exact ⟨rfl, rfl⟩
theorem okR.sna {v : Nat → Int} (h : okR v) {a : Nat} (ha : a < na v) : sn v a < ns v := by
  have h1 := h.na20
  have h2 := (h.2.2.2.2.2.2 a (by rw [h.e44]; omega)).2.1
  have h3 := h.e0
  have h4 := h.snE a (by omega)
  omega
theorem okR.ext {v : Nat → Int} (h : okR v) {a : Nat} (ha : a < na v) : eT v a < xT v a := by
  have h1 := h.na20
  have h2 := (h.2.2.2.2.2.2 a (by rw [h.e44]; omega)).2.2
  unfold eT xT
  omega
theorem ns_addScene (v : Nat → Int) (x : Int) : ns (addScene v x) = ns v + 1 := by show (addScene v x 0).toNat = ns v + 1; rw [addScene_0]; exact Int.toNat_natCast _
theorem nr_addScene (v : Nat → Int) (x : Int) (h : ns v < 10) : nr (addScene v x) = nr v := nr_eq (addScene_o (by omega) (by omega))
theorem na_addScene (v : Nat → Int) (x : Int) (h : ns v < 10) : na (addScene v x) = na v := na_eq (addScene_o (by omega) (by omega))
theorem ns_addRole (v : Nat → Int) (x o i : Int) (h : nr v < 8) : ns (addRole v x o i) = ns v := ns_eq (addRole_o (by omega) (by omega) (by omega) (by omega))
theorem nr_addRole (v : Nat → Int) (x o i : Int) : nr (addRole v x o i) = nr v + 1 := by show (addRole v x o i 11).toNat = nr v + 1; rw [addRole_11]; exact Int.toNat_natCast _
theorem na_addRole (v : Nat → Int) (x o i : Int) (h : nr v < 8) : na (addRole v x o i) = na v := na_eq (addRole_o (by omega) (by omega) (by omega) (by omega))
theorem ns_addApp (v : Nat → Int) (r c e x : Int) : ns (addApp v r c e x) = ns v := ns_eq (addApp_o (by omega) (by omega))
theorem nr_addApp (v : Nat → Int) (r c e x : Int) : nr (addApp v r c e x) = nr v := nr_eq (addApp_o (by omega) (by omega))
theorem na_addApp (v : Nat → Int) (r c e x : Int) : na (addApp v r c e x) = na v + 1 := by show (addApp v r c e x 44).toNat = na v + 1; rw [addApp_44]; exact Int.toNat_natCast _
theorem PA_scene {v sl vo ou inn ac ag ai et xt : Nat → Int} {x : Int} (hv : okR v) (h : PA v sl vo ou inn ac ag ai et xt) (hn : ns v < 10) : PA (addScene v x) (uI sl (ns v) x) vo ou inn ac ag ai et xt := by
  have k1 := hv.nr8
  have k2 := hv.na20
  refine ⟨fun i hi => ?_, fun r hr => ?_, fun a ha => ?_⟩
  · rw [ns_addScene] at hi
    by_cases e : i = ns v
    · rw [e, uI_s, addScene_n]
    · rw [uI_n e, addScene_o (by omega) (by omega)]
      exact h.1 i (by omega)
  · rw [nr_addScene v x hn] at hr
    rw [addScene_o (k := 12 + r) (by omega) (by omega), addScene_o (k := 20 + r) (by omega) (by omega), addScene_o (k := 28 + r) (by omega) (by omega), addScene_o (k := 36 + r) (by omega) (by omega)]
    exact h.2.1 r hr
  · rw [na_addScene v x hn] at ha
    have ht := times_cong (v := v) (w := addScene v x) (a := a) (addScene_o (by omega) (by omega)) (addScene_o (by omega) (by omega)) (addScene_o (by omega) (by omega)) (fun i hi => addScene_o (by omega) (by have := hv.sna ha; omega))
    rw [addScene_o (k := 45 + (4 * a)) (by omega) (by omega), addScene_o (k := (45 + (4 * a)) + 1) (by omega) (by omega), ht.1, ht.2]
    exact h.2.2 a ha
theorem PA_role {v sl vo ou inn ac ag ai et xt : Nat → Int} {x o i : Int} (hv : okR v) (h : PA v sl vo ou inn ac ag ai et xt) (hn : nr v < 8) (hact : v (36 + nr v) = -1) : PA (addRole v x o i) sl (uI vo (nr v) x) (uI ou (nr v) o) (uI inn (nr v) i) (uI ac (nr v) (-1)) ag ai et xt := by
  have k2 := hv.na20
  have k3 := hv.ns10
  refine ⟨fun j hj => ?_, fun r hr => ?_, fun a ha => ?_⟩
  · rw [ns_addRole v x o i hn] at hj
    rw [addRole_o (by omega) (by omega) (by omega) (by omega)]
    exact h.1 j hj
  · rw [nr_addRole] at hr
    by_cases e : r = nr v
    · subst e
      rw [uI_s, uI_s, uI_s, uI_s, addRole_v hn, addRole_out hn, addRole_in hn, addRole_o (k := 36 + nr v) (by omega) (by omega) (by omega) (by omega), hact]
      exact ⟨rfl, rfl, rfl, rfl⟩
    · rw [uI_n e, uI_n e, uI_n e, uI_n e, addRole_o (k := 12 + r) (by omega) (by omega) (by omega) (by omega), addRole_o (k := 20 + r) (by omega) (by omega) (by omega) (by omega), addRole_o (k := 28 + r) (by omega) (by omega) (by omega) (by omega), addRole_o (k := 36 + r) (by omega) (by omega) (by omega) (by omega)]
      exact h.2.1 r (by omega)
  · rw [na_addRole v x o i hn] at ha
    have ht := times_cong (v := v) (w := addRole v x o i) (a := a) (addRole_o (by omega) (by omega) (by omega) (by omega)) (addRole_o (by omega) (by omega) (by omega) (by omega)) (addRole_o (by omega) (by omega) (by omega) (by omega)) (fun i hi => addRole_o (by have := hv.sna ha; omega) (by have := hv.sna ha; omega) (by have := hv.sna ha; omega) (by have := hv.sna ha; omega))
    rw [addRole_o (k := 45 + (4 * a)) (by omega) (by omega) (by omega) (by omega), addRole_o (k := (45 + (4 * a)) + 1) (by omega) (by omega) (by omega) (by omega), ht.1, ht.2]
    exact h.2.2 a ha
theorem PA_app {v sl vo ou inn ac ag ai et xt : Nat → Int} {r e x : Int} {c : Nat} (hv : okR v) (h : PA v sl vo ou inn ac ag ai et xt) (hn : na v < 20) (hc : c < ns v) : PA (addApp v r ((c : Nat) : Int) e x) sl vo ou inn ac (uI ag (na v) r) (uI ai (na v) ((c : Nat) : Int)) (uI et (na v) (st v c + e)) (uI xt (na v) (st v c + x)) := by
  have k1 := hv.nr8
  have k3 := hv.ns10
  refine ⟨fun j hj => ?_, fun q hq => ?_, fun a ha => ?_⟩
  · rw [ns_addApp] at hj
    rw [addApp_o (by omega) (by omega)]
    exact h.1 j hj
  · rw [nr_addApp] at hq
    rw [addApp_o (k := 12 + q) (by omega) (by omega), addApp_o (k := 20 + q) (by omega) (by omega), addApp_o (k := 28 + q) (by omega) (by omega), addApp_o (k := 36 + q) (by omega) (by omega)]
    exact h.2.1 q hq
  · rw [na_addApp] at ha
    by_cases e1 : a = na v
    · subst e1
      have es : sn (addApp v r ((c : Nat) : Int) e x) (na v) = c := by unfold sn; rw [addApp_c]; omega
      have ec : st (addApp v r ((c : Nat) : Int) e x) c = st v c := st_cong c (fun i hi => addApp_o (by omega) (by omega))
      unfold eT xT
      rw [uI_s, uI_s, uI_s, uI_s, es, ec, addApp_r, addApp_c, addApp_e, addApp_x]
      exact ⟨rfl, rfl, rfl, rfl⟩
    · have ht := times_cong (v := v) (w := addApp v r ((c : Nat) : Int) e x) (a := a) (addApp_o (by omega) (by omega)) (addApp_o (by omega) (by omega)) (addApp_o (by omega) (by omega)) (fun i hi => addApp_o (by have := hv.sna (a := a) (by omega); omega) (by have := hv.sna (a := a) (by omega); omega))
      rw [uI_n e1, uI_n e1, uI_n e1, uI_n e1, addApp_o (k := 45 + (4 * a)) (by omega) (by omega), addApp_o (k := (45 + (4 * a)) + 1) (by omega) (by omega), ht.1, ht.2]
      exact h.2.2 a (by omega)
def scR (v : Nat → Int) (x : Int) : Nat × (Nat → Int) := if 1 ≤ x ∧ x ≤ 99 then (if ns v < 10 then (0, addScene v x) else (4, v)) else (3, v)
def roR (v : Nat → Int) (k o i : Int) : Nat × (Nat → Int) := if o ≤ 60 ∧ i ≤ 60 then (if nr v < 8 then (0, addRole v k o i) else (4, v)) else (3, v)
def apR (v : Nat → Int) (r c e x : Int) : Nat × (Nat → Int) := if r < ((nr v : Nat) : Int) ∧ c < ((ns v : Nat) : Int) ∧ e < x ∧ x ≤ v (1 + c.toNat) then (if na v < 20 then (0, addApp v r c e x) else (4, v)) else (3, v)
