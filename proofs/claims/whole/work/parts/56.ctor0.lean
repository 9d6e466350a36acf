/-! ===== what constructors make ===== -/
def z0 : Nat → Int := fun _ => 0
def mkQ (L : List Nat) : Nat → Nat := fun i => L.getD i 0
abbrev rmC (d c s : Nat) : Room := { frames := d, cells := c, slots := s, locals := 64 * d }
abbrev obW (q ci : Nat) (fs : List Value) : va_W := [(q, .inr (ci, fs))]
section ZC
variable {p : Program} {l : Launch} {e : Env} {R : Room} {s : State} {m : MethodId} {args : Array Value} {below : List Frame} {meth : Method} {c : Code} {H : Heap} {locs : List Loc} {cells slots : Nat} {Q : State → Prop}
variable {cc : ByteArray} {pc nL : Nat} {ls : Array Slot} {rest : List Value} {X : XT} {A : Nat → Prop} {Ts : List Cond} {own : String}
theorem zv_newi {w : va_W} {N : Nat} (S : CallFix p m c cc nL s args Ts own) (hAM : AM X A s) (hH : Hold X A w H) (hS : va_S A s.heap H locs) (hA : ∀ q, s.heap.size ≤ q → A q) (hm : Cond.arrayClass .int ∈ Ts) (hN : N < 1000000) (hcells : cells + 1 ≤ R.cells) (hslots : slots + N ≤ R.slots) (hdg : decode cc pc = .ok (.newarray .int, 2))
    (kk : ∀ (q : Nat) (H1 : Heap), Hold X A (w ++ [ia X q N z0]) H1 → va_S A s.heap H1 locs → W p l e R s m args below meth c H1 locs (cells + 1) (slots + N) Q (F0 m (pc + 2) ls (.ref q :: rest))) : W p l e R s m args below meth c H locs cells slots Q (F0 m pc ls (.int (iI ((N : Nat) : Int)) :: rest)) := by
  refine va_newa S.1 S.2.1 (atype := .int) (ty := .int) (S.2.2.2.2 _ hm) rfl hAM.1 hH.1 hH.2 hS hA (N' := N) (a0 := (N, .inl (zA z0))) (fun cA => ?_) ?_ (iI_clamp (by omega)) ?_ hcells hslots hdg (fun q cA H1 hK hP hD hS1 => ?_)
  · rw [vp_cell_i]
    exact congrArg (arrV cA N) (by funext j; exact congrArg Value.int iI_0.symm)
  · rw [iI_0, iI_lt (by omega) (by omega)]
    omega
  · show N * 4 ≤ _
    omega
  · have h1 := (hK.2 4 (cA, .int) rfl).2
    have h2 := (hAM.1.2 0 (X.2.1 0, .int) rfl).2
    have e1 : cA = X.2.1 0 := Option.some.inj (h1.symm.trans h2)
    subst e1
    exact kk q H1 ⟨hP, hD⟩ hS1
theorem zv_newc {w : va_W} {N : Nat} (S : CallFix p m c cc nL s args Ts own) (hAM : AM X A s) (hH : Hold X A w H) (hS : va_S A s.heap H locs) (hA : ∀ q, s.heap.size ≤ q → A q) (hm : Cond.arrayClass .char ∈ Ts) (hN : N < 1000000) (hcells : cells + 1 ≤ R.cells) (hslots : slots + N ≤ R.slots) (hdg : decode cc pc = .ok (.newarray .char, 2))
    (kk : ∀ (q : Nat) (H1 : Heap), Hold X A (w ++ [ca X q N z0]) H1 → va_S A s.heap H1 locs → W p l e R s m args below meth c H1 locs (cells + 1) (slots + N) Q (F0 m (pc + 2) ls (.ref q :: rest))) : W p l e R s m args below meth c H locs cells slots Q (F0 m pc ls (.int (iI ((N : Nat) : Int)) :: rest)) := by
  refine va_newa S.1 S.2.1 (atype := .char) (ty := .char) (S.2.2.2.2 _ hm) rfl hAM.1 hH.1 hH.2 hS hA (N' := N) (a0 := (N, .inl (zA z0))) (fun cA => ?_) ?_ (iI_clamp (by omega)) ?_ hcells hslots hdg (fun q cA H1 hK hP hD hS1 => ?_)
  · rw [vp_cell_i]
    exact congrArg (arrV cA N) (by funext j; exact congrArg Value.int iI_0.symm)
  · rw [iI_0, iI_lt (by omega) (by omega)]
    omega
  · show N * 2 ≤ _
    omega
  · have h1 := (hK.2 4 (cA, .char) rfl).2
    have h2 := (hAM.1.2 1 (X.2.1 1, .char) rfl).2
    have e1 : cA = X.2.1 1 := Option.some.inj (h1.symm.trans h2)
    subst e1
    exact kk q H1 ⟨hP, hD⟩ hS1
theorem zv_newp {w : va_W} {N index : Nat} (S : CallFix p m c cc nL s args Ts own) (hAM : AM X A s) (hH : Hold X A w H) (hS : va_S A s.heap H locs) (hA : ∀ q, s.heap.size ≤ q → A q) (hm : Cond.classLink own index "RoleDoublingPlanner$Play" ∈ Ts) (hN : N < 1000000) (hcells : cells + 1 ≤ R.cells) (hslots : slots + N ≤ R.slots) (hdg : decode cc pc = .ok (.anewarray index, 3))
    (kk : ∀ (q : Nat) (H1 : Heap), Hold X A (w ++ [ppa X q N (fun _ => none)]) H1 → va_S A s.heap H1 locs → W p l e R s m args below meth c H1 locs (cells + 1) (slots + N) Q (F0 m (pc + 3) ls (.ref q :: rest))) : W p l e R s m args below meth c H locs cells slots Q (F0 m pc ls (.int (iI ((N : Nat) : Int)) :: rest)) := by
  refine va_newq S.1 S.2.1 S.2.2.2.1 (S.2.2.2.2 _ hm) hAM.2.1.2.2.2.2.2.2.1 hAM.1 hH.1 hH.2 hS hA (N' := N) ?_ (iI_clamp (by omega)) (by omega) hcells hslots hdg (fun q cA H1 hK hP hD hS1 => ?_)
  · rw [iI_0, iI_lt (by omega) (by omega)]
    omega
  · obtain ⟨k1, c1, -, -, -, h1⟩ := (hK.2 4 (cA, .object "RoleDoublingPlanner$Play") rfl).2
    obtain ⟨k2, c2, -, -, -, h2⟩ := (hAM.1.2 2 (X.2.1 2, .object "RoleDoublingPlanner$Play") rfl).2
    have e1 : cA = X.2.1 2 := Option.some.inj (h1.symm.trans h2)
    subst e1
    exact kk q H1 ⟨hP, hD⟩ hS1
theorem zv_new {C : String} {T : u_T} {N ci index : Nat} {fs : List Value} {w : va_W} (S : CallFix p m c cc nL s args Ts own) (hAM : AM X A s) (hH : Hold X A w H) (hS : va_S A s.heap H locs) (hA : ∀ q, s.heap.size ≤ q → A q) (hin : ∀ w ∈ u_ws C T N, w ∈ Ts) (ty : Nat → FieldType) (hty : ∀ k, k < N → parseFieldDescriptor (T k).2.2.1 = some (ty k)) (hcl : Cond.classLink own index C ∈ Ts) (hinst : Cond.instantiable C N ∈ Ts) (hini : Cond.initialized C ∈ Ts) (hc : vwCl[ci]? = some (C, T, N)) (hfs : ∀ j, j < N → defaultValue (ty j) = vp_V fs j) (hcells : cells + 1 ≤ R.cells) (hslots : slots + N ≤ R.slots) (hdg : decode cc pc = .ok (.new index, 3))
    (kk : ∀ (q : Nat) (H1 : Heap), Hold X A (w ++ [(q, .inr (ci, fs))]) H1 → va_S A s.heap H1 locs → W p l e R s m args below meth c H1 locs (cells + 1) (slots + N) Q (F0 m (pc + 3) ls (.ref q :: rest))) : W p l e R s m args below meth c H locs cells slots Q (F0 m pc ls rest) :=
  va_new S.1 S.2.1 S.2.2.2.2 hin ty hty S.2.2.2.1 (S.2.2.2.2 _ hcl) (S.2.2.2.2 _ hinst) (S.2.2.2.2 _ hini) hAM.1 hH.1 hH.2 hS hA hc hfs hcells hslots hdg (fun q H1 hP hD hS1 => kk q H1 ⟨hP, hD⟩ hS1)
theorem zv_putF {ref C : String} {T : u_T} {N ci index : Nat} {w w2 : va_W} {a : Nat} (S : CallFix p m c cc nL s args Ts own) (hAM : AM X A s) (hH : Hold X A w H) (hS : va_S A s.heap H locs) (hin : ∀ w ∈ u_ws C T N, w ∈ Ts) (ty0 : Nat → FieldType) (hty : ∀ k, k < N → parseFieldDescriptor (T k).2.2.1 = some (ty0 k)) (hnm : ∀ a, a < N → ∀ b, b < N → a ≠ b → (T a).2.1 ≠ (T b).2.1) (q0 : Nat) {fs : List Value} (he : w[q0]? = some (a, .inr (ci, fs))) (hc : vwCl[ci]? = some (C, T, N)) (k : Nat) (hk : k < N) (hlink : Cond.fieldLink own index ref (T k).2.1 (T k).2.2.1 ∈ Ts) (hsame : (T k).1 = ref) (hfin : (T k).2.2.2 = true) (hin2 : meth.name = "<init>") (hdecl : (T k).1 = own) {v : Value} (hn : narrow (ty0 k) v = v) (hfit : fits (ty0 k) v = true) (hl : k < fs.length) (hw : w.set q0 (a, .inr (ci, fs.set k v)) = w2) (hdg : decode cc pc = .ok (.putfield index, 3))
    (kk : ∀ (H1 : Heap) (locs1 : List Loc), Hold X A w2 H1 → va_S A s.heap H1 locs1 → W p l e R s m args below meth c H1 locs1 cells slots Q (F0 m (pc + 3) ls rest)) : W p l e R s m args below meth c H locs cells slots Q (F0 m pc ls (v :: .ref a :: rest)) := by
  subst hsame; subst hw
  exact va_putF S.1 S.2.1 S.2.2.2.2 hin ty0 hty hnm S.2.2.2.1 hAM.1 hH.1 hH.2 hS q0 he hc k hk (S.2.2.2.2 _ hlink) (fun _ h => h) hfin hin2 hdecl (hty k hk) hn hfit hl hdg (fun H1 locs1 h1 h2 h3 => kk H1 locs1 ⟨h1, h2⟩ h3)
theorem zc_Iv {S' : Type} {y : MethodName} {ws ws' : List Cond} {bytes : ByteArray} {maxL index n : Nat} {rm : Room} {As st0 : List Value} {ss w sr : List va_W} {w' : S' → List va_W} {post : S' → Prop} {b : Nat} (S : CallFix p m c cc nL s args Ts own) (hAM : AM X A s) (hA : ∀ q, s.heap.size ≤ q → A q) (hC : Cv (S := S') l y ws rm X (.ref b :: As) w post w') (hw : ws = Cond.code y bytes maxL none :: ws') (hG : GoodIn Ts ws) (hini : Cond.initialized y.cls ∈ Ts) (hlk : Cond.methodLink own index y ∈ Ts) (hst : Cond.instanceMethod y ∈ Ts) (hyn : y.name = "<init>") (hd : y.cls ≠ "java/lang/invoke/MethodHandle" ∧ y.cls ≠ "java/lang/invoke/VarHandle" ∧ (parseMethodDescriptor y.desc).map (fun d => d.parameters.length) = some n) (hR : rm.frames + 1 ≤ R.frames ∧ 8 + (maxL + 11) + rm.locals ≤ R.locals)
    (hH : Hold X A ss.flatten H) (hS : va_S A s.heap H locs) (is : List Nat) (his : is.filterMap (fun i => ss[i]?) = w ++ sr) (N0 : Nat) (hN0 : ss.length = N0) (hip : is.Perm (List.range N0))
    (hn : As.length = n) (hls : ls.size = nL) (hst0 : st0 = As.reverse ++ .ref b :: rest) (hrm : (rest.map fun v => v.category).sum ≤ 8) (hdg : decode cc pc = .ok (.invokespecial index, 3)) (hf : cells + rm.cells ≤ R.cells ∧ slots + rm.slots ≤ R.slots)
    (kk : ∀ (u : S') (H1 : Heap) (locs1 : List Loc), post u → Hold X A (w' u ++ sr).flatten H1 → va_S A s.heap H1 locs1 → W p l e R s m args below meth c H1 locs1 (cells + rm.cells) (slots + rm.slots) Q (F0 m (pc + 3) ls rest)) : W p l e R s m args below meth c H locs cells slots Q (F0 m pc ls st0) := by
  have hH2 := hold_cut hH is his N0 hN0 hip
  exact zr_v hA hH2 hS (va_runI S (hC H.size) (cwI n S.2.2.2.2 hG hw rfl rfl (S.2.2.2.2 _ hini) (S.2.2.2.2 _ hlk) (S.2.2.2.2 _ hst) hyn hd hR) ⟨Pre.blind, fun U hU hW => pre_at hAM hA hH2 hS hU hW⟩ rfl hn hls hst0 (lv_room hrm) hdg hf) kk
theorem zc_INv {S' : Type} {y : MethodName} {ws ws' : List Cond} {bytes : ByteArray} {maxL index n : Nat} {rm : Room} {As st0 : List Value} {ss w sr : List va_W} {w' : S' → List va_W} {post : S' → Prop} {b : Nat} {host : String} (S : CallFix p m c cc nL s args Ts own) (hAM : AM X A s) (hA : ∀ q, s.heap.size ≤ q → A q) (hC : Cv (S := S') l y ws rm X (.ref b :: As) w post w') (hw : ws = Cond.code y bytes maxL none :: ws') (hG : GoodIn Ts ws) (hnw : va_Nw (.methodLinkNest own index y host) s) (hini : Cond.initialized y.cls ∈ Ts) (hst : Cond.instanceMethod y ∈ Ts) (hyn : y.name = "<init>") (hd : y.cls ≠ "java/lang/invoke/MethodHandle" ∧ y.cls ≠ "java/lang/invoke/VarHandle" ∧ (parseMethodDescriptor y.desc).map (fun d => d.parameters.length) = some n) (hR : rm.frames + 1 ≤ R.frames ∧ 8 + (maxL + 11) + rm.locals ≤ R.locals)
    (hH : Hold X A ss.flatten H) (hS : va_S A s.heap H locs) (is : List Nat) (his : is.filterMap (fun i => ss[i]?) = w ++ sr) (N0 : Nat) (hN0 : ss.length = N0) (hip : is.Perm (List.range N0))
    (hn : As.length = n) (hls : ls.size = nL) (hst0 : st0 = As.reverse ++ .ref b :: rest) (hrm : (rest.map fun v => v.category).sum ≤ 8) (hdg : decode cc pc = .ok (.invokespecial index, 3)) (hf : cells + rm.cells ≤ R.cells ∧ slots + rm.slots ≤ R.slots)
    (kk : ∀ (u : S') (H1 : Heap) (locs1 : List Loc), post u → Hold X A (w' u ++ sr).flatten H1 → va_S A s.heap H1 locs1 → W p l e R s m args below meth c H1 locs1 (cells + rm.cells) (slots + rm.slots) Q (F0 m (pc + 3) ls rest)) : W p l e R s m args below meth c H locs cells slots Q (F0 m pc ls st0) := by
  have hH2 := hold_cut hH is his N0 hN0 hip
  exact zr_v hA hH2 hS (va_runIN (host := host) S (hC H.size) ⟨va_cnB n S.2.2.2.2 hG hw rfl rfl hnw (S.2.2.2.2 _ hini) hd hR, hyn, S.2.2.2.2 _ hst⟩ ⟨Pre.blind, fun U hU hW => pre_at hAM hA hH2 hS hU hW⟩ rfl hn hls hst0 (lv_room hrm) hdg hf) kk
end ZC
