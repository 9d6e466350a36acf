/-! ===== the base: ints of the machine as Int ===== -/
def iI (z : Int) : Int32 := Int32.ofInt z
abbrev inR (z : Int) : Prop := -2147483648 ≤ z ∧ z < 2147483648
theorem iI_toInt {z : Int} (h : inR z) : (iI z).toInt = z := by
  unfold iI
  exact Int32.toInt_ofInt_of_le (by omega) (by omega)
theorem iI_lt {a b : Int} (ha : inR a) (hb : inR b) : iI a < iI b ↔ a < b := by
  rw [Int32.lt_iff_toInt_lt, iI_toInt ha, iI_toInt hb]
theorem iI_le {a b : Int} (ha : inR a) (hb : inR b) : iI a ≤ iI b ↔ a ≤ b := by
  rw [Int32.le_iff_toInt_le, iI_toInt ha, iI_toInt hb]
theorem iI_eq {a b : Int} (ha : inR a) (hb : inR b) : iI a = iI b ↔ a = b := by
  constructor
  · intro h
    have h2 := congrArg Int32.toInt h
    rwa [iI_toInt ha, iI_toInt hb] at h2
  · intro h
    rw [h]
theorem iI_add (a b : Int) : iI a + iI b = iI (a + b) := (Int32.ofInt_add a b).symm
theorem iI_sub (a b : Int) : iI a - iI b = iI (a - b) := (Int32.ofInt_sub a b).symm
theorem iI_mul (a b : Int) : iI a * iI b = iI (a * b) := (Int32.ofInt_mul a b).symm
theorem iI_0 : (0 : Int32) = iI 0 := by decide
theorem iI_1 : (1 : Int32) = iI 1 := by decide
theorem iI_nat (n : Nat) : iI (n : Int) = nI n := Int32.ofInt_eq_ofNat
theorem iI_self (x : Int32) : x = iI x.toInt := (Int32.ofInt_toInt x).symm
theorem inR_toInt (x : Int32) : inR x.toInt := ⟨by have := Int32.le_toInt x; omega, by have := Int32.toInt_lt x; omega⟩
theorem iI_clamp {k : Nat} (h : k < 2147483648) : (iI (k : Int)).toNatClampNeg = k := by
  rw [iI_nat]
  exact nI_clamp (by omega)
theorem iI_in {k n : Nat} (h : k < n) (hn : n < 2147483648) : vp_in (iI (k : Int)) n := by
  rw [iI_nat]
  exact vp_in_nI h (by omega)
theorem iI_div {a d : Nat} (ha : a < 2147483648) (h0 : 0 < d) (hd : d < 2147483648) : iI (a : Int) / iI (d : Int) = iI ((a / d : Nat) : Int) := by
  rw [iI_nat, iI_nat, iI_nat]
  exact pk_div (by omega) h0 (by omega)
/-! ===== the base: worlds ===== -/
abbrev XT : Type := va_G × (Nat → ClassId) × (Nat → Nat) × (Nat → Nat)
def zA (g : Nat → Int) : Nat → Int32 := fun k => iI (g k)
def uI (g : Nat → Int) (k : Nat) (z : Int) : Nat → Int := fun j => if j = k then z else g j
theorem uI_s (g : Nat → Int) (k : Nat) (z : Int) : uI g k z k = z := if_pos rfl
theorem uI_n {g : Nat → Int} {k : Nat} {z : Int} {j : Nat} (h : j ≠ k) : uI g k z j = g j := if_neg h
theorem zA_upd (g : Nat → Int) (k : Nat) (z : Int) : upd (zA g) k (iI z) = zA (uI g k z) := by
  funext j
  by_cases h : j = k
  · subst h
    rw [pk_us]
    show iI z = iI (uI g j z j)
    rw [uI_s]
  · rw [pk_un h]
    show iI (g j) = iI (uI g k z j)
    rw [uI_n h]
abbrev ia (X : XT) (q n : Nat) (g : Nat → Int) : Nat × va_E := (q, .inl (X.2.1 0, n, .inl (zA g)))
abbrev ca (X : XT) (q n : Nat) (g : Nat → Int) : Nat × va_E := (q, .inl (X.2.1 1, n, .inl (zA g)))
abbrev ppa (X : XT) (q n : Nat) (r : Nat → Option Nat) : Nat × va_E := (q, .inl (X.2.1 2, n, .inr (.inr (.inr (.inr r)))))
abbrev rra (X : XT) (q n : Nat) (r : Nat → Option Nat) : Nat × va_E := (q, .inl (X.2.1 3, n, .inr (.inr (.inr (.inr r)))))
abbrev tyL (X : XT) : List (ClassId × FieldType) := [(X.2.1 0, .int), (X.2.1 1, .char), (X.2.1 2, .object "RoleDoublingPlanner$Play"), (X.2.1 3, .array .int)]
def Hold (X : XT) (A : Nat → Prop) (ws : va_W) (H : Heap) : Prop := va_P X.1 vwCl ws H ∧ va_D A ws
/-- what is free of a method's cells: its own and all that are made -/
theorem va_P_iff {D : va_G} {cl : List vw_C} {ws : va_W} {H : Heap} : va_P D cl ws H ↔ ∀ q ∈ ws, va_at D cl q H := by
  constructor
  · intro h q hq
    obtain ⟨k, hk⟩ := List.getElem?_of_mem hq
    exact h k q hk
  · intro h k q hk
    exact h q (List.mem_of_getElem? hk)
theorem va_D_iff {A : Nat → Prop} {ws : va_W} : va_D A ws ↔ (ws.map Prod.fst).Nodup ∧ ∀ q ∈ ws, A q.1 := by
  constructor
  · intro h
    refine ⟨?_, fun q hq => ?_⟩
    · refine List.pairwise_iff_getElem.mpr (fun i j hi hj hij e => ?_)
      rw [List.length_map] at hi hj
      have e2 : ws[i].1 = ws[j].1 := by simpa using e
      have := h.1 i j ws[i] ws[j] (List.getElem?_eq_getElem hi) (List.getElem?_eq_getElem hj) e2
      omega
    · obtain ⟨k, hk⟩ := List.getElem?_of_mem hq
      exact h.2 k q hk
  · intro h
    refine ⟨fun i j p q hi hj hpq => ?_, fun k q hk => h.2 q (List.mem_of_getElem? hk)⟩
    have hn := List.pairwise_iff_getElem.mp h.1
    obtain ⟨li, ei⟩ := List.getElem?_eq_some_iff.mp hi
    obtain ⟨lj, ej⟩ := List.getElem?_eq_some_iff.mp hj
    rcases Nat.lt_trichotomy i j with z | z | z
    · have hne := hn i j (by rw [List.length_map]; exact li) (by rw [List.length_map]; exact lj) z
      rw [List.getElem_map, List.getElem_map, ei, ej] at hne
      exact absurd hpq hne
    · exact z
    · have hne := hn j i (by rw [List.length_map]; exact lj) (by rw [List.length_map]; exact li) z
      rw [List.getElem_map, List.getElem_map, ei, ej] at hne
      exact absurd hpq.symm hne
theorem Hold.perm {X : XT} {A : Nat → Prop} {w w' : va_W} {H : Heap} (h : Hold X A w H) (hp : w.Perm w') : Hold X A w' H := by
  obtain ⟨h1, h2⟩ := h
  rw [va_P_iff] at h1
  rw [va_D_iff] at h2
  refine ⟨va_P_iff.mpr (fun q hq => h1 q (hp.mem_iff.mpr hq)), va_D_iff.mpr ⟨((hp.map Prod.fst).nodup_iff).mp h2.1, fun q hq => h2.2 q (hp.mem_iff.mpr hq)⟩⟩
theorem range_pick {α : Type} : ∀ (ss : List α), (List.range ss.length).filterMap (fun i => ss[i]?) = ss
  | [] => rfl
  | a :: t => by
    rw [List.length_cons, List.range_succ_eq_map, List.filterMap_cons]
    show a :: _ = a :: t
    rw [List.filterMap_map]
    exact congrArg (fun x => a :: x) (range_pick t)
/-- sections picked by their places, all of them, in another order -/
theorem pick_perm {α : Type} {ss ss' : List α} (is : List Nat) (hs : is.filterMap (fun i => ss[i]?) = ss') (hn : is.Perm (List.range ss.length)) : ss.Perm ss' := by
  have h1 : (is.filterMap (fun i => ss[i]?)).Perm ((List.range ss.length).filterMap (fun i => ss[i]?)) := hn.filterMap _
  rw [range_pick, hs] at h1
  exact h1.symm
theorem Hold.pick {X : XT} {A : Nat → Prop} {ss ss' : List va_W} {H : Heap} (h : Hold X A ss.flatten H) (is : List Nat) (hs : is.filterMap (fun i => ss[i]?) = ss') (N0 : Nat) (hN0 : ss.length = N0) (hn : is.Perm (List.range N0)) : Hold X A ss'.flatten H := by
  subst hN0
  exact h.perm (pick_perm is hs hn).flatten
theorem va_A_iff {ws : va_W} {sz q : Nat} : va_A ws sz q ↔ (∃ e, (q, e) ∈ ws) ∨ sz ≤ q := by
  unfold va_A
  constructor
  · rintro (⟨k, e, h⟩ | h)
    · exact Or.inl ⟨e, List.mem_of_getElem? h⟩
    · exact Or.inr h
  · rintro (⟨e, h⟩ | h)
    · obtain ⟨k, hk⟩ := List.getElem?_of_mem h
      exact Or.inl ⟨k, e, hk⟩
    · exact Or.inr h
theorem Hold.frame {X : XT} {A : Nat → Prop} {wc wr w1 : va_W} {H H1 : Heap} (h : Hold X A (wc ++ wr) H) (hk : ∀ q : Nat, q < H.size → ¬ va_A wc H.size q → H1[q]? = H[q]?) (hF : ∀ q, va_A wc H.size q → A q) (h1 : Hold X (va_A wc H.size) w1 H1) : Hold X A (w1 ++ wr) H1 := by
  obtain ⟨hP, hD⟩ := h
  rw [va_P_iff] at hP
  rw [va_D_iff] at hD
  obtain ⟨hP1, hD1⟩ := h1
  rw [va_P_iff] at hP1
  rw [va_D_iff] at hD1
  have apart : ∀ q ∈ wr, q.1 < H.size ∧ ¬ va_A wc H.size q.1 := by
    intro q hq
    have hl := (hP q (List.mem_append_right _ hq)).lt
    refine ⟨hl, fun z => ?_⟩
    rw [va_A_iff] at z
    rcases z with ⟨e, he⟩ | z
    · have hn := hD.1
      rw [List.map_append, List.nodup_append] at hn
      exact hn.2.2 q.1 (List.mem_map.mpr ⟨(q.1, e), he, rfl⟩) q.1 (List.mem_map.mpr ⟨q, hq, rfl⟩) rfl
    · omega
  refine ⟨va_P_iff.mpr (fun q hq => ?_), va_D_iff.mpr ⟨?_, fun q hq => ?_⟩⟩
  · rcases List.mem_append.mp hq with h | h
    · exact hP1 q h
    · exact (hP q (List.mem_append_right _ h)).kept (hk q.1 (apart q h).1 (apart q h).2)
  · rw [List.map_append, List.nodup_append]
    have hn := hD.1
    rw [List.map_append, List.nodup_append] at hn
    refine ⟨hD1.1, hn.2.1, fun a ha b hb e => ?_⟩
    obtain ⟨x, hx, rfl⟩ := List.mem_map.mp ha
    obtain ⟨y, hy, rfl⟩ := List.mem_map.mp hb
    exact (apart y hy).2 (by rw [← e]; exact hD1.2 x hx)
  · rcases List.mem_append.mp hq with h | h
    · exact hF _ (hD1.2 q h)
    · exact hD.2 q (List.mem_append_right _ h)
theorem Hold.free {X : XT} {A : Nat → Prop} {wc wr : va_W} {H0 H : Heap} {locs : List Loc} (h : Hold X A (wc ++ wr) H) (hS : va_S A H0 H locs) (hA : ∀ q, H0.size ≤ q → A q) : ∀ q, va_A wc H.size q → A q := by
  intro q z
  rw [va_A_iff] at z
  rcases z with ⟨e, he⟩ | z
  · exact (va_D_iff.mp h.2).2 (q, e) (List.mem_append_left _ he)
  · exact hA q (Nat.le_trans hS.1 z)
theorem Hold.true {X : XT} {A : Nat → Prop} {w : va_W} {H : Heap} (h : Hold X A w H) : Hold X (fun _ => True) w H := ⟨h.1, h.2.weaken (fun _ _ _ _ => trivial)⟩
theorem Hold.left {X : XT} {A : Nat → Prop} {w w2 : va_W} {H : Heap} (h : Hold X A (w ++ w2) H) : Hold X A w H := by
  obtain ⟨hP, hD⟩ := h
  rw [va_P_iff] at hP
  rw [va_D_iff, List.map_append, List.nodup_append] at hD
  exact ⟨va_P_iff.mpr (fun q hq => hP q (List.mem_append_left _ hq)), va_D_iff.mpr ⟨hD.1.1, fun q hq => hD.2 q (List.mem_append_left _ hq)⟩⟩
theorem Hold.self {X : XT} {A : Nat → Prop} {w : va_W} {H : Heap} {sz : Nat} (h : Hold X A w H) : Hold X (va_A w sz) w H := ⟨h.1, h.2.self⟩
/-! ===== what holds around every call: classes, links, texts ===== -/
def lenJ : List Nat := [27, 67, 46, 45, 47, 5, 4, 5, 3, 4, 5]
def bytJ : List (List Int32) := [[115, 99, 101, 110, 101, 32, 51, 48, 59, 115, 99, 101, 110, 101, 32, 50, 48, 59, 115, 99, 101, 110, 101, 32, 52, 48, 59], [114, 111, 108, 101, 32, 108, 111, 119, 32, 52, 32, 51, 59, 114, 111, 108, 101, 32, 108, 111, 119, 32, 50, 32, 54, 59, 114, 111, 108, 101, 32, 104, 105, 103, 104, 32, 53, 32, 53, 59, 114, 111, 108, 101, 32, 108, 111, 119, 32, 48, 32, 50, 59, 114, 111, 108, 101, 32, 104, 105, 103, 104, 32, 51, 32, 49, 59], [101, 110, 116, 101, 114, 32, 48, 32, 48, 32, 48, 32, 49, 50, 59, 101, 110, 116, 101, 114, 32, 49, 32, 48, 32, 49, 56, 32, 51, 48, 59, 101, 110, 116, 101, 114, 32, 50, 32, 48, 32, 53, 32, 50, 53, 59], [101, 110, 116, 101, 114, 32, 51, 32, 49, 32, 48, 32, 57, 59, 101, 110, 116, 101, 114, 32, 48, 32, 49, 32, 49, 48, 32, 50, 48, 59, 101, 110, 116, 101, 114, 32, 52, 32, 49, 32, 51, 32, 50, 48, 59], [101, 110, 116, 101, 114, 32, 49, 32, 50, 32, 50, 32, 49, 53, 59, 101, 110, 116, 101, 114, 32, 51, 32, 50, 32, 50, 48, 32, 52, 48, 59, 101, 110, 116, 101, 114, 32, 50, 32, 50, 32, 51, 48, 32, 52, 48, 59], [115, 99, 101, 110, 101], [114, 111, 108, 101], [101, 110, 116, 101, 114], [108, 111, 119], [104, 105, 103, 104], [99, 104, 105, 108, 100]]
def AOA (U : State) : Prop := (Cond.arrayOver (.array .int)).before #[] U = true
theorem AOA.moved {u U : State} (hvm : u.vm.Alike U.vm) (h : AOA u) : AOA U := Jvm.Stand.arrayOver_alikeB hvm h
def NW (U : State) : Prop := va_Nw (.methodLinkNest "RoleDoublingPlanner" 11 yX3_init "RoleDoublingPlanner") U ∧ va_Nw (.methodLinkNest "RoleDoublingPlanner" 18 yX2_init "RoleDoublingPlanner") U ∧ va_Nw (.methodLinkNest "RoleDoublingPlanner" 37 yX0_init "RoleDoublingPlanner") U ∧ va_Nw (.methodLinkNest "RoleDoublingPlanner$History" 17 yX2_init "RoleDoublingPlanner") U ∧ va_Nw (.methodLinkNest "RoleDoublingPlanner$Play" 62 yX5_isCostumeTime "RoleDoublingPlanner") U ∧ va_Nw (.methodLinkNest "RoleDoublingPlanner$Slacks" 44 yX5_lesserSlack "RoleDoublingPlanner") U ∧ va_AO "RoleDoublingPlanner$Play" U ∧ AOA U
theorem NW.warm {s U : State} (hW : s.WarmedH U.vm) (h : NW s) : NW U := ⟨h.1.warmM hW, h.2.1.warmM hW, h.2.2.1.warmM hW, h.2.2.2.1.warmM hW, h.2.2.2.2.1.warmM hW, h.2.2.2.2.2.1.warmM hW, va_AO.moved hW.alike h.2.2.2.2.2.2.1, AOA.moved hW.alike h.2.2.2.2.2.2.2⟩
theorem NW.same {u U : State} (hv : u.vm = U.vm) (h : NW u) : NW U := ⟨h.1.same rfl hv, h.2.1.same rfl hv, h.2.2.1.same rfl hv, h.2.2.2.1.same rfl hv, h.2.2.2.2.1.same rfl hv, h.2.2.2.2.2.1.same rfl hv, va_AO.moved (hv ▸ Vm.Alike.refl u.vm) h.2.2.2.2.2.2.1, AOA.moved (hv ▸ Vm.Alike.refl u.vm) h.2.2.2.2.2.2.2⟩
def VR (ad : Nat → Nat) (U : State) : Prop := vk_R "RoleDoublingPlanner" 49 "scene 30;scene 20;scene 40;" (ad 0) U ∧ vk_R "RoleDoublingPlanner" 55 "role low 4 3;role low 2 6;role high 5 5;role low 0 2;role high 3 1;" (ad 1) U ∧ vk_R "RoleDoublingPlanner" 57 "enter 0 0 0 12;enter 1 0 18 30;enter 2 0 5 25;" (ad 2) U ∧ vk_R "RoleDoublingPlanner" 59 "enter 3 1 0 9;enter 0 1 10 20;enter 4 1 3 20;" (ad 3) U ∧ vk_R "RoleDoublingPlanner" 61 "enter 1 2 2 15;enter 3 2 20 40;enter 2 2 30 40;" (ad 4) U ∧ vk_R "RoleDoublingPlanner$PlayText" 57 "scene" (ad 5) U ∧ vk_R "RoleDoublingPlanner$PlayText" 66 "role" (ad 6) U ∧ vk_R "RoleDoublingPlanner$PlayText" 71 "enter" (ad 7) U ∧ vk_R "RoleDoublingPlanner$PlayText" 105 "low" (ad 8) U ∧ vk_R "RoleDoublingPlanner$PlayText" 107 "high" (ad 9) U ∧ vk_R "RoleDoublingPlanner$PlayText" 109 "child" (ad 10) U
theorem VR.warm {ad : Nat → Nat} {s U : State} (hW : s.WarmedH U.vm) (h : VR ad s) : VR ad U := by
  obtain ⟨h0, h1, h2, h3, h4, h5, h6, h7, h8, h9, h10⟩ := h
  exact ⟨h0.warm hW, h1.warm hW, h2.warm hW, h3.warm hW, h4.warm hW, h5.warm hW, h6.warm hW, h7.warm hW, h8.warm hW, h9.warm hW, h10.warm hW⟩
theorem VR.same {ad : Nat → Nat} {u U : State} (hv : U.vm = u.vm) (h : VR ad u) : VR ad U := by
  obtain ⟨h0, h1, h2, h3, h4, h5, h6, h7, h8, h9, h10⟩ := h
  exact ⟨h0.same hv, h1.same hv, h2.same hv, h3.same hv, h4.same hv, h5.same hv, h6.same hv, h7.same hv, h8.same hv, h9.same hv, h10.same hv⟩
def AM (X : XT) (A : Nat → Prop) (U : State) : Prop := va_K X.1 vwCl (tyL X) U ∧ NW U ∧ vk_S 11 lenJ bytJ X.2.2.1 X.2.2.2 A U U.heap ∧ VR X.2.2.1 U ∧ va_Z "java/lang/String" "COMPACT_STRINGS" "Z" (.int 1) A U U.heap ∧ va_Zq "jdk/internal/util/Preconditions" "SIOOBE_FORMATTER" "Ljava/util/function/BiFunction;" A U U.heap
theorem AM.at {X : XT} {A B : Nat → Prop} {s U : State} {H : Heap} {locs : List Loc} (h : AM X A s) (hS : va_S A s.heap H locs) (hU : U.heap = H) (hW : s.WarmedH U.vm) (hF : ∀ q, B q → A q) : AM X B U := by
  obtain ⟨h1, h2, h3, h4, h5, h6⟩ := h
  subst hU
  exact ⟨va_K.moved hW.alike h1, h2.warm hW, ((h3.kept hS.2.1).moved hW.alike).narrow hF, h4.warm hW, ((h5.kept hS.2.1).moved hW.alike).narrow hF, ((h6.kept hS.2.1).moved hW.alike).narrow hF⟩
theorem AM.blind {X : XT} {A : Nat → Prop} {U : State} {g : JFrame} {mk : MethodId} {a : Array Value} (h : AM X A U) : AM X A (U.calling g mk a) := by
  obtain ⟨h1, h2, h3, h4, h5, h6⟩ := h
  exact ⟨va_K.moved (u := U) (U := U.calling g mk a) (Vm.Alike.refl U.vm) h1, h2.same rfl, vk_S.moved (u := U) (U := U.calling g mk a) (Vm.Alike.refl U.vm) h3, h4.same rfl, va_Z.moved (u := U) (U := U.calling g mk a) (Vm.Alike.refl U.vm) h5, va_Zq.moved (u := U) (U := U.calling g mk a) (Vm.Alike.refl U.vm) h6⟩
/-! ===== contracts ===== -/
def Pre (X : XT) (w : List va_W) (sz : Nat) : State → Prop := fun U => U.heap.size = sz ∧ Hold X (fun _ => True) w.flatten U.heap ∧ AM X (va_A w.flatten sz) U
theorem Pre.blind {X : XT} {av : List Value} {w : List va_W} {sz : Nat} : FrameBlind (va_Pc av (Pre X w sz)) := fun _ _ _ _ h => ⟨h.1, h.2.1, h.2.2.1, h.2.2.2.blind⟩
def Ci {S : Type} (l : Launch) (y : MethodName) (ws : List Cond) (rm : Room) (X : XT) (av : List Value) (w : List va_W) (post : Int → S → Prop) (w' : S → List va_W) : Prop :=
  ∀ sz : Nat, Met l y ws rm (va_Pc av (Pre X w sz)) (va_Qi (fun (r : Int32) (u : S) => ∃ z : Int, r = iI z ∧ post z u) (fun (u : S) (t : State) => Hold X (va_A w.flatten sz) (w' u).flatten t.heap) (va_A w.flatten sz)) rm.cells rm.slots (va_A w.flatten sz)
def Cv {S : Type} (l : Launch) (y : MethodName) (ws : List Cond) (rm : Room) (X : XT) (av : List Value) (w : List va_W) (post : S → Prop) (w' : S → List va_W) : Prop :=
  ∀ sz : Nat, Met l y ws rm (va_Pc av (Pre X w sz)) (va_Qv (fun (u : S) => post u) (fun (u : S) (t : State) => Hold X (va_A w.flatten sz) (w' u).flatten t.heap) (va_A w.flatten sz)) rm.cells rm.slots (va_A w.flatten sz)
set_option maxHeartbeats 1000000 in
theorem Ci.ofW {S : Type} {l : Launch} {y : MethodName} {ws ws' : List Cond} {rm : Room} {X : XT} {av : List Value} {w : List va_W} {post : Int → S → Prop} {w' : S → List va_W} {cc : ByteArray} {maxL : Nat} {ret : FieldType} (hy : plainName y.cls = true) (hw : ws = Cond.code y cc maxL (some ret) :: ws') (hn : (lg_sl av).length ≤ maxL)
    (body : ∀ (p : Program) (e : Env) (s : State) (m : MethodId) (below : List Frame) (meth : Method) (c : Code) (A : Nat → Prop) (Q : State → Prop), CallFix p m c cc maxL s av.toArray ws y.cls → (∀ q, s.heap.size ≤ q → A q) → AM X A s → Hold X A w.flatten s.heap → va_S A s.heap s.heap [] →
      (∀ (pc : Nat) (ls : Array Slot) (H : Heap) (locs : List Loc) (z : Int) (u : S), decode cc pc = .ok (.ireturn, 1) → narrow ret (.int (iI z)) = .int (iI z) → post z u → Hold X A (w' u).flatten H → va_S A s.heap H locs → W p l e rm s m av.toArray below meth c H locs rm.cells rm.slots Q (F0 m pc ls [.int (iI z)])) →
      ∀ ls : Array Slot, lv_has ls maxL (lv_args 0 av) → W p l e rm s m av.toArray below meth c s.heap [] 0 0 Q (F0 m 0 ls [])) : Ci l y ws rm X av w post w' := by
  intro sz
  refine Met.ofW (cc := cc) (maxL := maxL) (ret := some ret) hy hw ?_
  intro p e s m args below meth c s₁ B hml hv
  obtain ⟨rfl, hsz, hH, hAM⟩ := hv
  have hts := atoms_spec (ws := ws) B.pre
  have hown : s.vm.findClass y.cls = some m.cls := findClass_of_methodNamed B.named
  have hlocks := B.notSynchronized
  have hr := B.returns
  subst hsz
  have hl := lv_entry av (n := maxL) hn
  rw [lg_entry_eq]
  refine body p e s m below meth c (va_A w.flatten s.heap.size) _ ⟨B.exec, B.bytes, hml, hown, hts⟩ (fun q h => Or.inr h) hAM hH.self va_S.rf ?_ _ hl
  intro pc ls H locs z u hdg hnar hp hH2 hS
  exact W.zret (v := iI z) B.exec B.bytes hr hnar (fun t ht hW => ⟨⟨iI z, u, rfl, ⟨z, rfl, hp⟩, by show Hold X _ (w' u).flatten t.heap; rw [ht]; exact hH2⟩, hS.F ht⟩) hS.2.2 hdg
set_option maxHeartbeats 1000000 in
theorem Cv.ofW {S : Type} {l : Launch} {y : MethodName} {ws ws' : List Cond} {rm : Room} {X : XT} {av : List Value} {w : List va_W} {post : S → Prop} {w' : S → List va_W} {cc : ByteArray} {maxL : Nat} (hy : plainName y.cls = true) (hw : ws = Cond.code y cc maxL none :: ws') (hn : (lg_sl av).length ≤ maxL)
    (body : ∀ (p : Program) (e : Env) (s : State) (m : MethodId) (below : List Frame) (meth : Method) (c : Code) (A : Nat → Prop) (Q : State → Prop), CallFix p m c cc maxL s av.toArray ws y.cls → (∀ q, s.heap.size ≤ q → A q) → AM X A s → Hold X A w.flatten s.heap → va_S A s.heap s.heap [] → meth.name = y.name →
      (∀ (pc : Nat) (ls : Array Slot) (H : Heap) (locs : List Loc) (u : S), decode cc pc = .ok (.return_, 1) → post u → Hold X A (w' u).flatten H → va_S A s.heap H locs → W p l e rm s m av.toArray below meth c H locs rm.cells rm.slots Q (F0 m pc ls [])) →
      ∀ ls : Array Slot, lv_has ls maxL (lv_args 0 av) → W p l e rm s m av.toArray below meth c s.heap [] 0 0 Q (F0 m 0 ls [])) : Cv l y ws rm X av w post w' := by
  intro sz
  refine Met.ofW (cc := cc) (maxL := maxL) (ret := none) hy hw ?_
  intro p e s m args below meth c s₁ B hml hv
  obtain ⟨rfl, hsz, hH, hAM⟩ := hv
  have hts := atoms_spec (ws := ws) B.pre
  have hown : s.vm.findClass y.cls = some m.cls := findClass_of_methodNamed B.named
  have hlocks := B.notSynchronized
  have hr := B.returns
  subst hsz
  have hl := lv_entry av (n := maxL) hn
  rw [lg_entry_eq]
  refine body p e s m below meth c (va_A w.flatten s.heap.size) _ ⟨B.exec, B.bytes, hml, hown, hts⟩ (fun q h => Or.inr h) hAM hH.self va_S.rf (name_of_methodNamed B.named B.method).1 ?_ _ hl
  intro pc ls H locs u hdg hp hH2 hS
  exact W.vret B.exec B.bytes hr (fun t ht hW => ⟨⟨u, rfl, hp, by show Hold X _ (w' u).flatten t.heap; rw [ht]; exact hH2⟩, hS.F ht⟩) hS.2.2 hdg
/-! ===== rows: an instruction each, over Int ===== -/
section ZV
variable {p : Program} {l : Launch} {e : Env} {R : Room} {s : State} {m : MethodId} {args : Array Value} {below : List Frame} {meth : Method} {c : Code} {H : Heap} {locs : List Loc} {cells slots : Nat} {Q : State → Prop}
variable {cc : ByteArray} {pc nL : Nat} {ls : Array Slot} {rest : List Value} {X : XT} {A : Nat → Prop} {Ts : List Cond} {own : String}
theorem zv_iadd {a b z : Int} (S : CallFix p m c cc nL s args Ts own) (hdg : decode cc pc = .ok (.iadd, 1)) (hz : a + b = z) (k : W p l e R s m args below meth c H locs cells slots Q (F0 m (pc + 1) ls (.int (iI z) :: rest))) : W p l e R s m args below meth c H locs cells slots Q (F0 m pc ls (.int (iI b) :: .int (iI a) :: rest)) := by
  subst hz
  refine lv_iadd S.1 S.2.1 hdg ?_
  rw [iI_add]
  exact k
theorem zv_isub {a b z : Int} (S : CallFix p m c cc nL s args Ts own) (hdg : decode cc pc = .ok (.isub, 1)) (hz : a - b = z) (k : W p l e R s m args below meth c H locs cells slots Q (F0 m (pc + 1) ls (.int (iI z) :: rest))) : W p l e R s m args below meth c H locs cells slots Q (F0 m pc ls (.int (iI b) :: .int (iI a) :: rest)) := by
  subst hz
  refine lv_isub S.1 S.2.1 hdg ?_
  rw [iI_sub]
  exact k
theorem zv_imul {a b z : Int} (S : CallFix p m c cc nL s args Ts own) (hdg : decode cc pc = .ok (.imul, 1)) (hz : a * b = z) (k : W p l e R s m args below meth c H locs cells slots Q (F0 m (pc + 1) ls (.int (iI z) :: rest))) : W p l e R s m args below meth c H locs cells slots Q (F0 m pc ls (.int (iI b) :: .int (iI a) :: rest)) := by
  subst hz
  refine lv_imul S.1 S.2.1 hdg ?_
  rw [iI_mul]
  exact k
theorem zv_ior {a b z : Int} (S : CallFix p m c cc nL s args Ts own) (hdg : decode cc pc = .ok (.ior, 1)) (hz : iI a ||| iI b = iI z) (k : W p l e R s m args below meth c H locs cells slots Q (F0 m (pc + 1) ls (.int (iI z) :: rest))) : W p l e R s m args below meth c H locs cells slots Q (F0 m pc ls (.int (iI b) :: .int (iI a) :: rest)) := by
  refine lv_ior S.1 S.2.1 hdg ?_
  rw [hz]
  exact k
theorem zv_iand {a b z : Int} (S : CallFix p m c cc nL s args Ts own) (hdg : decode cc pc = .ok (.iand, 1)) (hz : iI a &&& iI b = iI z) (k : W p l e R s m args below meth c H locs cells slots Q (F0 m (pc + 1) ls (.int (iI z) :: rest))) : W p l e R s m args below meth c H locs cells slots Q (F0 m pc ls (.int (iI b) :: .int (iI a) :: rest)) := by
  refine lv_iand S.1 S.2.1 hdg ?_
  rw [hz]
  exact k
theorem zv_ixor {a b z : Int} (S : CallFix p m c cc nL s args Ts own) (hdg : decode cc pc = .ok (.ixor, 1)) (hz : iI a ^^^ iI b = iI z) (k : W p l e R s m args below meth c H locs cells slots Q (F0 m (pc + 1) ls (.int (iI z) :: rest))) : W p l e R s m args below meth c H locs cells slots Q (F0 m pc ls (.int (iI b) :: .int (iI a) :: rest)) := by
  refine lv_ixor S.1 S.2.1 hdg ?_
  rw [hz]
  exact k
theorem zv_ishl {a b z : Int} (S : CallFix p m c cc nL s args Ts own) (hdg : decode cc pc = .ok (.ishl, 1)) (hz : iI a <<< (iI b &&& 31) = iI z) (k : W p l e R s m args below meth c H locs cells slots Q (F0 m (pc + 1) ls (.int (iI z) :: rest))) : W p l e R s m args below meth c H locs cells slots Q (F0 m pc ls (.int (iI b) :: .int (iI a) :: rest)) := by
  refine lv_ishl S.1 S.2.1 hdg ?_
  rw [hz]
  exact k
theorem zv_ishr {a b z : Int} (S : CallFix p m c cc nL s args Ts own) (hdg : decode cc pc = .ok (.ishr, 1)) (hz : iI a >>> (iI b &&& 31) = iI z) (k : W p l e R s m args below meth c H locs cells slots Q (F0 m (pc + 1) ls (.int (iI z) :: rest))) : W p l e R s m args below meth c H locs cells slots Q (F0 m pc ls (.int (iI b) :: .int (iI a) :: rest)) := by
  refine lv_ishr S.1 S.2.1 hdg ?_
  rw [hz]
  exact k
theorem zv_idiv {a b z : Int} (S : CallFix p m c cc nL s args Ts own) (hdg : decode cc pc = .ok (.idiv, 1)) (h0 : ¬ iI b = 0) (hz : iI a / iI b = iI z) (k : W p l e R s m args below meth c H locs cells slots Q (F0 m (pc + 1) ls (.int (iI z) :: rest))) : W p l e R s m args below meth c H locs cells slots Q (F0 m pc ls (.int (iI b) :: .int (iI a) :: rest)) := by
  refine lv_idiv S.1 S.2.1 hdg h0 ?_
  rw [hz]
  exact k
theorem zv_iinc {i k : Nat} {n a z : Int} {lv lv' : List (Nat × Value)} (S : CallFix p m c cc nL s args Ts own) (hdg : decode cc pc = .ok (.iinc i n, 3)) (h : lv_has ls nL lv) (hk : lv[k]? = some (i, .int (iI a))) (hz : a + n = z) (hn : i < nL) (hl : (i, Value.int (iI z)) :: lv.filter (fun q => !(q.1 == i) && !(q.1 + 1 == i && q.2.category == 2)) = lv')
    (kk : ∀ ls' : Array Slot, lv_has ls' nL lv' → W p l e R s m args below meth c H locs cells slots Q (F0 m (pc + 3) ls' rest)) : W p l e R s m args below meth c H locs cells slots Q (F0 m pc ls rest) :=
  lv_iinc (v := iI z) S.1 S.2.1 hdg h hk (by subst hz; exact iI_add a n) hn hl kk
theorem zv_icmp_eq {a b : Int} {off : Int} {tgt : Nat} (S : CallFix p m c cc nL s args Ts own) (hdg : decode cc pc = .ok (.if_icmp .eq off, 3)) (ht : (pc : Int) + off = (tgt : Int)) (ha : inR a) (hb : inR b) (kt : a = b → W p l e R s m args below meth c H locs cells slots Q (F0 m tgt ls rest)) (kf : ¬ a = b → W p l e R s m args below meth c H locs cells slots Q (F0 m (pc + 3) ls rest)) : W p l e R s m args below meth c H locs cells slots Q (F0 m pc ls (.int (iI b) :: .int (iI a) :: rest)) :=
  lv_icmp_eq S.1 S.2.1 hdg ht (fun h => kt ((iI_eq ha hb).mp h)) (fun h => kf ((not_congr (iI_eq ha hb)).mp h))
theorem zv_if_eq {a : Int} {off : Int} {tgt : Nat} (S : CallFix p m c cc nL s args Ts own) (hdg : decode cc pc = .ok (.ifCond .eq off, 3)) (ht : (pc : Int) + off = (tgt : Int)) (ha : inR a) (kt : a = 0 → W p l e R s m args below meth c H locs cells slots Q (F0 m tgt ls rest)) (kf : ¬ a = 0 → W p l e R s m args below meth c H locs cells slots Q (F0 m (pc + 3) ls rest)) : W p l e R s m args below meth c H locs cells slots Q (F0 m pc ls (.int (iI a) :: rest)) :=
  lv_if_eq S.1 S.2.1 hdg ht (fun h => kt ((iI_eq ha (by decide : inR 0)).mp (by rw [← iI_0]; exact h))) (fun h => kf ((not_congr (iI_eq ha (by decide : inR 0))).mp (by rw [← iI_0]; exact h)))
theorem zv_icmp_ne {a b : Int} {off : Int} {tgt : Nat} (S : CallFix p m c cc nL s args Ts own) (hdg : decode cc pc = .ok (.if_icmp .ne off, 3)) (ht : (pc : Int) + off = (tgt : Int)) (ha : inR a) (hb : inR b) (kt : ¬ a = b → W p l e R s m args below meth c H locs cells slots Q (F0 m tgt ls rest)) (kf : a = b → W p l e R s m args below meth c H locs cells slots Q (F0 m (pc + 3) ls rest)) : W p l e R s m args below meth c H locs cells slots Q (F0 m pc ls (.int (iI b) :: .int (iI a) :: rest)) :=
  lv_icmp_ne S.1 S.2.1 hdg ht (fun h => kt ((not_congr (iI_eq ha hb)).mp h)) (fun h => kf ((iI_eq ha hb).mp h))
theorem zv_if_ne {a : Int} {off : Int} {tgt : Nat} (S : CallFix p m c cc nL s args Ts own) (hdg : decode cc pc = .ok (.ifCond .ne off, 3)) (ht : (pc : Int) + off = (tgt : Int)) (ha : inR a) (kt : ¬ a = 0 → W p l e R s m args below meth c H locs cells slots Q (F0 m tgt ls rest)) (kf : a = 0 → W p l e R s m args below meth c H locs cells slots Q (F0 m (pc + 3) ls rest)) : W p l e R s m args below meth c H locs cells slots Q (F0 m pc ls (.int (iI a) :: rest)) :=
  lv_if_ne S.1 S.2.1 hdg ht (fun h => kt ((not_congr (iI_eq ha (by decide : inR 0))).mp (by rw [← iI_0]; exact h))) (fun h => kf ((iI_eq ha (by decide : inR 0)).mp (by rw [← iI_0]; exact h)))
theorem zv_icmp_lt {a b : Int} {off : Int} {tgt : Nat} (S : CallFix p m c cc nL s args Ts own) (hdg : decode cc pc = .ok (.if_icmp .lt off, 3)) (ht : (pc : Int) + off = (tgt : Int)) (ha : inR a) (hb : inR b) (kt : a < b → W p l e R s m args below meth c H locs cells slots Q (F0 m tgt ls rest)) (kf : ¬ a < b → W p l e R s m args below meth c H locs cells slots Q (F0 m (pc + 3) ls rest)) : W p l e R s m args below meth c H locs cells slots Q (F0 m pc ls (.int (iI b) :: .int (iI a) :: rest)) :=
  lv_icmp_lt S.1 S.2.1 hdg ht (fun h => kt ((iI_lt ha hb).mp h)) (fun h => kf ((not_congr (iI_lt ha hb)).mp h))
theorem zv_if_lt {a : Int} {off : Int} {tgt : Nat} (S : CallFix p m c cc nL s args Ts own) (hdg : decode cc pc = .ok (.ifCond .lt off, 3)) (ht : (pc : Int) + off = (tgt : Int)) (ha : inR a) (kt : a < 0 → W p l e R s m args below meth c H locs cells slots Q (F0 m tgt ls rest)) (kf : ¬ a < 0 → W p l e R s m args below meth c H locs cells slots Q (F0 m (pc + 3) ls rest)) : W p l e R s m args below meth c H locs cells slots Q (F0 m pc ls (.int (iI a) :: rest)) :=
  lv_if_lt S.1 S.2.1 hdg ht (fun h => kt ((iI_lt ha (by decide : inR 0)).mp (by rw [← iI_0]; exact h))) (fun h => kf ((not_congr (iI_lt ha (by decide : inR 0))).mp (by rw [← iI_0]; exact h)))
theorem zv_icmp_ge {a b : Int} {off : Int} {tgt : Nat} (S : CallFix p m c cc nL s args Ts own) (hdg : decode cc pc = .ok (.if_icmp .ge off, 3)) (ht : (pc : Int) + off = (tgt : Int)) (ha : inR a) (hb : inR b) (kt : b ≤ a → W p l e R s m args below meth c H locs cells slots Q (F0 m tgt ls rest)) (kf : ¬ b ≤ a → W p l e R s m args below meth c H locs cells slots Q (F0 m (pc + 3) ls rest)) : W p l e R s m args below meth c H locs cells slots Q (F0 m pc ls (.int (iI b) :: .int (iI a) :: rest)) :=
  lv_icmp_ge S.1 S.2.1 hdg ht (fun h => kt ((iI_le hb ha).mp h)) (fun h => kf ((not_congr (iI_le hb ha)).mp h))
theorem zv_if_ge {a : Int} {off : Int} {tgt : Nat} (S : CallFix p m c cc nL s args Ts own) (hdg : decode cc pc = .ok (.ifCond .ge off, 3)) (ht : (pc : Int) + off = (tgt : Int)) (ha : inR a) (kt : 0 ≤ a → W p l e R s m args below meth c H locs cells slots Q (F0 m tgt ls rest)) (kf : ¬ 0 ≤ a → W p l e R s m args below meth c H locs cells slots Q (F0 m (pc + 3) ls rest)) : W p l e R s m args below meth c H locs cells slots Q (F0 m pc ls (.int (iI a) :: rest)) :=
  lv_if_ge S.1 S.2.1 hdg ht (fun h => kt ((iI_le (by decide : inR 0) ha).mp (by rw [← iI_0]; exact h))) (fun h => kf ((not_congr (iI_le (by decide : inR 0) ha)).mp (by rw [← iI_0]; exact h)))
theorem zv_icmp_gt {a b : Int} {off : Int} {tgt : Nat} (S : CallFix p m c cc nL s args Ts own) (hdg : decode cc pc = .ok (.if_icmp .gt off, 3)) (ht : (pc : Int) + off = (tgt : Int)) (ha : inR a) (hb : inR b) (kt : b < a → W p l e R s m args below meth c H locs cells slots Q (F0 m tgt ls rest)) (kf : ¬ b < a → W p l e R s m args below meth c H locs cells slots Q (F0 m (pc + 3) ls rest)) : W p l e R s m args below meth c H locs cells slots Q (F0 m pc ls (.int (iI b) :: .int (iI a) :: rest)) :=
  lv_icmp_gt S.1 S.2.1 hdg ht (fun h => kt ((iI_lt hb ha).mp h)) (fun h => kf ((not_congr (iI_lt hb ha)).mp h))
theorem zv_if_gt {a : Int} {off : Int} {tgt : Nat} (S : CallFix p m c cc nL s args Ts own) (hdg : decode cc pc = .ok (.ifCond .gt off, 3)) (ht : (pc : Int) + off = (tgt : Int)) (ha : inR a) (kt : 0 < a → W p l e R s m args below meth c H locs cells slots Q (F0 m tgt ls rest)) (kf : ¬ 0 < a → W p l e R s m args below meth c H locs cells slots Q (F0 m (pc + 3) ls rest)) : W p l e R s m args below meth c H locs cells slots Q (F0 m pc ls (.int (iI a) :: rest)) :=
  lv_if_gt S.1 S.2.1 hdg ht (fun h => kt ((iI_lt (by decide : inR 0) ha).mp (by rw [← iI_0]; exact h))) (fun h => kf ((not_congr (iI_lt (by decide : inR 0) ha)).mp (by rw [← iI_0]; exact h)))
theorem zv_icmp_le {a b : Int} {off : Int} {tgt : Nat} (S : CallFix p m c cc nL s args Ts own) (hdg : decode cc pc = .ok (.if_icmp .le off, 3)) (ht : (pc : Int) + off = (tgt : Int)) (ha : inR a) (hb : inR b) (kt : a ≤ b → W p l e R s m args below meth c H locs cells slots Q (F0 m tgt ls rest)) (kf : ¬ a ≤ b → W p l e R s m args below meth c H locs cells slots Q (F0 m (pc + 3) ls rest)) : W p l e R s m args below meth c H locs cells slots Q (F0 m pc ls (.int (iI b) :: .int (iI a) :: rest)) :=
  lv_icmp_le S.1 S.2.1 hdg ht (fun h => kt ((iI_le ha hb).mp h)) (fun h => kf ((not_congr (iI_le ha hb)).mp h))
theorem zv_if_le {a : Int} {off : Int} {tgt : Nat} (S : CallFix p m c cc nL s args Ts own) (hdg : decode cc pc = .ok (.ifCond .le off, 3)) (ht : (pc : Int) + off = (tgt : Int)) (ha : inR a) (kt : a ≤ 0 → W p l e R s m args below meth c H locs cells slots Q (F0 m tgt ls rest)) (kf : ¬ a ≤ 0 → W p l e R s m args below meth c H locs cells slots Q (F0 m (pc + 3) ls rest)) : W p l e R s m args below meth c H locs cells slots Q (F0 m pc ls (.int (iI a) :: rest)) :=
  lv_if_le S.1 S.2.1 hdg ht (fun h => kt ((iI_le ha (by decide : inR 0)).mp (by rw [← iI_0]; exact h))) (fun h => kf ((not_congr (iI_le ha (by decide : inR 0))).mp (by rw [← iI_0]; exact h)))
theorem zv_get {ref C : String} {T : u_T} {N ci index : Nat} {w : va_W} {a : Nat} (S : CallFix p m c cc nL s args Ts own) (hAM : AM X A s) (hH : Hold X A w H) (hin : ∀ w ∈ u_ws C T N, w ∈ Ts) (q0 : Nat) {fs : List Value} (he : w[q0]? = some (a, .inr (ci, fs))) (hc : vwCl[ci]? = some (C, T, N)) (k : Nat) (hk : k < N) (hlink : Cond.fieldLink own index ref (T k).2.1 (T k).2.2.1 ∈ Ts) (hsame : (T k).1 = ref) {v : Value} (hv : fs[k]? = some v) (hdg : decode cc pc = .ok (.getfield index, 3))
    (kk : W p l e R s m args below meth c H locs cells slots Q (F0 m (pc + 3) ls (v :: rest))) : W p l e R s m args below meth c H locs cells slots Q (F0 m pc ls (.ref a :: rest)) := by
  subst hsame
  exact va_get S.1 S.2.1 S.2.2.2.2 hin S.2.2.2.1 hAM.1 hH.1 q0 he hc k hk (S.2.2.2.2 _ hlink) (fun _ h => h) hv hdg kk
theorem zv_put {ref C : String} {T : u_T} {N ci index : Nat} {w w2 : va_W} {a : Nat} (S : CallFix p m c cc nL s args Ts own) (hAM : AM X A s) (hH : Hold X A w H) (hS : va_S A s.heap H locs) (hin : ∀ w ∈ u_ws C T N, w ∈ Ts) (ty0 : Nat → FieldType) (hty : ∀ k, k < N → parseFieldDescriptor (T k).2.2.1 = some (ty0 k)) (hnm : ∀ a, a < N → ∀ b, b < N → a ≠ b → (T a).2.1 ≠ (T b).2.1) (q0 : Nat) {fs : List Value} (he : w[q0]? = some (a, .inr (ci, fs))) (hc : vwCl[ci]? = some (C, T, N)) (k : Nat) (hk : k < N) (hlink : Cond.fieldLink own index ref (T k).2.1 (T k).2.2.1 ∈ Ts) (hsame : (T k).1 = ref) (hfin : (T k).2.2.2 = false) {v : Value} (hn : narrow (ty0 k) v = v) (hfit : fits (ty0 k) v = true) (hl : k < fs.length) (hw : w.set q0 (a, .inr (ci, fs.set k v)) = w2) (hdg : decode cc pc = .ok (.putfield index, 3))
    (kk : ∀ (H1 : Heap) (locs1 : List Loc), Hold X A w2 H1 → va_S A s.heap H1 locs1 → W p l e R s m args below meth c H1 locs1 cells slots Q (F0 m (pc + 3) ls rest)) : W p l e R s m args below meth c H locs cells slots Q (F0 m pc ls (v :: .ref a :: rest)) := by
  subst hsame; subst hw
  exact va_put S.1 S.2.1 S.2.2.2.2 hin ty0 hty hnm S.2.2.2.1 hAM.1 hH.1 hH.2 hS q0 he hc k hk (S.2.2.2.2 _ hlink) (fun _ h => h) hfin (hty k hk) hn hfit hl hdg (fun H1 locs1 h1 h2 h3 => kk H1 locs1 ⟨h1, h2⟩ h3)
theorem zv_iald {w : va_W} {a n : Nat} {g : Nat → Int} {i : Int} (S : CallFix p m c cc nL s args Ts own) (hAM : AM X A s) (hH : Hold X A w H) (q0 : Nat) (he : w[q0]? = some (ia X a n g)) (k : Nat) (hk : i = (k : Int)) (hlt : k < n) (hn : n < 2147483648) (hdg : decode cc pc = .ok (.iaload, 1))
    (kk : W p l e R s m args below meth c H locs cells slots Q (F0 m (pc + 1) ls (.int (iI (g k)) :: rest))) : W p l e R s m args below meth c H locs cells slots Q (F0 m pc ls (.int (iI i) :: .ref a :: rest)) := by
  subst hk
  refine va_iald S.1 S.2.1 hAM.1 hH.1 q0 0 he rfl (iI_in hlt hn) hdg ?_
  rw [iI_clamp (by omega)]
  exact kk
theorem zv_cald {w : va_W} {a n : Nat} {g : Nat → Int} {i : Int} (S : CallFix p m c cc nL s args Ts own) (hAM : AM X A s) (hH : Hold X A w H) (q0 : Nat) (he : w[q0]? = some (ca X a n g)) (k : Nat) (hk : i = (k : Int)) (hlt : k < n) (hn : n < 2147483648) (hdg : decode cc pc = .ok (.caload, 1))
    (kk : W p l e R s m args below meth c H locs cells slots Q (F0 m (pc + 1) ls (.int (iI (g k)) :: rest))) : W p l e R s m args below meth c H locs cells slots Q (F0 m pc ls (.int (iI i) :: .ref a :: rest)) := by
  subst hk
  refine va_cald S.1 S.2.1 hAM.1 hH.1 q0 1 he rfl (iI_in hlt hn) hdg ?_
  rw [iI_clamp (by omega)]
  exact kk
theorem zv_iast {w w2 : va_W} {a n : Nat} {g : Nat → Int} {i z : Int} (S : CallFix p m c cc nL s args Ts own) (hAM : AM X A s) (hH : Hold X A w H) (hS : va_S A s.heap H locs) (q0 : Nat) (he : w[q0]? = some (ia X a n g)) (k : Nat) (hk : i = (k : Int)) (hlt : k < n) (hn : n < 2147483648) (hw : w.set q0 (ia X a n (uI g k z)) = w2) (hdg : decode cc pc = .ok (.iastore, 1))
    (kk : ∀ (H1 : Heap) (locs1 : List Loc), Hold X A w2 H1 → va_S A s.heap H1 locs1 → W p l e R s m args below meth c H1 locs1 cells slots Q (F0 m (pc + 1) ls rest)) : W p l e R s m args below meth c H locs cells slots Q (F0 m pc ls (.int (iI z) :: .int (iI i) :: .ref a :: rest)) := by
  subst hk; subst hw
  refine va_iast S.1 S.2.1 hAM.1 hH.1 hH.2 hS q0 0 he rfl (iI_in hlt hn) hdg (fun H1 locs1 h1 h2 h3 => ?_)
  rw [iI_clamp (by omega), zA_upd] at h1 h2
  exact kk H1 locs1 ⟨h1, h2⟩ h3
/-! ===== calls ===== -/
theorem pre_at {w sr : List va_W} {av : List Value} {U : State} (hAM : AM X A s) (hA : ∀ q, s.heap.size ≤ q → A q) (hH : Hold X A (w.flatten ++ sr.flatten) H) (hS : va_S A s.heap H locs) (hU : U.heap = H) (hW : s.WarmedH U.vm) : va_Pc av (Pre X w H.size) av.toArray U :=
  ⟨rfl, by rw [hU], by rw [hU]; exact hH.left.true, hAM.at hS hU hW (hH.free hS hA)⟩
theorem recv_at {w : va_W} {a q0 ci : Nat} {q : vw_C} {fs : List Value} (hAM : AM X A s) (hH : Hold X A w H) (hc : vwCl[ci]? = some q) (he : w[q0]? = some (a, .inr (ci, fs))) : ∃ cell : Cell, H[a]? = some cell ∧ cell.vm.isStatics = false ∧ s.vm.findClass q.1 = some cell.cls := va_recv hAM.1 hH.1 hc he
theorem zr_i {S' : Type} {w sr : List va_W} {post : Int → S' → Prop} {w' : S' → List va_W} {mc ms : Nat} {st0 : List Value} {a : Array Value} (hA : ∀ q, s.heap.size ≤ q → A q) (hH : Hold X A (w.flatten ++ sr.flatten) H) (hS : va_S A s.heap H locs)
    (hr : va_Run p l e R s m args below meth c H locs cells slots mc ms (F0 m pc ls st0) rest (va_Qi (fun (r : Int32) (u : S') => ∃ z : Int, r = iI z ∧ post z u) (fun (u : S') (t : State) => Hold X (va_A w.flatten H.size) (w' u).flatten t.heap) (va_A w.flatten H.size) a) (va_A w.flatten H.size))
    (kk : ∀ (z : Int) (u : S') (H1 : Heap) (locs1 : List Loc), post z u → Hold X A (w' u ++ sr).flatten H1 → va_S A s.heap H1 locs1 → W p l e R s m args below meth c H1 locs1 (cells + mc) (slots + ms) Q (F0 m (pc + 3) ls (.int (iI z) :: rest))) : W p l e R s m args below meth c H locs cells slots Q (F0 m pc ls st0) := by
  refine va_calli hr hS (fun q _ h => hH.free hS hA q h) (hH.free hS hA) (fun r u t H1 locs1 ht hvm hw hB hz1 hk1 hS1 => ?_)
  obtain ⟨z, rfl, hp⟩ := hw
  rw [ht] at hB
  refine kk z u H1 locs1 hp ?_ hS1
  rw [List.flatten_append]
  exact hH.frame hk1 (hH.free hS hA) hB
theorem zr_v {S' : Type} {w sr : List va_W} {post : S' → Prop} {w' : S' → List va_W} {mc ms : Nat} {st0 : List Value} {a : Array Value} (hA : ∀ q, s.heap.size ≤ q → A q) (hH : Hold X A (w.flatten ++ sr.flatten) H) (hS : va_S A s.heap H locs)
    (hr : va_Run p l e R s m args below meth c H locs cells slots mc ms (F0 m pc ls st0) rest (va_Qv (fun (u : S') => post u) (fun (u : S') (t : State) => Hold X (va_A w.flatten H.size) (w' u).flatten t.heap) (va_A w.flatten H.size) a) (va_A w.flatten H.size))
    (kk : ∀ (u : S') (H1 : Heap) (locs1 : List Loc), post u → Hold X A (w' u ++ sr).flatten H1 → va_S A s.heap H1 locs1 → W p l e R s m args below meth c H1 locs1 (cells + mc) (slots + ms) Q (F0 m (pc + 3) ls rest)) : W p l e R s m args below meth c H locs cells slots Q (F0 m pc ls st0) := by
  refine va_callv hr hS (fun q _ h => hH.free hS hA q h) (hH.free hS hA) (fun u t H1 locs1 ht hvm hw hB hz1 hk1 hS1 => ?_)
  rw [ht] at hB
  refine kk u H1 locs1 hw ?_ hS1
  rw [List.flatten_append]
  exact hH.frame hk1 (hH.free hS hA) hB
theorem hold_cut {ss w sr : List va_W} (hH : Hold X A ss.flatten H) (is : List Nat) (his : is.filterMap (fun i => ss[i]?) = w ++ sr) (N0 : Nat) (hN0 : ss.length = N0) (hip : is.Perm (List.range N0)) : Hold X A (w.flatten ++ sr.flatten) H := by
  have h := hH.pick is his N0 hN0 hip
  rwa [List.flatten_append] at h
theorem zc_Vi {S' : Type} {y : MethodName} {ws ws' : List Cond} {bytes : ByteArray} {maxL index n : Nat} {ret : Option FieldType} {rm : Room} {As st0 : List Value} {ss w sr : List va_W} {w' : S' → List va_W} {post : Int → S' → Prop} {b : Nat} {C : String} {T : u_T} {N : Nat} {fs : List Value}  (S : CallFix p m c cc nL s args Ts own) (hAM : AM X A s) (hA : ∀ q, s.heap.size ≤ q → A q) (hC : Ci (S := S') l y ws rm X (.ref b :: As) w post w') (hw : ws = Cond.code y bytes maxL ret :: ws') (hG : GoodIn Ts (wsV own index C y ws)) (hd : y.cls = C ∧ y.cls ≠ "java/lang/invoke/MethodHandle" ∧ y.cls ≠ "java/lang/invoke/VarHandle" ∧ (parseMethodDescriptor y.desc).map (fun d => d.parameters.length) = some n) (hR : rm.frames + 1 ≤ R.frames ∧ 8 + (maxL + 11) + rm.locals ≤ R.locals)
    (hH : Hold X A ss.flatten H) (hS : va_S A s.heap H locs) (is : List Nat) (his : is.filterMap (fun i => ss[i]?) = w ++ sr) (N0 : Nat) (hN0 : ss.length = N0) (hip : is.Perm (List.range N0)) (ci q0 : Nat) (hrc : vwCl[ci]? = some (C, T, N)) (hre : (w.flatten ++ sr.flatten)[q0]? = some (b, .inr (ci, fs)))
    (hn : As.length = n) (hls : ls.size = nL) (hst0 : st0 = As.reverse ++ .ref b :: rest) (hrm : (rest.map fun v => v.category).sum ≤ 8) (hdg : decode cc pc = .ok (.invokevirtual index, 3)) (hf : cells + rm.cells ≤ R.cells ∧ slots + rm.slots ≤ R.slots)
    (kk : ∀ (z : Int) (u : S') (H1 : Heap) (locs1 : List Loc), post z u → Hold X A (w' u ++ sr).flatten H1 → va_S A s.heap H1 locs1 → W p l e R s m args below meth c H1 locs1 (cells + rm.cells) (slots + rm.slots) Q (F0 m (pc + 3) ls (.int (iI z) :: rest))) : W p l e R s m args below meth c H locs cells slots Q (F0 m pc ls st0) := by
  have hH2 := hold_cut hH is his N0 hN0 hip
  exact zr_i hA hH2 hS (va_runV S (hC H.size) (cwV n S.2.2.2.2 hG hw rfl rfl hd hR) ⟨Pre.blind, recv_at hAM hH2 hrc hre, fun U hU hW => pre_at hAM hA hH2 hS hU hW⟩ rfl hn hls hst0 (lv_room hrm) hdg hf) kk
theorem zc_Vv {S' : Type} {y : MethodName} {ws ws' : List Cond} {bytes : ByteArray} {maxL index n : Nat} {ret : Option FieldType} {rm : Room} {As st0 : List Value} {ss w sr : List va_W} {w' : S' → List va_W} {post : S' → Prop} {b : Nat} {C : String} {T : u_T} {N : Nat} {fs : List Value}  (S : CallFix p m c cc nL s args Ts own) (hAM : AM X A s) (hA : ∀ q, s.heap.size ≤ q → A q) (hC : Cv (S := S') l y ws rm X (.ref b :: As) w post w') (hw : ws = Cond.code y bytes maxL ret :: ws') (hG : GoodIn Ts (wsV own index C y ws)) (hd : y.cls = C ∧ y.cls ≠ "java/lang/invoke/MethodHandle" ∧ y.cls ≠ "java/lang/invoke/VarHandle" ∧ (parseMethodDescriptor y.desc).map (fun d => d.parameters.length) = some n) (hR : rm.frames + 1 ≤ R.frames ∧ 8 + (maxL + 11) + rm.locals ≤ R.locals)
    (hH : Hold X A ss.flatten H) (hS : va_S A s.heap H locs) (is : List Nat) (his : is.filterMap (fun i => ss[i]?) = w ++ sr) (N0 : Nat) (hN0 : ss.length = N0) (hip : is.Perm (List.range N0)) (ci q0 : Nat) (hrc : vwCl[ci]? = some (C, T, N)) (hre : (w.flatten ++ sr.flatten)[q0]? = some (b, .inr (ci, fs)))
    (hn : As.length = n) (hls : ls.size = nL) (hst0 : st0 = As.reverse ++ .ref b :: rest) (hrm : (rest.map fun v => v.category).sum ≤ 8) (hdg : decode cc pc = .ok (.invokevirtual index, 3)) (hf : cells + rm.cells ≤ R.cells ∧ slots + rm.slots ≤ R.slots)
    (kk : ∀ (u : S') (H1 : Heap) (locs1 : List Loc), post u → Hold X A (w' u ++ sr).flatten H1 → va_S A s.heap H1 locs1 → W p l e R s m args below meth c H1 locs1 (cells + rm.cells) (slots + rm.slots) Q (F0 m (pc + 3) ls rest)) : W p l e R s m args below meth c H locs cells slots Q (F0 m pc ls st0) := by
  have hH2 := hold_cut hH is his N0 hN0 hip
  exact zr_v hA hH2 hS (va_runV S (hC H.size) (cwV n S.2.2.2.2 hG hw rfl rfl hd hR) ⟨Pre.blind, recv_at hAM hH2 hrc hre, fun U hU hW => pre_at hAM hA hH2 hS hU hW⟩ rfl hn hls hst0 (lv_room hrm) hdg hf) kk
theorem zc_Si {S' : Type} {y : MethodName} {ws ws' : List Cond} {bytes : ByteArray} {maxL index n : Nat} {ret : Option FieldType} {rm : Room} {As st0 : List Value} {ss w sr : List va_W} {w' : S' → List va_W} {post : Int → S' → Prop}  (S : CallFix p m c cc nL s args Ts own) (hAM : AM X A s) (hA : ∀ q, s.heap.size ≤ q → A q) (hC : Ci (S := S') l y ws rm X As w post w') (hw : ws = Cond.code y bytes maxL ret :: ws') (hG : GoodIn Ts (va_wsS own index y ws)) (hd : y.cls ≠ "java/lang/invoke/MethodHandle" ∧ y.cls ≠ "java/lang/invoke/VarHandle" ∧ (parseMethodDescriptor y.desc).map (fun d => d.parameters.length) = some n) (hR : rm.frames + 1 ≤ R.frames ∧ 8 + (maxL + 11) + rm.locals ≤ R.locals)
    (hH : Hold X A ss.flatten H) (hS : va_S A s.heap H locs) (is : List Nat) (his : is.filterMap (fun i => ss[i]?) = w ++ sr) (N0 : Nat) (hN0 : ss.length = N0) (hip : is.Perm (List.range N0))
    (hn : As.length = n) (hls : ls.size = nL) (hst0 : st0 = As.reverse ++ rest) (hrm : (rest.map fun v => v.category).sum ≤ 8) (hdg : decode cc pc = .ok (.invokestatic index, 3)) (hf : cells + rm.cells ≤ R.cells ∧ slots + rm.slots ≤ R.slots)
    (kk : ∀ (z : Int) (u : S') (H1 : Heap) (locs1 : List Loc), post z u → Hold X A (w' u ++ sr).flatten H1 → va_S A s.heap H1 locs1 → W p l e R s m args below meth c H1 locs1 (cells + rm.cells) (slots + rm.slots) Q (F0 m (pc + 3) ls (.int (iI z) :: rest))) : W p l e R s m args below meth c H locs cells slots Q (F0 m pc ls st0) := by
  have hH2 := hold_cut hH is his N0 hN0 hip
  exact zr_i hA hH2 hS (va_runS S (hC H.size) (va_cwS n S.2.2.2.2 hG hw rfl rfl hd hR) ⟨Pre.blind, fun U hU hW => pre_at hAM hA hH2 hS hU hW⟩ rfl hn hls hst0 (lv_room hrm) hdg hf) kk
theorem zc_Sv {S' : Type} {y : MethodName} {ws ws' : List Cond} {bytes : ByteArray} {maxL index n : Nat} {ret : Option FieldType} {rm : Room} {As st0 : List Value} {ss w sr : List va_W} {w' : S' → List va_W} {post : S' → Prop}  (S : CallFix p m c cc nL s args Ts own) (hAM : AM X A s) (hA : ∀ q, s.heap.size ≤ q → A q) (hC : Cv (S := S') l y ws rm X As w post w') (hw : ws = Cond.code y bytes maxL ret :: ws') (hG : GoodIn Ts (va_wsS own index y ws)) (hd : y.cls ≠ "java/lang/invoke/MethodHandle" ∧ y.cls ≠ "java/lang/invoke/VarHandle" ∧ (parseMethodDescriptor y.desc).map (fun d => d.parameters.length) = some n) (hR : rm.frames + 1 ≤ R.frames ∧ 8 + (maxL + 11) + rm.locals ≤ R.locals)
    (hH : Hold X A ss.flatten H) (hS : va_S A s.heap H locs) (is : List Nat) (his : is.filterMap (fun i => ss[i]?) = w ++ sr) (N0 : Nat) (hN0 : ss.length = N0) (hip : is.Perm (List.range N0))
    (hn : As.length = n) (hls : ls.size = nL) (hst0 : st0 = As.reverse ++ rest) (hrm : (rest.map fun v => v.category).sum ≤ 8) (hdg : decode cc pc = .ok (.invokestatic index, 3)) (hf : cells + rm.cells ≤ R.cells ∧ slots + rm.slots ≤ R.slots)
    (kk : ∀ (u : S') (H1 : Heap) (locs1 : List Loc), post u → Hold X A (w' u ++ sr).flatten H1 → va_S A s.heap H1 locs1 → W p l e R s m args below meth c H1 locs1 (cells + rm.cells) (slots + rm.slots) Q (F0 m (pc + 3) ls rest)) : W p l e R s m args below meth c H locs cells slots Q (F0 m pc ls st0) := by
  have hH2 := hold_cut hH is his N0 hN0 hip
  exact zr_v hA hH2 hS (va_runS S (hC H.size) (va_cwS n S.2.2.2.2 hG hw rfl rfl hd hR) ⟨Pre.blind, fun U hU hW => pre_at hAM hA hH2 hS hU hW⟩ rfl hn hls hst0 (lv_room hrm) hdg hf) kk
theorem zc_Ni {S' : Type} {y : MethodName} {ws ws' : List Cond} {bytes : ByteArray} {maxL index n : Nat} {ret : Option FieldType} {rm : Room} {As st0 : List Value} {ss w sr : List va_W} {w' : S' → List va_W} {post : Int → S' → Prop} {host : String}  (S : CallFix p m c cc nL s args Ts own) (hAM : AM X A s) (hA : ∀ q, s.heap.size ≤ q → A q) (hC : Ci (S := S') l y ws rm X As w post w') (hw : ws = Cond.code y bytes maxL ret :: ws') (hG : GoodIn Ts ws) (hnw : va_Nw (.methodLinkNest own index y host) s) (hini : Cond.initialized y.cls ∈ Ts) (hst : Cond.static y ∈ Ts) (hd : y.cls ≠ "java/lang/invoke/MethodHandle" ∧ y.cls ≠ "java/lang/invoke/VarHandle" ∧ (parseMethodDescriptor y.desc).map (fun d => d.parameters.length) = some n) (hR : rm.frames + 1 ≤ R.frames ∧ 8 + (maxL + 11) + rm.locals ≤ R.locals)
    (hH : Hold X A ss.flatten H) (hS : va_S A s.heap H locs) (is : List Nat) (his : is.filterMap (fun i => ss[i]?) = w ++ sr) (N0 : Nat) (hN0 : ss.length = N0) (hip : is.Perm (List.range N0))
    (hn : As.length = n) (hls : ls.size = nL) (hst0 : st0 = As.reverse ++ rest) (hrm : (rest.map fun v => v.category).sum ≤ 8) (hdg : decode cc pc = .ok (.invokestatic index, 3)) (hf : cells + rm.cells ≤ R.cells ∧ slots + rm.slots ≤ R.slots)
    (kk : ∀ (z : Int) (u : S') (H1 : Heap) (locs1 : List Loc), post z u → Hold X A (w' u ++ sr).flatten H1 → va_S A s.heap H1 locs1 → W p l e R s m args below meth c H1 locs1 (cells + rm.cells) (slots + rm.slots) Q (F0 m (pc + 3) ls (.int (iI z) :: rest))) : W p l e R s m args below meth c H locs cells slots Q (F0 m pc ls st0) := by
  have hH2 := hold_cut hH is his N0 hN0 hip
  exact zr_i hA hH2 hS (va_runSN (host := host) S (hC H.size) ⟨va_cnB n S.2.2.2.2 hG hw rfl rfl hnw (S.2.2.2.2 _ hini) hd hR, S.2.2.2.2 _ hst, trivial⟩ ⟨Pre.blind, fun U hU hW => pre_at hAM hA hH2 hS hU hW⟩ rfl hn hls hst0 (lv_room hrm) hdg hf) kk
end ZV
