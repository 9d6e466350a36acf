/-! ===== new int[8][8] ===== -/
def mkF (L : List (Nat → Nat)) : Nat → Nat → Nat := fun i => L.getD i (fun _ => 0)
theorem cell_arrV {cl : Cell} {c : ClassId} {N : Nat} {f : Nat → Value} (h1 : cl.cls = c) (h2 : cl.vm = .none) (h5 : cl.monitor = {}) (h6 : cl.hash = none) (h3 : cl.slots.size = N) (h4 : ∀ j, j < N → cl.slots[j]? = some (f j)) : cl = arrV c N f := by
  have hs : cl.slots = Array.ofFn (n := N) fun j => f j.val := by
    subst h3
    apply Array.ext
    · simp
    · intro i hi _
      have := h4 i hi
      rw [Array.getElem?_eq_getElem hi] at this
      simpa using Option.some.inj this
  clear h4 h3
  cases cl
  dsimp only at h1 h2 h5 h6 hs
  subst h1; subst h2; subst h5; subst h6; subst hs
  rfl
theorem outerC_mh (c : ClassId) (N h : Nat) : ∀ i, (Jvm.Free.Multi.outerC c N h i).monitor = {} ∧ (Jvm.Free.Multi.outerC c N h i).hash = none
  | 0 => ⟨rfl, rfl⟩
  | i + 1 => outerC_mh c N h i
section ZM
variable {p : Program} {l : Launch} {e : Env} {R : Room} {s : State} {m : MethodId} {args : Array Value} {below : List Frame} {meth : Method} {c : Code} {H : Heap} {locs : List Loc} {cells slots : Nat} {Q : State → Prop}
variable {cc : ByteArray} {pc nL : Nat} {ls : Array Slot} {rest : List Value} {X : XT} {A : Nat → Prop} {Ts : List Cond} {own : String}
theorem zv_multi {w : va_W} {index : Nat} (S : CallFix p m c cc nL s args Ts own) (hAM : AM X A s) (hH : Hold X A w H) (hS : va_S A s.heap H locs) (hA : ∀ q, s.heap.size ≤ q → A q) (hm1 : Cond.classLink own index "[[I" ∈ Ts) (hm2 : Cond.arrayClass .int ∈ Ts) (hcells : cells + 9 ≤ R.cells) (hslots : slots + 72 ≤ R.slots) (hdg : decode cc pc = .ok (.multianewarray index 2, 4))
    (kk : ∀ (q : Nat) (H1 : Heap), Hold X A (w ++ tbW X q (fun j => q + 1 + j) (fun _ => z0)) H1 → va_S A s.heap H1 locs → W p l e R s m args below meth c H1 locs (cells + 9) (slots + 72) Q (F0 m (pc + 4) ls (.ref q :: rest))) : W p l e R s m args below meth c H locs cells slots Q (F0 m pc ls (.int (iI ((8 : Nat) : Int)) :: .int (iI ((8 : Nat) : Int)) :: rest)) := by
  intro T hT XT0
  have hcl : (Cond.classLink own index ("[" ++ (FieldType.array .int).toString)).before args s = true := S.2.2.2.2 _ hm1
  have hov : (Cond.arrayOver (.array .int)).before args s = true := Jvm.Stand.arrayOver_alikeB (Vm.Alike.refl s.vm) hAM.2.1.2.2.2.2.2.2.2
  have c8 : (iI ((8 : Nat) : Int)).toNatClampNeg = 8 := by decide
  obtain ⟨vm₁, cA, comp, hW, hfA, hfC, hO, hI, X1, st⟩ := XT0.multianewarray2F S.1 (own := own) (index := index) (ty := .int) S.2.2.2.1 hcl hov (S.2.2.2.2 _ hm2) (g := F0 m pc ls (.int (iI ((8 : Nat) : Int)) :: .int (iI ((8 : Nat) : Int)) :: rest)) rfl (by rw [S.2.1]; exact hdg) rfl (by decide) (by decide) (by decide) (by decide) (by decide) rfl rfl (by rw [c8]; omega) (by rw [c8]; omega)
  rw [c8] at X1 st
  have hc9 : cells + 1 + 8 = cells + 9 := by omega
  have hs9 : slots + 8 + 8 * 8 = slots + 72 := by omega
  rw [hc9, hs9] at X1
  subst hT
  obtain ⟨f1, f2, -, -⟩ := Jvm.Free.Multi.fill_facts (T.setVm vm₁) cA comp 8 8 (defaultValue .int) 8
  have fo := fun (a : Addr) (ha : a < T.heap.size) => Jvm.Free.Multi.fill_old (T.setVm vm₁) cA comp 8 8 (defaultValue .int) (a := a) ha 8
  have fi := fun (j : Nat) (hj : j < 8) => Jvm.Free.Multi.fill_inner (T.setVm vm₁) cA comp 8 8 (defaultValue .int) 8 j hj
  obtain ⟨o1, o2, o3⟩ := Jvm.Free.Multi.outerC_facts cA 8 T.heap.size 8
  have os := fun (j : Nat) (hj : j < 8) => Jvm.Free.Multi.outerC_slot cA 8 T.heap.size 8 j hj
  have eA : cA = X.2.1 3 := Option.some.inj (hfA.symm.trans (hAM.1.2 3 (X.2.1 3, .array .int) rfl).2)
  have eC : comp = X.2.1 0 := Option.some.inj (hfC.symm.trans (hAM.1.2 0 (X.2.1 0, .int) rfl).2)
  subst eA; subst eC
  generalize hF : Jvm.Free.Multi.fill (T.setVm vm₁) (X.2.1 3) (X.2.1 0) 8 8 (defaultValue .int) 8 = F at *
  have f1 : F.heap.size = T.heap.size + 9 := f1
  have f2 : F.heap[T.heap.size]? = some (Jvm.Free.Multi.outerC (X.2.1 3) 8 T.heap.size 8) := f2
  have fo : ∀ a : Nat, a < T.heap.size → F.heap[a]? = T.heap[a]? := fo
  have fi : ∀ j : Nat, j < 8 → F.heap[T.heap.size + 1 + j]? = some (Jvm.Free.Multi.innerC (X.2.1 0) 8 (defaultValue .int)) := fi
  have hout : Jvm.Free.Multi.outerC (X.2.1 3) 8 T.heap.size 8 = arrV (X.2.1 3) 8 (fun j => va_rf (some (T.heap.size + 1 + j))) := cell_arrV o1 o2 (outerC_mh _ _ _ _).1 (outerC_mh _ _ _ _).2 o3 (fun j hj => by rw [os j hj, if_pos hj]; rfl)
  have hinn : Jvm.Free.Multi.innerC (X.2.1 0) 8 (defaultValue .int) = arrV (X.2.1 0) 8 (fun j => .int (zA z0 j)) := cell_arrV rfl rfl rfl rfl (by simp [Jvm.Free.Multi.innerC]) (fun j hj => by
    show (Array.replicate 8 (defaultValue .int))[j]? = some (.int (zA z0 j))
    rw [Array.getElem?_replicate, if_pos hj]
    rfl)
  rw [hout] at f2
  have fi2 : ∀ j : Nat, j < 8 → F.heap[T.heap.size + 1 + j]? = some (arrV (X.2.1 0) 8 (fun j => .int (zA z0 j))) := fun j hj => (fi j hj).trans (congrArg some hinn)
  have hP := va_P_iff.mp hH.1
  have hD := va_D_iff.mp hH.2
  have hold : Hold X A (w ++ tbW X T.heap.size (fun j => T.heap.size + 1 + j) (fun _ => z0)) F.heap := by
    refine ⟨va_P_iff.mpr (fun q hq => ?_), va_D_iff.mpr ⟨?_, fun q hq => ?_⟩⟩
    · rcases List.mem_append.mp hq with h | h
      · exact (hP q h).kept (fo _ (hP q h).lt)
      · simp only [List.mem_cons, List.not_mem_nil, or_false] at h
        rcases h with rfl | rfl | rfl | rfl | rfl | rfl | rfl | rfl | rfl
        · exact f2
        · exact fi2 0 (by decide)
        · exact fi2 1 (by decide)
        · exact fi2 2 (by decide)
        · exact fi2 3 (by decide)
        · exact fi2 4 (by decide)
        · exact fi2 5 (by decide)
        · exact fi2 6 (by decide)
        · exact fi2 7 (by decide)
    · rw [List.map_append, List.nodup_append]
      refine ⟨hD.1, by simp; omega, fun a ha b hb z => ?_⟩
      obtain ⟨x, hx, rfl⟩ := List.mem_map.mp ha
      have hl := (hP x hx).lt
      simp only [List.map_cons, List.map_nil, List.mem_cons, List.not_mem_nil, or_false] at hb
      omega
    · rcases List.mem_append.mp hq with h | h
      · exact hD.2 q h
      · have hs1 := hS.1
        simp only [List.mem_cons, List.not_mem_nil, or_false] at h
        refine hA _ ?_
        rcases h with rfl | rfl | rfl | rfl | rfl | rfl | rfl | rfl | rfl <;> (dsimp only; omega)
  obtain ⟨t, a1, b1⟩ := kk T.heap.size F.heap hold ⟨Nat.le_trans hS.1 (by omega), fun x h1 h2 => (fo x (Nat.lt_of_lt_of_le h1 hS.1)).trans (hS.2.1 x h1 h2), hS.2.2⟩ F rfl X1
  exact ⟨t, st t a1, b1⟩
end ZM
