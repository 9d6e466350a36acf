theorem mX0_dismissAll_1 : Cond.fieldLink RX0 15 "RoleDoublingPlanner$Casting" "rolesOfActor" "[I" ∈ wsX0_dismissAll := List.mem_of_getElem? (i := 1) rfl
theorem nX0_dismissAll_X0 : ∀ w ∈ wsX00, w ∈ wsX0_dismissAll := fun _ h => List.mem_cons_of_mem _ (List.mem_append_right _ h)
set_option maxHeartbeats 4000000 in
set_option maxRecDepth 100000 in
theorem kX0_dismissAll (l : Launch) (X : XT) (qc : Nat) (Qc : Nat → Nat) (n : Nat) (M : Nat → Nat) (riv : Nat → Int) (roa : Nat → Int)  : Cv l yX0_dismissAll wsX0_dismissAll (rmD 1) X [.ref qc] [caW qc Qc ((n : Nat) : Int), aW X (Qc 0) 8 riv, aW X (Qc 1) 8 roa] (fun (roa2 : Nat → Int) => ∀ x, x < 8 → roa2 x = 0) (fun (roa2 : Nat → Int) => [caW qc Qc ((n : Nat) : Int), aW X (Qc 0) 8 riv, aW X (Qc 1) 8 roa2]) := by
  refine Cv.ofW (cc := cX0_dismissAll) (maxL := 2) (by decide) rfl (Nat.le_of_ble_eq_true rfl) ?_
  intro p_ e_ s_ m_ below meth c_ A Q_ S hA hAM hH hS hmn hret ls hl
  have hl : lv_has ls 2 [(0, .ref (qc))] := hl
  refine lv_iconst (v := iI (((0 : Nat) : Int))) S.1 S.2.1 dX0_dismissAll_0 (by decide) ?_
  refine lv_istore_n (lv' := [(1, .int (iI ((0 : Nat) : Int))), (0, .ref (qc))]) S.1 S.2.1 dX0_dismissAll_1 rfl hl (by decide) rfl (fun ls hl => ?_)
  have lp2 : ∀ (fu_ : Nat) (k : Nat) (roa1 : Nat → Int), 8 - k < fu_ → (k ≤ 8) → (∀ x, x < k → roa1 x = 0) → ∀ (H : Heap) (locs : List Loc), Hold X A [caW qc Qc ((n : Nat) : Int), aW X (Qc 0) 8 riv, aW X (Qc 1) 8 roa1].flatten H → va_S A s_.heap H locs → ∀ ls : Array Slot, lv_has ls 2 [(1, .int (iI ((k : Nat) : Int))), (0, .ref (qc))] → W p_ l e_ (rmD 1) s_ m_ (List.toArray [.ref (qc)]) below meth c_ H locs 0 0 Q_ (F0 m_ 2 ls []) := by
    intro fu_
    induction fu_ with
    | zero => intro k roa1 hmu hk hz H locs hH hS ls hl; exact absurd hmu (Nat.not_lt_zero _)
    | succ fu_ ih2 => 
      intro k roa1 hmu hk hz H locs hH hS ls hl
      refine lv_iload_n S.1 S.2.1 dX0_dismissAll_2 rfl (lv_at hl 0 rfl) ?_
      refine lv_bipush (v := iI (((8 : Nat) : Int))) S.1 S.2.1 dX0_dismissAll_3 (by decide) ?_
      refine zv_icmp_ge (tgt := 21) S dX0_dismissAll_5 (by decide) (by omega) (by decide) (fun c_5 => ?_) (fun c_5 => ?_)
      · skip
        exact hret 21 ls _ _ roa1 dX0_dismissAll_21 (fun x hx => hz x (by omega)) hH hS
      · skip
        refine lv_aload_n S.1 S.2.1 dX0_dismissAll_8 rfl (lv_at hl 1 rfl) ?_
        refine zv_get (v := .ref (Qc 1)) S hAM hH nX0_dismissAll_X0 0 rfl rfl 2 (by decide) mX0_dismissAll_1 rfl rfl dX0_dismissAll_9 ?_
        refine lv_iload_n S.1 S.2.1 dX0_dismissAll_12 rfl (lv_at hl 0 rfl) ?_
        refine lv_iconst (v := iI (((0 : Nat) : Int))) S.1 S.2.1 dX0_dismissAll_13 (by decide) ?_
        refine zv_iast (z := ((0 : Nat) : Int)) (w2 := [caW qc Qc ((n : Nat) : Int), aW X (Qc 0) 8 riv, aW X (Qc 1) 8 (uI roa1 k (((0 : Nat) : Int)))].flatten) S hAM hH hS 2 rfl (k) rfl (by omega) (by decide) rfl dX0_dismissAll_14 (fun H locs hH hS => ?_)
        refine zv_iinc (z := (((k + 1) : Nat) : Int)) (lv' := [(1, .int (iI (((k + 1) : Nat) : Int))), (0, .ref (qc))]) S dX0_dismissAll_15 hl (k := 0) rfl (by omega) (by decide) rfl (fun ls hl => ?_)
        refine lv_goto (tgt := 2) S.1 S.2.1 dX0_dismissAll_18 (by decide) ?_
        exact ih2  ((k + 1)) (uI roa1 k (((0 : Nat) : Int))) (by omega) (by omega) (fun x hx => by by_cases e : x = k; (· rw [e, uI_s]; rfl); (· rw [uI_n e]; exact hz x (by omega))) _ _ hH hS ls (lv_sub hl [0, 1] rfl)
  exact lp2 (8 - (0) + 1) (0) (roa) (Nat.lt_succ_self _) (Nat.zero_le _) (fun x hx => absurd hx (Nat.not_lt_zero _)) _ _ hH hS ls (lv_sub hl [0, 1] rfl)

theorem mX0_isFree_1 : Cond.fieldLink RX0 15 "RoleDoublingPlanner$Casting" "rolesOfActor" "[I" ∈ wsX0_isFree := List.mem_of_getElem? (i := 1) rfl
theorem nX0_isFree_X0 : ∀ w ∈ wsX00, w ∈ wsX0_isFree := fun _ h => List.mem_cons_of_mem _ (List.mem_append_right _ h)
theorem mX0_isFree_2 : Cond.fieldLink RX0 9 "RoleDoublingPlanner$Casting" "rivals" "[I" ∈ wsX0_isFree := List.mem_of_getElem? (i := 2) rfl
set_option maxHeartbeats 4000000 in
set_option maxRecDepth 100000 in
theorem kX0_isFree (l : Launch) (X : XT) (qc : Nat) (Qc : Nat → Nat) (n : Nat) (M : Nat → Nat) (riv : Nat → Int) (roa : Nat → Int) (B : Nat → Nat) (a : Nat) (r : Nat) (hn : n ≤ 8) (hM : ∀ k, k < n → riv k = ((M k : Nat) : Int) ∧ M k < 256) (hB : ∀ x, x < 8 → roa x = ((B x : Nat) : Int)) (ha : a < 8) (hr : r < n) : Ci l yX0_isFree wsX0_isFree (rmD 1) X [.ref qc, .int (iI ((a : Nat) : Int)), .int (iI ((r : Nat) : Int))] [caW qc Qc ((n : Nat) : Int), aW X (Qc 0) 8 riv, aW X (Qc 1) 8 roa] (fun (z : Int) (_ : Unit) => (z = 1 ∧ (B a &&& M r = 0)) ∨ (z = 0 ∧ ¬ (B a &&& M r = 0))) (fun (_ : Unit) => [caW qc Qc ((n : Nat) : Int), aW X (Qc 0) 8 riv, aW X (Qc 1) 8 roa]) := by
  refine Ci.ofW (cc := cX0_isFree) (maxL := 3) (by decide) rfl (Nat.le_of_ble_eq_true rfl) ?_
  intro p_ e_ s_ m_ below meth c_ A Q_ S hA hAM hH hS hret ls hl
  have hl : lv_has ls 3 [(0, .ref (qc)), (1, .int (iI ((a : Nat) : Int))), (2, .int (iI ((r : Nat) : Int)))] := hl
  refine lv_aload_n S.1 S.2.1 dX0_isFree_0 rfl (lv_at hl 0 rfl) ?_
  refine zv_get (v := .ref (Qc 1)) S hAM hH nX0_isFree_X0 0 rfl rfl 2 (by decide) mX0_isFree_1 rfl rfl dX0_isFree_1 ?_
  refine lv_iload_n S.1 S.2.1 dX0_isFree_4 rfl (lv_at hl 1 rfl) ?_
  refine zv_iald S hAM hH 2 rfl (a) rfl (by omega) (by decide) dX0_isFree_5 ?_
  refine zv_top (z := roa a) (z2 := ((B a : Nat) : Int)) (hB a (by omega)) ?_
  refine lv_aload_n S.1 S.2.1 dX0_isFree_6 rfl (lv_at hl 0 rfl) ?_
  refine zv_get (v := .ref (Qc 0)) S hAM hH nX0_isFree_X0 0 rfl rfl 1 (by decide) mX0_isFree_2 rfl rfl dX0_isFree_7 ?_
  refine lv_iload_n S.1 S.2.1 dX0_isFree_10 rfl (lv_at hl 2 rfl) ?_
  refine zv_iald S hAM hH 1 rfl (r) rfl (by omega) (by decide) dX0_isFree_11 ?_
  refine zv_top (z := riv r) (z2 := ((M r : Nat) : Int)) (hM r (by omega)).1 ?_
  refine zv_iand (z := (((B a &&& M r) : Nat) : Int)) S dX0_isFree_12 (iI_and _ _) ?_
  refine zv_if_ne (tgt := 20) S dX0_isFree_13 (by decide) (by have h9 : B a &&& M r ≤ M r := Nat.and_le_right; have := (hM r hr).2; omega) (fun c_13 => ?_) (fun c_13 => ?_)
  · skip
    refine lv_iconst (v := iI (((0 : Nat) : Int))) S.1 S.2.1 dX0_isFree_20 (by decide) ?_
    exact hret 21 ls _ _ (((0 : Nat) : Int)) () dX0_isFree_21 rfl (by first | exact Or.inl ⟨rfl, by omega⟩ | exact Or.inr ⟨rfl, by omega⟩) hH hS
  · skip
    refine lv_iconst (v := iI (((1 : Nat) : Int))) S.1 S.2.1 dX0_isFree_16 (by decide) ?_
    refine lv_goto (tgt := 21) S.1 S.2.1 dX0_isFree_17 (by decide) ?_
    exact hret 21 ls _ _ (((1 : Nat) : Int)) () dX0_isFree_21 rfl (by first | exact Or.inl ⟨rfl, by omega⟩ | exact Or.inr ⟨rfl, by omega⟩) hH hS

theorem mX0_castFrom_1 : Cond.fieldLink RX0 30 "RoleDoublingPlanner$Casting" "roles" "I" ∈ wsX0_castFrom := List.mem_of_getElem? (i := 1) rfl
theorem nX0_castFrom_X0 : ∀ w ∈ wsX00, w ∈ wsX0_castFrom := fun _ h => List.mem_cons_of_mem _ (List.mem_append_right _ h)
set_option maxHeartbeats 4000000 in
set_option maxRecDepth 100000 in
theorem kX0_cf0 (l : Launch) (X : XT) (qc : Nat) (Qc : Nat → Nat) (n : Nat) (M : Nat → Nat) (riv : Nat → Int) (roa : Nat → Int) (K : Nat) (r : Nat) (u : Nat) (g : Nat → Int) (hn : n ≤ 8) (hM : ∀ k, k < n → riv k = ((M k : Nat) : Int) ∧ M k < 256) (hrd : r + 0 = n) (hK : K ≤ 8) (hu : u ≤ 8) (hB : ∀ x, x < 8 → roa x = ((bm g x r : Nat) : Int)) : Ci l yX0_castFrom wsX0_castFrom (rmD 2) X [.ref (qc), .int (iI ((r : Nat) : Int)), .int (iI ((u : Nat) : Int)), .int (iI ((K : Nat) : Int))] [caW qc Qc ((n : Nat) : Int), aW X (Qc 0) 8 riv, aW X (Qc 1) 8 roa] (fun (z : Int) (roa2 : Nat → Int) => (z = 1 ∧ (∃ g2, ps M n K 0 g u = some g2 ∧ ∀ x, x < 8 → roa2 x = ((bm g2 x n : Nat) : Int))) ∨ (z = 0 ∧ (ps M n K 0 g u = none ∧ ∀ x, x < 8 → roa2 x = ((bm g x r : Nat) : Int)))) (fun (roa2 : Nat → Int) => [caW qc Qc ((n : Nat) : Int), aW X (Qc 0) 8 riv, aW X (Qc 1) 8 roa2]) := by
  refine Ci.ofW (cc := cX0_castFrom) (maxL := 5) (by decide) rfl (Nat.le_of_ble_eq_true rfl) ?_
  intro p_ e_ s_ m_ below meth c_ A Q_ S hA hAM hH hS hret ls hl
  have hl : lv_has ls 5 [(0, .ref (qc)), (1, .int (iI ((r : Nat) : Int))), (2, .int (iI ((u : Nat) : Int))), (3, .int (iI ((K : Nat) : Int)))] := hl
  refine lv_iload_n S.1 S.2.1 dX0_castFrom_0 rfl (lv_at hl 1 rfl) ?_
  refine lv_aload_n S.1 S.2.1 dX0_castFrom_1 rfl (lv_at hl 0 rfl) ?_
  refine zv_get (v := .int (iI ((n : Nat) : Int))) S hAM hH nX0_castFrom_X0 0 rfl rfl 0 (by decide) mX0_castFrom_1 rfl rfl dX0_castFrom_2 ?_
  refine zv_icmp_ge (tgt := 14) S dX0_castFrom_5 (by decide) (by omega) (by omega) (fun c_5 => ?_) (fun c_5 => ?_)
  · skip
    refine lv_iconst (v := iI (((1 : Nat) : Int))) S.1 S.2.1 dX0_castFrom_14 (by decide) ?_
    exact hret 15 ls _ _ (((1 : Nat) : Int)) roa dX0_castFrom_15 rfl (Or.inl ⟨rfl, g, rfl, (by have e9 : r = n := (by omega); rw [← e9]; exact hB)⟩) hH hS
  · exact (show False by omega).elim

theorem mX0_castFrom_2 : Cond.fieldLink RX0 15 "RoleDoublingPlanner$Casting" "rolesOfActor" "[I" ∈ wsX0_castFrom := List.mem_of_getElem? (i := 2) rfl
theorem mX0_castFrom_3 : Cond.methodLink RX0 56 Lib.Math.max.name ∈ wsX0_castFrom := List.mem_of_getElem? (i := 3) rfl
theorem mX0_castFrom_4 : Cond.static Lib.Math.max.name ∈ wsX0_castFrom := List.mem_of_getElem? (i := 4) rfl
theorem mX0_castFrom_5 : Cond.initialized "java/lang/Math" ∈ wsX0_castFrom := List.mem_of_getElem? (i := 5) rfl
theorem mX0_castFrom_6 : Cond.code Lib.Math.max.name Lib.Math.max.code 2 (some .int) ∈ wsX0_castFrom := List.mem_of_getElem? (i := 6) rfl
set_option maxHeartbeats 4000000 in
set_option maxRecDepth 100000 in
theorem kX0_cf1 (l : Launch) (X : XT) (qc : Nat) (Qc : Nat → Nat) (n : Nat) (M : Nat → Nat) (riv : Nat → Int) (roa : Nat → Int) (K : Nat) (r : Nat) (u : Nat) (g : Nat → Int) (hn : n ≤ 8) (hM : ∀ k, k < n → riv k = ((M k : Nat) : Int) ∧ M k < 256) (hrd : r + 1 = n) (hK : K ≤ 8) (hu : u ≤ 8) (hB : ∀ x, x < 8 → roa x = ((bm g x r : Nat) : Int)) : Ci l yX0_castFrom wsX0_castFrom (rmD 3) X [.ref (qc), .int (iI ((r : Nat) : Int)), .int (iI ((u : Nat) : Int)), .int (iI ((K : Nat) : Int))] [caW qc Qc ((n : Nat) : Int), aW X (Qc 0) 8 riv, aW X (Qc 1) 8 roa] (fun (z : Int) (roa2 : Nat → Int) => (z = 1 ∧ (∃ g2, ps M n K 1 g u = some g2 ∧ ∀ x, x < 8 → roa2 x = ((bm g2 x n : Nat) : Int))) ∨ (z = 0 ∧ (ps M n K 1 g u = none ∧ ∀ x, x < 8 → roa2 x = ((bm g x r : Nat) : Int)))) (fun (roa2 : Nat → Int) => [caW qc Qc ((n : Nat) : Int), aW X (Qc 0) 8 riv, aW X (Qc 1) 8 roa2]) := by
  refine Ci.ofW (cc := cX0_castFrom) (maxL := 5) (by decide) rfl (Nat.le_of_ble_eq_true rfl) ?_
  intro p_ e_ s_ m_ below meth c_ A Q_ S hA hAM hH hS hret ls hl
  have hl : lv_has ls 5 [(0, .ref (qc)), (1, .int (iI ((r : Nat) : Int))), (2, .int (iI ((u : Nat) : Int))), (3, .int (iI ((K : Nat) : Int)))] := hl
  refine lv_iload_n S.1 S.2.1 dX0_castFrom_0 rfl (lv_at hl 1 rfl) ?_
  refine lv_aload_n S.1 S.2.1 dX0_castFrom_1 rfl (lv_at hl 0 rfl) ?_
  refine zv_get (v := .int (iI ((n : Nat) : Int))) S hAM hH nX0_castFrom_X0 0 rfl rfl 0 (by decide) mX0_castFrom_1 rfl rfl dX0_castFrom_2 ?_
  refine zv_icmp_ge (tgt := 14) S dX0_castFrom_5 (by decide) (by omega) (by omega) (fun c_5 => ?_) (fun c_5 => ?_)
  · exact (show False by omega).elim
  · skip
    refine lv_iload_n S.1 S.2.1 dX0_castFrom_8 rfl (lv_at hl 1 rfl) ?_
    refine lv_bipush (v := iI (((8 : Nat) : Int))) S.1 S.2.1 dX0_castFrom_9 (by decide) ?_
    refine zv_icmp_lt (tgt := 16) S dX0_castFrom_11 (by decide) (by omega) (by decide) (fun c_11 => ?_) (fun c_11 => ?_)
    · skip
      refine lv_iconst (v := iI (((0 : Nat) : Int))) S.1 S.2.1 dX0_castFrom_16 (by decide) ?_
      refine lv_istore (lv' := [(4, .int (iI ((0 : Nat) : Int))), (0, .ref (qc)), (1, .int (iI ((r : Nat) : Int))), (2, .int (iI ((u : Nat) : Int))), (3, .int (iI ((K : Nat) : Int)))]) S.1 S.2.1 dX0_castFrom_17 hl (by decide) rfl (fun ls hl => ?_)
      have lp19 : ∀ (fu_ : Nat) (a : Nat) (roa1 : Nat → Int), min (u + 1) K - a < fu_ → (a ≤ min (u + 1) K) → (∀ x, x < 8 → roa1 x = ((bm g x r : Nat) : Int)) → (ps M n K 1 g u = trF M r (min (u + 1) K) (fun g' => ps M n K 0 g' (max u ((g' r).toNat + 1))) g (min (u + 1) K - a)) → ∀ (H : Heap) (locs : List Loc), Hold X A [caW qc Qc ((n : Nat) : Int), aW X (Qc 0) 8 riv, aW X (Qc 1) 8 roa1].flatten H → va_S A s_.heap H locs → ∀ ls : Array Slot, lv_has ls 5 [(4, .int (iI ((a : Nat) : Int))), (0, .ref (qc)), (1, .int (iI ((r : Nat) : Int))), (2, .int (iI ((u : Nat) : Int))), (3, .int (iI ((K : Nat) : Int)))] → W p_ l e_ (rmD 3) s_ m_ (List.toArray [.ref (qc), .int (iI ((r : Nat) : Int)), .int (iI ((u : Nat) : Int)), .int (iI ((K : Nat) : Int))]) below meth c_ H locs 0 0 Q_ (F0 m_ 19 ls []) := by
        intro fu_
        induction fu_ with
        | zero => intro a roa1 hmu ha hB hps H locs hH hS ls hl; exact absurd hmu (Nat.not_lt_zero _)
        | succ fu_ ih19 => 
          intro a roa1 hmu ha hB hps H locs hH hS ls hl
          refine lv_iload S.1 S.2.1 dX0_castFrom_19 (lv_at hl 0 rfl) ?_
          refine lv_iload_n S.1 S.2.1 dX0_castFrom_21 rfl (lv_at hl 3 rfl) ?_
          refine zv_icmp_gt (tgt := 96) S dX0_castFrom_22 (by decide) (by omega) (by omega) (fun c_22 => ?_) (fun c_22 => ?_)
          · skip
            refine lv_iconst (v := iI (((0 : Nat) : Int))) S.1 S.2.1 dX0_castFrom_96 (by decide) ?_
            exact hret 97 ls _ _ (((0 : Nat) : Int)) roa1 dX0_castFrom_97 rfl (Or.inr ⟨rfl, hps.trans (tra_end (by omega)), hB⟩) hH hS
          · skip
            refine lv_iload S.1 S.2.1 dX0_castFrom_25 (lv_at hl 0 rfl) ?_
            refine lv_iload_n S.1 S.2.1 dX0_castFrom_27 rfl (lv_at hl 4 rfl) ?_
            refine zv_icmp_ge (tgt := 96) S dX0_castFrom_28 (by decide) (by omega) (by omega) (fun c_28 => ?_) (fun c_28 => ?_)
            · skip
              refine lv_iconst (v := iI (((0 : Nat) : Int))) S.1 S.2.1 dX0_castFrom_96 (by decide) ?_
              exact hret 97 ls _ _ (((0 : Nat) : Int)) roa1 dX0_castFrom_97 rfl (Or.inr ⟨rfl, hps.trans (tra_end (by omega)), hB⟩) hH hS
            · skip
              refine lv_aload_n S.1 S.2.1 dX0_castFrom_31 rfl (lv_at hl 1 rfl) ?_
              refine lv_iload S.1 S.2.1 dX0_castFrom_32 (lv_at hl 0 rfl) ?_
              refine lv_iload_n S.1 S.2.1 dX0_castFrom_34 rfl (lv_at hl 2 rfl) ?_
              refine zc_Vi (n := 2) (As := [.int (iI ((a : Nat) : Int)), .int (iI ((r : Nat) : Int))]) (rest := []) S hAM hA (kX0_isFree l X qc Qc n M riv roa1 (fun x => bm g x r) a r hn hM hB (by omega) (by omega)) rfl gX0_castFrom_X0_isFree  (by decide +kernel) ⟨Nat.le_of_ble_eq_true rfl, Nat.le_of_ble_eq_true rfl⟩ hH hS [0, 1, 2] rfl 3 rfl (List.Perm.refl _) 0 0 rfl rfl rfl hl.1 rfl (Nat.le_of_ble_eq_true rfl) dX0_castFrom_35 ⟨Nat.le_of_ble_eq_true rfl, Nat.le_of_ble_eq_true rfl⟩ (fun z2 _ H locs hp3 hH hS => ?_)
              have hH : Hold X A [caW qc Qc ((n : Nat) : Int), aW X (Qc 0) 8 riv, aW X (Qc 1) 8 roa1].flatten H := hH
              rcases hp3 with ⟨rfl, b_35⟩ | ⟨rfl, b_35⟩
              · refine zv_top (z := 1) (z2 := ((1 : Nat) : Int)) rfl ?_
                have hm_ := (bm_free g a (M r) (hM r (by omega)).2 r (by omega)).mp b_35
                refine zv_if_eq (tgt := 90) S dX0_castFrom_38 (by decide) (by decide) (fun c_38 => ?_) (fun c_38 => ?_)
                · exact (show False by omega).elim
                · skip
                  refine lv_aload_n S.1 S.2.1 dX0_castFrom_41 rfl (lv_at hl 1 rfl) ?_
                  refine zv_get (v := .ref (Qc 1)) S hAM hH nX0_castFrom_X0 0 rfl rfl 2 (by decide) mX0_castFrom_2 rfl rfl dX0_castFrom_42 ?_
                  refine lv_iload S.1 S.2.1 dX0_castFrom_45 (lv_at hl 0 rfl) ?_
                  refine lv_dup2_11 S.1 S.2.1 dX0_castFrom_47 rfl rfl ?_
                  refine zv_iald S hAM hH 2 rfl (a) rfl (by omega) (by decide) dX0_castFrom_48 ?_
                  refine zv_top (z := roa1 a) (z2 := ((bm g a r : Nat) : Int)) (hB a (by omega)) ?_
                  refine lv_iconst (v := iI (((1 : Nat) : Int))) S.1 S.2.1 dX0_castFrom_49 (by decide) ?_
                  refine lv_iload_n S.1 S.2.1 dX0_castFrom_50 rfl (lv_at hl 2 rfl) ?_
                  refine zv_ishl (z := (((2 ^ r) : Nat) : Int)) S dX0_castFrom_51 (iI_shl1 _ (by omega)) ?_
                  refine zv_ior (z := (((bm g a r ||| (2 ^ r)) : Nat) : Int)) S dX0_castFrom_52 (iI_or _ _) ?_
                  refine zv_iast (z := (((bm g a r ||| (2 ^ r)) : Nat) : Int)) (w2 := [caW qc Qc ((n : Nat) : Int), aW X (Qc 0) 8 riv, aW X (Qc 1) 8 (uI roa1 a ((((bm g a r ||| (2 ^ r)) : Nat) : Int)))].flatten) S hAM hH hS 2 rfl (a) rfl (by omega) (by decide) rfl dX0_castFrom_53 (fun H locs hH hS => ?_)
                  refine lv_aload_n S.1 S.2.1 dX0_castFrom_54 rfl (lv_at hl 1 rfl) ?_
                  refine lv_iload_n S.1 S.2.1 dX0_castFrom_55 rfl (lv_at hl 2 rfl) ?_
                  refine lv_iconst (v := iI (((1 : Nat) : Int))) S.1 S.2.1 dX0_castFrom_56 (by decide) ?_
                  refine zv_iadd (z := (((r + 1) : Nat) : Int)) S dX0_castFrom_57 (by omega) ?_
                  refine lv_iload_n S.1 S.2.1 dX0_castFrom_58 rfl (lv_at hl 3 rfl) ?_
                  refine lv_iload S.1 S.2.1 dX0_castFrom_59 (lv_at hl 0 rfl) ?_
                  refine lv_iconst (v := iI (((1 : Nat) : Int))) S.1 S.2.1 dX0_castFrom_61 (by decide) ?_
                  refine zv_iadd (z := (((a + 1) : Nat) : Int)) S dX0_castFrom_62 (by omega) ?_
                  refine zv_mmax (z := (((max u (a + 1)) : Nat) : Int)) S hl.1 mX0_castFrom_3 mX0_castFrom_4 mX0_castFrom_5 mX0_castFrom_6 (by omega) (by omega) (by omega) (Nat.le_of_ble_eq_true rfl) (Nat.le_of_ble_eq_true rfl) (Nat.le_of_ble_eq_true rfl) (Nat.le_of_ble_eq_true rfl) dX0_castFrom_63 ?_
                  refine lv_iload_n S.1 S.2.1 dX0_castFrom_66 rfl (lv_at hl 4 rfl) ?_
                  refine zc_Si (n := 4) (As := [.ref (qc), .int (iI (((r + 1) : Nat) : Int)), .int (iI (((max u (a + 1)) : Nat) : Int)), .int (iI ((K : Nat) : Int))]) (rest := []) S hAM hA (kX0_cf0 l X qc Qc n M riv (uI roa1 a ((((bm g a r ||| (2 ^ r)) : Nat) : Int))) K (r + 1) (max u (a + 1)) (uI g r ((a : Nat) : Int)) hn hM (by omega) (by omega) (by omega) (cf_set hB)) rfl gX0_castFrom_X0_castFrom  (by decide +kernel) ⟨Nat.le_of_ble_eq_true rfl, Nat.le_of_ble_eq_true rfl⟩ hH hS [0, 1, 2] rfl 3 rfl (List.Perm.refl _)  rfl hl.1 rfl (Nat.le_of_ble_eq_true rfl) dX0_castFrom_67 ⟨Nat.le_of_ble_eq_true rfl, Nat.le_of_ble_eq_true rfl⟩ (fun z5 roa2_4 H locs hp6 hH hS => ?_)
                  have hH : Hold X A [caW qc Qc ((n : Nat) : Int), aW X (Qc 0) 8 riv, aW X (Qc 1) 8 roa2_4].flatten H := hH
                  rcases hp6 with ⟨rfl, b_67⟩ | ⟨rfl, b_67⟩
                  · refine zv_top (z := 1) (z2 := ((1 : Nat) : Int)) rfl ?_
                    obtain ⟨g2, hs_, hB2⟩ := b_67
                    refine zv_if_eq (tgt := 75) S dX0_castFrom_70 (by decide) (by decide) (fun c_70 => ?_) (fun c_70 => ?_)
                    · exact (show False by omega).elim
                    · skip
                      refine lv_iconst (v := iI (((1 : Nat) : Int))) S.1 S.2.1 dX0_castFrom_73 (by decide) ?_
                      exact hret 74 ls _ _ (((1 : Nat) : Int)) roa2_4 dX0_castFrom_74 rfl (Or.inl ⟨rfl, g2, hps.trans (tra_hit (by omega) hm_ (cf_rec hs_)), hB2⟩) hH hS
                  · refine zv_top (z := 0) (z2 := ((0 : Nat) : Int)) rfl ?_
                    obtain ⟨hs_, hB2⟩ := b_67
                    refine zv_if_eq (tgt := 75) S dX0_castFrom_70 (by decide) (by decide) (fun c_70 => ?_) (fun c_70 => ?_)
                    · skip
                      refine lv_aload_n S.1 S.2.1 dX0_castFrom_75 rfl (lv_at hl 1 rfl) ?_
                      refine zv_get (v := .ref (Qc 1)) S hAM hH nX0_castFrom_X0 0 rfl rfl 2 (by decide) mX0_castFrom_2 rfl rfl dX0_castFrom_76 ?_
                      refine lv_iload S.1 S.2.1 dX0_castFrom_79 (lv_at hl 0 rfl) ?_
                      refine lv_dup2_11 S.1 S.2.1 dX0_castFrom_81 rfl rfl ?_
                      refine zv_iald S hAM hH 2 rfl (a) rfl (by omega) (by decide) dX0_castFrom_82 ?_
                      refine zv_top (z := roa2_4 a) (z2 := (((bm g a r ||| 2 ^ r) : Nat) : Int)) (cf_at (by omega) hB2) ?_
                      refine lv_iconst (v := iI (((1 : Nat) : Int))) S.1 S.2.1 dX0_castFrom_83 (by decide) ?_
                      refine lv_iload_n S.1 S.2.1 dX0_castFrom_84 rfl (lv_at hl 2 rfl) ?_
                      refine zv_ishl (z := (((2 ^ r) : Nat) : Int)) S dX0_castFrom_85 (iI_shl1 _ (by omega)) ?_
                      refine lv_iconst (v := iI (-1)) S.1 S.2.1 dX0_castFrom_86 (by decide) ?_
                      refine zv_ixor (z := (-(((2 ^ r) : Nat) : Int) - 1)) S dX0_castFrom_87 (iI_not _) ?_
                      refine zv_iand (z := ((bm g a r : Nat) : Int)) S dX0_castFrom_88 (by rw [iI_andn, bit_clr r (by omega) _ (bm_lt g a r)]) ?_
                      refine zv_iast (z := ((bm g a r : Nat) : Int)) (w2 := [caW qc Qc ((n : Nat) : Int), aW X (Qc 0) 8 riv, aW X (Qc 1) 8 (uI roa2_4 a (((bm g a r : Nat) : Int)))].flatten) S hAM hH hS 2 rfl (a) rfl (by omega) (by decide) rfl dX0_castFrom_89 (fun H locs hH hS => ?_)
                      refine zv_iinc (z := (((a + 1) : Nat) : Int)) (lv' := [(4, .int (iI (((a + 1) : Nat) : Int))), (0, .ref (qc)), (1, .int (iI ((r : Nat) : Int))), (2, .int (iI ((u : Nat) : Int))), (3, .int (iI ((K : Nat) : Int)))]) S dX0_castFrom_90 hl (k := 0) rfl (by omega) (by decide) rfl (fun ls hl => ?_)
                      refine lv_goto (tgt := 19) S.1 S.2.1 dX0_castFrom_93 (by decide) ?_
                      exact ih19  ((a + 1)) (uI roa2_4 a (((bm g a r : Nat) : Int))) (by omega) (by omega) (cf_clr hB2) (hps.trans (tra_back (by omega) hm_ (cf_rec hs_))) _ _ hH hS ls (lv_sub hl [0, 1, 2, 3, 4] rfl)
                    · exact (show False by omega).elim
              · refine zv_top (z := 0) (z2 := ((0 : Nat) : Int)) rfl ?_
                have hm_ : mhI g (M r) ((a : Nat) : Int) r = 0 := by rcases Nat.eq_zero_or_pos (mhI g (M r) ((a : Nat) : Int) r) with z | z; (· exact z); (· exact absurd ((bm_free g a (M r) (hM r (by omega)).2 r (by omega)).mpr (by omega)) b_35)
                refine zv_if_eq (tgt := 90) S dX0_castFrom_38 (by decide) (by decide) (fun c_38 => ?_) (fun c_38 => ?_)
                · skip
                  refine zv_iinc (z := (((a + 1) : Nat) : Int)) (lv' := [(4, .int (iI (((a + 1) : Nat) : Int))), (0, .ref (qc)), (1, .int (iI ((r : Nat) : Int))), (2, .int (iI ((u : Nat) : Int))), (3, .int (iI ((K : Nat) : Int)))]) S dX0_castFrom_90 hl (k := 0) rfl (by omega) (by decide) rfl (fun ls hl => ?_)
                  refine lv_goto (tgt := 19) S.1 S.2.1 dX0_castFrom_93 (by decide) ?_
                  exact ih19  ((a + 1)) (roa1) (by omega) (by omega) hB (hps.trans (tra_no (by omega) hm_)) _ _ hH hS ls (lv_sub hl [0, 1, 2, 3, 4] rfl)
                · exact (show False by omega).elim
      exact lp19 (min (u + 1) K - (0) + 1) (0) (roa) (Nat.lt_succ_self _) (Nat.zero_le _) hB (ps_eq (d := 0) (by omega)) _ _ hH hS ls (lv_sub hl [0, 1, 2, 3, 4] rfl)
    · exact (show False by omega).elim

set_option maxHeartbeats 4000000 in
set_option maxRecDepth 100000 in
theorem kX0_cf2 (l : Launch) (X : XT) (qc : Nat) (Qc : Nat → Nat) (n : Nat) (M : Nat → Nat) (riv : Nat → Int) (roa : Nat → Int) (K : Nat) (r : Nat) (u : Nat) (g : Nat → Int) (hn : n ≤ 8) (hM : ∀ k, k < n → riv k = ((M k : Nat) : Int) ∧ M k < 256) (hrd : r + 2 = n) (hK : K ≤ 8) (hu : u ≤ 8) (hB : ∀ x, x < 8 → roa x = ((bm g x r : Nat) : Int)) : Ci l yX0_castFrom wsX0_castFrom (rmD 4) X [.ref (qc), .int (iI ((r : Nat) : Int)), .int (iI ((u : Nat) : Int)), .int (iI ((K : Nat) : Int))] [caW qc Qc ((n : Nat) : Int), aW X (Qc 0) 8 riv, aW X (Qc 1) 8 roa] (fun (z : Int) (roa2 : Nat → Int) => (z = 1 ∧ (∃ g2, ps M n K 2 g u = some g2 ∧ ∀ x, x < 8 → roa2 x = ((bm g2 x n : Nat) : Int))) ∨ (z = 0 ∧ (ps M n K 2 g u = none ∧ ∀ x, x < 8 → roa2 x = ((bm g x r : Nat) : Int)))) (fun (roa2 : Nat → Int) => [caW qc Qc ((n : Nat) : Int), aW X (Qc 0) 8 riv, aW X (Qc 1) 8 roa2]) := by
  refine Ci.ofW (cc := cX0_castFrom) (maxL := 5) (by decide) rfl (Nat.le_of_ble_eq_true rfl) ?_
  intro p_ e_ s_ m_ below meth c_ A Q_ S hA hAM hH hS hret ls hl
  have hl : lv_has ls 5 [(0, .ref (qc)), (1, .int (iI ((r : Nat) : Int))), (2, .int (iI ((u : Nat) : Int))), (3, .int (iI ((K : Nat) : Int)))] := hl
  refine lv_iload_n S.1 S.2.1 dX0_castFrom_0 rfl (lv_at hl 1 rfl) ?_
  refine lv_aload_n S.1 S.2.1 dX0_castFrom_1 rfl (lv_at hl 0 rfl) ?_
  refine zv_get (v := .int (iI ((n : Nat) : Int))) S hAM hH nX0_castFrom_X0 0 rfl rfl 0 (by decide) mX0_castFrom_1 rfl rfl dX0_castFrom_2 ?_
  refine zv_icmp_ge (tgt := 14) S dX0_castFrom_5 (by decide) (by omega) (by omega) (fun c_5 => ?_) (fun c_5 => ?_)
  · exact (show False by omega).elim
  · skip
    refine lv_iload_n S.1 S.2.1 dX0_castFrom_8 rfl (lv_at hl 1 rfl) ?_
    refine lv_bipush (v := iI (((8 : Nat) : Int))) S.1 S.2.1 dX0_castFrom_9 (by decide) ?_
    refine zv_icmp_lt (tgt := 16) S dX0_castFrom_11 (by decide) (by omega) (by decide) (fun c_11 => ?_) (fun c_11 => ?_)
    · skip
      refine lv_iconst (v := iI (((0 : Nat) : Int))) S.1 S.2.1 dX0_castFrom_16 (by decide) ?_
      refine lv_istore (lv' := [(4, .int (iI ((0 : Nat) : Int))), (0, .ref (qc)), (1, .int (iI ((r : Nat) : Int))), (2, .int (iI ((u : Nat) : Int))), (3, .int (iI ((K : Nat) : Int)))]) S.1 S.2.1 dX0_castFrom_17 hl (by decide) rfl (fun ls hl => ?_)
      have lp19 : ∀ (fu_ : Nat) (a : Nat) (roa1 : Nat → Int), min (u + 1) K - a < fu_ → (a ≤ min (u + 1) K) → (∀ x, x < 8 → roa1 x = ((bm g x r : Nat) : Int)) → (ps M n K 2 g u = trF M r (min (u + 1) K) (fun g' => ps M n K 1 g' (max u ((g' r).toNat + 1))) g (min (u + 1) K - a)) → ∀ (H : Heap) (locs : List Loc), Hold X A [caW qc Qc ((n : Nat) : Int), aW X (Qc 0) 8 riv, aW X (Qc 1) 8 roa1].flatten H → va_S A s_.heap H locs → ∀ ls : Array Slot, lv_has ls 5 [(4, .int (iI ((a : Nat) : Int))), (0, .ref (qc)), (1, .int (iI ((r : Nat) : Int))), (2, .int (iI ((u : Nat) : Int))), (3, .int (iI ((K : Nat) : Int)))] → W p_ l e_ (rmD 4) s_ m_ (List.toArray [.ref (qc), .int (iI ((r : Nat) : Int)), .int (iI ((u : Nat) : Int)), .int (iI ((K : Nat) : Int))]) below meth c_ H locs 0 0 Q_ (F0 m_ 19 ls []) := by
        intro fu_
        induction fu_ with
        | zero => intro a roa1 hmu ha hB hps H locs hH hS ls hl; exact absurd hmu (Nat.not_lt_zero _)
        | succ fu_ ih19 => 
          intro a roa1 hmu ha hB hps H locs hH hS ls hl
          refine lv_iload S.1 S.2.1 dX0_castFrom_19 (lv_at hl 0 rfl) ?_
          refine lv_iload_n S.1 S.2.1 dX0_castFrom_21 rfl (lv_at hl 3 rfl) ?_
          refine zv_icmp_gt (tgt := 96) S dX0_castFrom_22 (by decide) (by omega) (by omega) (fun c_22 => ?_) (fun c_22 => ?_)
          · skip
            refine lv_iconst (v := iI (((0 : Nat) : Int))) S.1 S.2.1 dX0_castFrom_96 (by decide) ?_
            exact hret 97 ls _ _ (((0 : Nat) : Int)) roa1 dX0_castFrom_97 rfl (Or.inr ⟨rfl, hps.trans (tra_end (by omega)), hB⟩) hH hS
          · skip
            refine lv_iload S.1 S.2.1 dX0_castFrom_25 (lv_at hl 0 rfl) ?_
            refine lv_iload_n S.1 S.2.1 dX0_castFrom_27 rfl (lv_at hl 4 rfl) ?_
            refine zv_icmp_ge (tgt := 96) S dX0_castFrom_28 (by decide) (by omega) (by omega) (fun c_28 => ?_) (fun c_28 => ?_)
            · skip
              refine lv_iconst (v := iI (((0 : Nat) : Int))) S.1 S.2.1 dX0_castFrom_96 (by decide) ?_
              exact hret 97 ls _ _ (((0 : Nat) : Int)) roa1 dX0_castFrom_97 rfl (Or.inr ⟨rfl, hps.trans (tra_end (by omega)), hB⟩) hH hS
            · skip
              refine lv_aload_n S.1 S.2.1 dX0_castFrom_31 rfl (lv_at hl 1 rfl) ?_
              refine lv_iload S.1 S.2.1 dX0_castFrom_32 (lv_at hl 0 rfl) ?_
              refine lv_iload_n S.1 S.2.1 dX0_castFrom_34 rfl (lv_at hl 2 rfl) ?_
              refine zc_Vi (n := 2) (As := [.int (iI ((a : Nat) : Int)), .int (iI ((r : Nat) : Int))]) (rest := []) S hAM hA (kX0_isFree l X qc Qc n M riv roa1 (fun x => bm g x r) a r hn hM hB (by omega) (by omega)) rfl gX0_castFrom_X0_isFree  (by decide +kernel) ⟨Nat.le_of_ble_eq_true rfl, Nat.le_of_ble_eq_true rfl⟩ hH hS [0, 1, 2] rfl 3 rfl (List.Perm.refl _) 0 0 rfl rfl rfl hl.1 rfl (Nat.le_of_ble_eq_true rfl) dX0_castFrom_35 ⟨Nat.le_of_ble_eq_true rfl, Nat.le_of_ble_eq_true rfl⟩ (fun z2 _ H locs hp3 hH hS => ?_)
              have hH : Hold X A [caW qc Qc ((n : Nat) : Int), aW X (Qc 0) 8 riv, aW X (Qc 1) 8 roa1].flatten H := hH
              rcases hp3 with ⟨rfl, b_35⟩ | ⟨rfl, b_35⟩
              · refine zv_top (z := 1) (z2 := ((1 : Nat) : Int)) rfl ?_
                have hm_ := (bm_free g a (M r) (hM r (by omega)).2 r (by omega)).mp b_35
                refine zv_if_eq (tgt := 90) S dX0_castFrom_38 (by decide) (by decide) (fun c_38 => ?_) (fun c_38 => ?_)
                · exact (show False by omega).elim
                · skip
                  refine lv_aload_n S.1 S.2.1 dX0_castFrom_41 rfl (lv_at hl 1 rfl) ?_
                  refine zv_get (v := .ref (Qc 1)) S hAM hH nX0_castFrom_X0 0 rfl rfl 2 (by decide) mX0_castFrom_2 rfl rfl dX0_castFrom_42 ?_
                  refine lv_iload S.1 S.2.1 dX0_castFrom_45 (lv_at hl 0 rfl) ?_
                  refine lv_dup2_11 S.1 S.2.1 dX0_castFrom_47 rfl rfl ?_
                  refine zv_iald S hAM hH 2 rfl (a) rfl (by omega) (by decide) dX0_castFrom_48 ?_
                  refine zv_top (z := roa1 a) (z2 := ((bm g a r : Nat) : Int)) (hB a (by omega)) ?_
                  refine lv_iconst (v := iI (((1 : Nat) : Int))) S.1 S.2.1 dX0_castFrom_49 (by decide) ?_
                  refine lv_iload_n S.1 S.2.1 dX0_castFrom_50 rfl (lv_at hl 2 rfl) ?_
                  refine zv_ishl (z := (((2 ^ r) : Nat) : Int)) S dX0_castFrom_51 (iI_shl1 _ (by omega)) ?_
                  refine zv_ior (z := (((bm g a r ||| (2 ^ r)) : Nat) : Int)) S dX0_castFrom_52 (iI_or _ _) ?_
                  refine zv_iast (z := (((bm g a r ||| (2 ^ r)) : Nat) : Int)) (w2 := [caW qc Qc ((n : Nat) : Int), aW X (Qc 0) 8 riv, aW X (Qc 1) 8 (uI roa1 a ((((bm g a r ||| (2 ^ r)) : Nat) : Int)))].flatten) S hAM hH hS 2 rfl (a) rfl (by omega) (by decide) rfl dX0_castFrom_53 (fun H locs hH hS => ?_)
                  refine lv_aload_n S.1 S.2.1 dX0_castFrom_54 rfl (lv_at hl 1 rfl) ?_
                  refine lv_iload_n S.1 S.2.1 dX0_castFrom_55 rfl (lv_at hl 2 rfl) ?_
                  refine lv_iconst (v := iI (((1 : Nat) : Int))) S.1 S.2.1 dX0_castFrom_56 (by decide) ?_
                  refine zv_iadd (z := (((r + 1) : Nat) : Int)) S dX0_castFrom_57 (by omega) ?_
                  refine lv_iload_n S.1 S.2.1 dX0_castFrom_58 rfl (lv_at hl 3 rfl) ?_
                  refine lv_iload S.1 S.2.1 dX0_castFrom_59 (lv_at hl 0 rfl) ?_
                  refine lv_iconst (v := iI (((1 : Nat) : Int))) S.1 S.2.1 dX0_castFrom_61 (by decide) ?_
                  refine zv_iadd (z := (((a + 1) : Nat) : Int)) S dX0_castFrom_62 (by omega) ?_
                  refine zv_mmax (z := (((max u (a + 1)) : Nat) : Int)) S hl.1 mX0_castFrom_3 mX0_castFrom_4 mX0_castFrom_5 mX0_castFrom_6 (by omega) (by omega) (by omega) (Nat.le_of_ble_eq_true rfl) (Nat.le_of_ble_eq_true rfl) (Nat.le_of_ble_eq_true rfl) (Nat.le_of_ble_eq_true rfl) dX0_castFrom_63 ?_
                  refine lv_iload_n S.1 S.2.1 dX0_castFrom_66 rfl (lv_at hl 4 rfl) ?_
                  refine zc_Si (n := 4) (As := [.ref (qc), .int (iI (((r + 1) : Nat) : Int)), .int (iI (((max u (a + 1)) : Nat) : Int)), .int (iI ((K : Nat) : Int))]) (rest := []) S hAM hA (kX0_cf1 l X qc Qc n M riv (uI roa1 a ((((bm g a r ||| (2 ^ r)) : Nat) : Int))) K (r + 1) (max u (a + 1)) (uI g r ((a : Nat) : Int)) hn hM (by omega) (by omega) (by omega) (cf_set hB)) rfl gX0_castFrom_X0_castFrom  (by decide +kernel) ⟨Nat.le_of_ble_eq_true rfl, Nat.le_of_ble_eq_true rfl⟩ hH hS [0, 1, 2] rfl 3 rfl (List.Perm.refl _)  rfl hl.1 rfl (Nat.le_of_ble_eq_true rfl) dX0_castFrom_67 ⟨Nat.le_of_ble_eq_true rfl, Nat.le_of_ble_eq_true rfl⟩ (fun z5 roa2_4 H locs hp6 hH hS => ?_)
                  have hH : Hold X A [caW qc Qc ((n : Nat) : Int), aW X (Qc 0) 8 riv, aW X (Qc 1) 8 roa2_4].flatten H := hH
                  rcases hp6 with ⟨rfl, b_67⟩ | ⟨rfl, b_67⟩
                  · refine zv_top (z := 1) (z2 := ((1 : Nat) : Int)) rfl ?_
                    obtain ⟨g2, hs_, hB2⟩ := b_67
                    refine zv_if_eq (tgt := 75) S dX0_castFrom_70 (by decide) (by decide) (fun c_70 => ?_) (fun c_70 => ?_)
                    · exact (show False by omega).elim
                    · skip
                      refine lv_iconst (v := iI (((1 : Nat) : Int))) S.1 S.2.1 dX0_castFrom_73 (by decide) ?_
                      exact hret 74 ls _ _ (((1 : Nat) : Int)) roa2_4 dX0_castFrom_74 rfl (Or.inl ⟨rfl, g2, hps.trans (tra_hit (by omega) hm_ (cf_rec hs_)), hB2⟩) hH hS
                  · refine zv_top (z := 0) (z2 := ((0 : Nat) : Int)) rfl ?_
                    obtain ⟨hs_, hB2⟩ := b_67
                    refine zv_if_eq (tgt := 75) S dX0_castFrom_70 (by decide) (by decide) (fun c_70 => ?_) (fun c_70 => ?_)
                    · skip
                      refine lv_aload_n S.1 S.2.1 dX0_castFrom_75 rfl (lv_at hl 1 rfl) ?_
                      refine zv_get (v := .ref (Qc 1)) S hAM hH nX0_castFrom_X0 0 rfl rfl 2 (by decide) mX0_castFrom_2 rfl rfl dX0_castFrom_76 ?_
                      refine lv_iload S.1 S.2.1 dX0_castFrom_79 (lv_at hl 0 rfl) ?_
                      refine lv_dup2_11 S.1 S.2.1 dX0_castFrom_81 rfl rfl ?_
                      refine zv_iald S hAM hH 2 rfl (a) rfl (by omega) (by decide) dX0_castFrom_82 ?_
                      refine zv_top (z := roa2_4 a) (z2 := (((bm g a r ||| 2 ^ r) : Nat) : Int)) (cf_at (by omega) hB2) ?_
                      refine lv_iconst (v := iI (((1 : Nat) : Int))) S.1 S.2.1 dX0_castFrom_83 (by decide) ?_
                      refine lv_iload_n S.1 S.2.1 dX0_castFrom_84 rfl (lv_at hl 2 rfl) ?_
                      refine zv_ishl (z := (((2 ^ r) : Nat) : Int)) S dX0_castFrom_85 (iI_shl1 _ (by omega)) ?_
                      refine lv_iconst (v := iI (-1)) S.1 S.2.1 dX0_castFrom_86 (by decide) ?_
                      refine zv_ixor (z := (-(((2 ^ r) : Nat) : Int) - 1)) S dX0_castFrom_87 (iI_not _) ?_
                      refine zv_iand (z := ((bm g a r : Nat) : Int)) S dX0_castFrom_88 (by rw [iI_andn, bit_clr r (by omega) _ (bm_lt g a r)]) ?_
                      refine zv_iast (z := ((bm g a r : Nat) : Int)) (w2 := [caW qc Qc ((n : Nat) : Int), aW X (Qc 0) 8 riv, aW X (Qc 1) 8 (uI roa2_4 a (((bm g a r : Nat) : Int)))].flatten) S hAM hH hS 2 rfl (a) rfl (by omega) (by decide) rfl dX0_castFrom_89 (fun H locs hH hS => ?_)
                      refine zv_iinc (z := (((a + 1) : Nat) : Int)) (lv' := [(4, .int (iI (((a + 1) : Nat) : Int))), (0, .ref (qc)), (1, .int (iI ((r : Nat) : Int))), (2, .int (iI ((u : Nat) : Int))), (3, .int (iI ((K : Nat) : Int)))]) S dX0_castFrom_90 hl (k := 0) rfl (by omega) (by decide) rfl (fun ls hl => ?_)
                      refine lv_goto (tgt := 19) S.1 S.2.1 dX0_castFrom_93 (by decide) ?_
                      exact ih19  ((a + 1)) (uI roa2_4 a (((bm g a r : Nat) : Int))) (by omega) (by omega) (cf_clr hB2) (hps.trans (tra_back (by omega) hm_ (cf_rec hs_))) _ _ hH hS ls (lv_sub hl [0, 1, 2, 3, 4] rfl)
                    · exact (show False by omega).elim
              · refine zv_top (z := 0) (z2 := ((0 : Nat) : Int)) rfl ?_
                have hm_ : mhI g (M r) ((a : Nat) : Int) r = 0 := by rcases Nat.eq_zero_or_pos (mhI g (M r) ((a : Nat) : Int) r) with z | z; (· exact z); (· exact absurd ((bm_free g a (M r) (hM r (by omega)).2 r (by omega)).mpr (by omega)) b_35)
                refine zv_if_eq (tgt := 90) S dX0_castFrom_38 (by decide) (by decide) (fun c_38 => ?_) (fun c_38 => ?_)
                · skip
                  refine zv_iinc (z := (((a + 1) : Nat) : Int)) (lv' := [(4, .int (iI (((a + 1) : Nat) : Int))), (0, .ref (qc)), (1, .int (iI ((r : Nat) : Int))), (2, .int (iI ((u : Nat) : Int))), (3, .int (iI ((K : Nat) : Int)))]) S dX0_castFrom_90 hl (k := 0) rfl (by omega) (by decide) rfl (fun ls hl => ?_)
                  refine lv_goto (tgt := 19) S.1 S.2.1 dX0_castFrom_93 (by decide) ?_
                  exact ih19  ((a + 1)) (roa1) (by omega) (by omega) hB (hps.trans (tra_no (by omega) hm_)) _ _ hH hS ls (lv_sub hl [0, 1, 2, 3, 4] rfl)
                · exact (show False by omega).elim
      exact lp19 (min (u + 1) K - (0) + 1) (0) (roa) (Nat.lt_succ_self _) (Nat.zero_le _) hB (ps_eq (d := 1) (by omega)) _ _ hH hS ls (lv_sub hl [0, 1, 2, 3, 4] rfl)
    · exact (show False by omega).elim

set_option maxHeartbeats 4000000 in
set_option maxRecDepth 100000 in
theorem kX0_cf3 (l : Launch) (X : XT) (qc : Nat) (Qc : Nat → Nat) (n : Nat) (M : Nat → Nat) (riv : Nat → Int) (roa : Nat → Int) (K : Nat) (r : Nat) (u : Nat) (g : Nat → Int) (hn : n ≤ 8) (hM : ∀ k, k < n → riv k = ((M k : Nat) : Int) ∧ M k < 256) (hrd : r + 3 = n) (hK : K ≤ 8) (hu : u ≤ 8) (hB : ∀ x, x < 8 → roa x = ((bm g x r : Nat) : Int)) : Ci l yX0_castFrom wsX0_castFrom (rmD 5) X [.ref (qc), .int (iI ((r : Nat) : Int)), .int (iI ((u : Nat) : Int)), .int (iI ((K : Nat) : Int))] [caW qc Qc ((n : Nat) : Int), aW X (Qc 0) 8 riv, aW X (Qc 1) 8 roa] (fun (z : Int) (roa2 : Nat → Int) => (z = 1 ∧ (∃ g2, ps M n K 3 g u = some g2 ∧ ∀ x, x < 8 → roa2 x = ((bm g2 x n : Nat) : Int))) ∨ (z = 0 ∧ (ps M n K 3 g u = none ∧ ∀ x, x < 8 → roa2 x = ((bm g x r : Nat) : Int)))) (fun (roa2 : Nat → Int) => [caW qc Qc ((n : Nat) : Int), aW X (Qc 0) 8 riv, aW X (Qc 1) 8 roa2]) := by
  refine Ci.ofW (cc := cX0_castFrom) (maxL := 5) (by decide) rfl (Nat.le_of_ble_eq_true rfl) ?_
  intro p_ e_ s_ m_ below meth c_ A Q_ S hA hAM hH hS hret ls hl
  have hl : lv_has ls 5 [(0, .ref (qc)), (1, .int (iI ((r : Nat) : Int))), (2, .int (iI ((u : Nat) : Int))), (3, .int (iI ((K : Nat) : Int)))] := hl
  refine lv_iload_n S.1 S.2.1 dX0_castFrom_0 rfl (lv_at hl 1 rfl) ?_
  refine lv_aload_n S.1 S.2.1 dX0_castFrom_1 rfl (lv_at hl 0 rfl) ?_
  refine zv_get (v := .int (iI ((n : Nat) : Int))) S hAM hH nX0_castFrom_X0 0 rfl rfl 0 (by decide) mX0_castFrom_1 rfl rfl dX0_castFrom_2 ?_
  refine zv_icmp_ge (tgt := 14) S dX0_castFrom_5 (by decide) (by omega) (by omega) (fun c_5 => ?_) (fun c_5 => ?_)
  · exact (show False by omega).elim
  · skip
    refine lv_iload_n S.1 S.2.1 dX0_castFrom_8 rfl (lv_at hl 1 rfl) ?_
    refine lv_bipush (v := iI (((8 : Nat) : Int))) S.1 S.2.1 dX0_castFrom_9 (by decide) ?_
    refine zv_icmp_lt (tgt := 16) S dX0_castFrom_11 (by decide) (by omega) (by decide) (fun c_11 => ?_) (fun c_11 => ?_)
    · skip
      refine lv_iconst (v := iI (((0 : Nat) : Int))) S.1 S.2.1 dX0_castFrom_16 (by decide) ?_
      refine lv_istore (lv' := [(4, .int (iI ((0 : Nat) : Int))), (0, .ref (qc)), (1, .int (iI ((r : Nat) : Int))), (2, .int (iI ((u : Nat) : Int))), (3, .int (iI ((K : Nat) : Int)))]) S.1 S.2.1 dX0_castFrom_17 hl (by decide) rfl (fun ls hl => ?_)
      have lp19 : ∀ (fu_ : Nat) (a : Nat) (roa1 : Nat → Int), min (u + 1) K - a < fu_ → (a ≤ min (u + 1) K) → (∀ x, x < 8 → roa1 x = ((bm g x r : Nat) : Int)) → (ps M n K 3 g u = trF M r (min (u + 1) K) (fun g' => ps M n K 2 g' (max u ((g' r).toNat + 1))) g (min (u + 1) K - a)) → ∀ (H : Heap) (locs : List Loc), Hold X A [caW qc Qc ((n : Nat) : Int), aW X (Qc 0) 8 riv, aW X (Qc 1) 8 roa1].flatten H → va_S A s_.heap H locs → ∀ ls : Array Slot, lv_has ls 5 [(4, .int (iI ((a : Nat) : Int))), (0, .ref (qc)), (1, .int (iI ((r : Nat) : Int))), (2, .int (iI ((u : Nat) : Int))), (3, .int (iI ((K : Nat) : Int)))] → W p_ l e_ (rmD 5) s_ m_ (List.toArray [.ref (qc), .int (iI ((r : Nat) : Int)), .int (iI ((u : Nat) : Int)), .int (iI ((K : Nat) : Int))]) below meth c_ H locs 0 0 Q_ (F0 m_ 19 ls []) := by
        intro fu_
        induction fu_ with
        | zero => intro a roa1 hmu ha hB hps H locs hH hS ls hl; exact absurd hmu (Nat.not_lt_zero _)
        | succ fu_ ih19 => 
          intro a roa1 hmu ha hB hps H locs hH hS ls hl
          refine lv_iload S.1 S.2.1 dX0_castFrom_19 (lv_at hl 0 rfl) ?_
          refine lv_iload_n S.1 S.2.1 dX0_castFrom_21 rfl (lv_at hl 3 rfl) ?_
          refine zv_icmp_gt (tgt := 96) S dX0_castFrom_22 (by decide) (by omega) (by omega) (fun c_22 => ?_) (fun c_22 => ?_)
          · skip
            refine lv_iconst (v := iI (((0 : Nat) : Int))) S.1 S.2.1 dX0_castFrom_96 (by decide) ?_
            exact hret 97 ls _ _ (((0 : Nat) : Int)) roa1 dX0_castFrom_97 rfl (Or.inr ⟨rfl, hps.trans (tra_end (by omega)), hB⟩) hH hS
          · skip
            refine lv_iload S.1 S.2.1 dX0_castFrom_25 (lv_at hl 0 rfl) ?_
            refine lv_iload_n S.1 S.2.1 dX0_castFrom_27 rfl (lv_at hl 4 rfl) ?_
            refine zv_icmp_ge (tgt := 96) S dX0_castFrom_28 (by decide) (by omega) (by omega) (fun c_28 => ?_) (fun c_28 => ?_)
            · skip
              refine lv_iconst (v := iI (((0 : Nat) : Int))) S.1 S.2.1 dX0_castFrom_96 (by decide) ?_
              exact hret 97 ls _ _ (((0 : Nat) : Int)) roa1 dX0_castFrom_97 rfl (Or.inr ⟨rfl, hps.trans (tra_end (by omega)), hB⟩) hH hS
            · skip
              refine lv_aload_n S.1 S.2.1 dX0_castFrom_31 rfl (lv_at hl 1 rfl) ?_
              refine lv_iload S.1 S.2.1 dX0_castFrom_32 (lv_at hl 0 rfl) ?_
              refine lv_iload_n S.1 S.2.1 dX0_castFrom_34 rfl (lv_at hl 2 rfl) ?_
              refine zc_Vi (n := 2) (As := [.int (iI ((a : Nat) : Int)), .int (iI ((r : Nat) : Int))]) (rest := []) S hAM hA (kX0_isFree l X qc Qc n M riv roa1 (fun x => bm g x r) a r hn hM hB (by omega) (by omega)) rfl gX0_castFrom_X0_isFree  (by decide +kernel) ⟨Nat.le_of_ble_eq_true rfl, Nat.le_of_ble_eq_true rfl⟩ hH hS [0, 1, 2] rfl 3 rfl (List.Perm.refl _) 0 0 rfl rfl rfl hl.1 rfl (Nat.le_of_ble_eq_true rfl) dX0_castFrom_35 ⟨Nat.le_of_ble_eq_true rfl, Nat.le_of_ble_eq_true rfl⟩ (fun z2 _ H locs hp3 hH hS => ?_)
              have hH : Hold X A [caW qc Qc ((n : Nat) : Int), aW X (Qc 0) 8 riv, aW X (Qc 1) 8 roa1].flatten H := hH
              rcases hp3 with ⟨rfl, b_35⟩ | ⟨rfl, b_35⟩
              · refine zv_top (z := 1) (z2 := ((1 : Nat) : Int)) rfl ?_
                have hm_ := (bm_free g a (M r) (hM r (by omega)).2 r (by omega)).mp b_35
                refine zv_if_eq (tgt := 90) S dX0_castFrom_38 (by decide) (by decide) (fun c_38 => ?_) (fun c_38 => ?_)
                · exact (show False by omega).elim
                · skip
                  refine lv_aload_n S.1 S.2.1 dX0_castFrom_41 rfl (lv_at hl 1 rfl) ?_
                  refine zv_get (v := .ref (Qc 1)) S hAM hH nX0_castFrom_X0 0 rfl rfl 2 (by decide) mX0_castFrom_2 rfl rfl dX0_castFrom_42 ?_
                  refine lv_iload S.1 S.2.1 dX0_castFrom_45 (lv_at hl 0 rfl) ?_
                  refine lv_dup2_11 S.1 S.2.1 dX0_castFrom_47 rfl rfl ?_
                  refine zv_iald S hAM hH 2 rfl (a) rfl (by omega) (by decide) dX0_castFrom_48 ?_
                  refine zv_top (z := roa1 a) (z2 := ((bm g a r : Nat) : Int)) (hB a (by omega)) ?_
                  refine lv_iconst (v := iI (((1 : Nat) : Int))) S.1 S.2.1 dX0_castFrom_49 (by decide) ?_
                  refine lv_iload_n S.1 S.2.1 dX0_castFrom_50 rfl (lv_at hl 2 rfl) ?_
                  refine zv_ishl (z := (((2 ^ r) : Nat) : Int)) S dX0_castFrom_51 (iI_shl1 _ (by omega)) ?_
                  refine zv_ior (z := (((bm g a r ||| (2 ^ r)) : Nat) : Int)) S dX0_castFrom_52 (iI_or _ _) ?_
                  refine zv_iast (z := (((bm g a r ||| (2 ^ r)) : Nat) : Int)) (w2 := [caW qc Qc ((n : Nat) : Int), aW X (Qc 0) 8 riv, aW X (Qc 1) 8 (uI roa1 a ((((bm g a r ||| (2 ^ r)) : Nat) : Int)))].flatten) S hAM hH hS 2 rfl (a) rfl (by omega) (by decide) rfl dX0_castFrom_53 (fun H locs hH hS => ?_)
                  refine lv_aload_n S.1 S.2.1 dX0_castFrom_54 rfl (lv_at hl 1 rfl) ?_
                  refine lv_iload_n S.1 S.2.1 dX0_castFrom_55 rfl (lv_at hl 2 rfl) ?_
                  refine lv_iconst (v := iI (((1 : Nat) : Int))) S.1 S.2.1 dX0_castFrom_56 (by decide) ?_
                  refine zv_iadd (z := (((r + 1) : Nat) : Int)) S dX0_castFrom_57 (by omega) ?_
                  refine lv_iload_n S.1 S.2.1 dX0_castFrom_58 rfl (lv_at hl 3 rfl) ?_
                  refine lv_iload S.1 S.2.1 dX0_castFrom_59 (lv_at hl 0 rfl) ?_
                  refine lv_iconst (v := iI (((1 : Nat) : Int))) S.1 S.2.1 dX0_castFrom_61 (by decide) ?_
                  refine zv_iadd (z := (((a + 1) : Nat) : Int)) S dX0_castFrom_62 (by omega) ?_
                  refine zv_mmax (z := (((max u (a + 1)) : Nat) : Int)) S hl.1 mX0_castFrom_3 mX0_castFrom_4 mX0_castFrom_5 mX0_castFrom_6 (by omega) (by omega) (by omega) (Nat.le_of_ble_eq_true rfl) (Nat.le_of_ble_eq_true rfl) (Nat.le_of_ble_eq_true rfl) (Nat.le_of_ble_eq_true rfl) dX0_castFrom_63 ?_
                  refine lv_iload_n S.1 S.2.1 dX0_castFrom_66 rfl (lv_at hl 4 rfl) ?_
                  refine zc_Si (n := 4) (As := [.ref (qc), .int (iI (((r + 1) : Nat) : Int)), .int (iI (((max u (a + 1)) : Nat) : Int)), .int (iI ((K : Nat) : Int))]) (rest := []) S hAM hA (kX0_cf2 l X qc Qc n M riv (uI roa1 a ((((bm g a r ||| (2 ^ r)) : Nat) : Int))) K (r + 1) (max u (a + 1)) (uI g r ((a : Nat) : Int)) hn hM (by omega) (by omega) (by omega) (cf_set hB)) rfl gX0_castFrom_X0_castFrom  (by decide +kernel) ⟨Nat.le_of_ble_eq_true rfl, Nat.le_of_ble_eq_true rfl⟩ hH hS [0, 1, 2] rfl 3 rfl (List.Perm.refl _)  rfl hl.1 rfl (Nat.le_of_ble_eq_true rfl) dX0_castFrom_67 ⟨Nat.le_of_ble_eq_true rfl, Nat.le_of_ble_eq_true rfl⟩ (fun z5 roa2_4 H locs hp6 hH hS => ?_)
                  have hH : Hold X A [caW qc Qc ((n : Nat) : Int), aW X (Qc 0) 8 riv, aW X (Qc 1) 8 roa2_4].flatten H := hH
                  rcases hp6 with ⟨rfl, b_67⟩ | ⟨rfl, b_67⟩
                  · refine zv_top (z := 1) (z2 := ((1 : Nat) : Int)) rfl ?_
                    obtain ⟨g2, hs_, hB2⟩ := b_67
                    refine zv_if_eq (tgt := 75) S dX0_castFrom_70 (by decide) (by decide) (fun c_70 => ?_) (fun c_70 => ?_)
                    · exact (show False by omega).elim
                    · skip
                      refine lv_iconst (v := iI (((1 : Nat) : Int))) S.1 S.2.1 dX0_castFrom_73 (by decide) ?_
                      exact hret 74 ls _ _ (((1 : Nat) : Int)) roa2_4 dX0_castFrom_74 rfl (Or.inl ⟨rfl, g2, hps.trans (tra_hit (by omega) hm_ (cf_rec hs_)), hB2⟩) hH hS
                  · refine zv_top (z := 0) (z2 := ((0 : Nat) : Int)) rfl ?_
                    obtain ⟨hs_, hB2⟩ := b_67
                    refine zv_if_eq (tgt := 75) S dX0_castFrom_70 (by decide) (by decide) (fun c_70 => ?_) (fun c_70 => ?_)
                    · skip
                      refine lv_aload_n S.1 S.2.1 dX0_castFrom_75 rfl (lv_at hl 1 rfl) ?_
                      refine zv_get (v := .ref (Qc 1)) S hAM hH nX0_castFrom_X0 0 rfl rfl 2 (by decide) mX0_castFrom_2 rfl rfl dX0_castFrom_76 ?_
                      refine lv_iload S.1 S.2.1 dX0_castFrom_79 (lv_at hl 0 rfl) ?_
                      refine lv_dup2_11 S.1 S.2.1 dX0_castFrom_81 rfl rfl ?_
                      refine zv_iald S hAM hH 2 rfl (a) rfl (by omega) (by decide) dX0_castFrom_82 ?_
                      refine zv_top (z := roa2_4 a) (z2 := (((bm g a r ||| 2 ^ r) : Nat) : Int)) (cf_at (by omega) hB2) ?_
                      refine lv_iconst (v := iI (((1 : Nat) : Int))) S.1 S.2.1 dX0_castFrom_83 (by decide) ?_
                      refine lv_iload_n S.1 S.2.1 dX0_castFrom_84 rfl (lv_at hl 2 rfl) ?_
                      refine zv_ishl (z := (((2 ^ r) : Nat) : Int)) S dX0_castFrom_85 (iI_shl1 _ (by omega)) ?_
                      refine lv_iconst (v := iI (-1)) S.1 S.2.1 dX0_castFrom_86 (by decide) ?_
                      refine zv_ixor (z := (-(((2 ^ r) : Nat) : Int) - 1)) S dX0_castFrom_87 (iI_not _) ?_
                      refine zv_iand (z := ((bm g a r : Nat) : Int)) S dX0_castFrom_88 (by rw [iI_andn, bit_clr r (by omega) _ (bm_lt g a r)]) ?_
                      refine zv_iast (z := ((bm g a r : Nat) : Int)) (w2 := [caW qc Qc ((n : Nat) : Int), aW X (Qc 0) 8 riv, aW X (Qc 1) 8 (uI roa2_4 a (((bm g a r : Nat) : Int)))].flatten) S hAM hH hS 2 rfl (a) rfl (by omega) (by decide) rfl dX0_castFrom_89 (fun H locs hH hS => ?_)
                      refine zv_iinc (z := (((a + 1) : Nat) : Int)) (lv' := [(4, .int (iI (((a + 1) : Nat) : Int))), (0, .ref (qc)), (1, .int (iI ((r : Nat) : Int))), (2, .int (iI ((u : Nat) : Int))), (3, .int (iI ((K : Nat) : Int)))]) S dX0_castFrom_90 hl (k := 0) rfl (by omega) (by decide) rfl (fun ls hl => ?_)
                      refine lv_goto (tgt := 19) S.1 S.2.1 dX0_castFrom_93 (by decide) ?_
                      exact ih19  ((a + 1)) (uI roa2_4 a (((bm g a r : Nat) : Int))) (by omega) (by omega) (cf_clr hB2) (hps.trans (tra_back (by omega) hm_ (cf_rec hs_))) _ _ hH hS ls (lv_sub hl [0, 1, 2, 3, 4] rfl)
                    · exact (show False by omega).elim
              · refine zv_top (z := 0) (z2 := ((0 : Nat) : Int)) rfl ?_
                have hm_ : mhI g (M r) ((a : Nat) : Int) r = 0 := by rcases Nat.eq_zero_or_pos (mhI g (M r) ((a : Nat) : Int) r) with z | z; (· exact z); (· exact absurd ((bm_free g a (M r) (hM r (by omega)).2 r (by omega)).mpr (by omega)) b_35)
                refine zv_if_eq (tgt := 90) S dX0_castFrom_38 (by decide) (by decide) (fun c_38 => ?_) (fun c_38 => ?_)
                · skip
                  refine zv_iinc (z := (((a + 1) : Nat) : Int)) (lv' := [(4, .int (iI (((a + 1) : Nat) : Int))), (0, .ref (qc)), (1, .int (iI ((r : Nat) : Int))), (2, .int (iI ((u : Nat) : Int))), (3, .int (iI ((K : Nat) : Int)))]) S dX0_castFrom_90 hl (k := 0) rfl (by omega) (by decide) rfl (fun ls hl => ?_)
                  refine lv_goto (tgt := 19) S.1 S.2.1 dX0_castFrom_93 (by decide) ?_
                  exact ih19  ((a + 1)) (roa1) (by omega) (by omega) hB (hps.trans (tra_no (by omega) hm_)) _ _ hH hS ls (lv_sub hl [0, 1, 2, 3, 4] rfl)
                · exact (show False by omega).elim
      exact lp19 (min (u + 1) K - (0) + 1) (0) (roa) (Nat.lt_succ_self _) (Nat.zero_le _) hB (ps_eq (d := 2) (by omega)) _ _ hH hS ls (lv_sub hl [0, 1, 2, 3, 4] rfl)
    · exact (show False by omega).elim

set_option maxHeartbeats 4000000 in
set_option maxRecDepth 100000 in
theorem kX0_cf4 (l : Launch) (X : XT) (qc : Nat) (Qc : Nat → Nat) (n : Nat) (M : Nat → Nat) (riv : Nat → Int) (roa : Nat → Int) (K : Nat) (r : Nat) (u : Nat) (g : Nat → Int) (hn : n ≤ 8) (hM : ∀ k, k < n → riv k = ((M k : Nat) : Int) ∧ M k < 256) (hrd : r + 4 = n) (hK : K ≤ 8) (hu : u ≤ 8) (hB : ∀ x, x < 8 → roa x = ((bm g x r : Nat) : Int)) : Ci l yX0_castFrom wsX0_castFrom (rmD 6) X [.ref (qc), .int (iI ((r : Nat) : Int)), .int (iI ((u : Nat) : Int)), .int (iI ((K : Nat) : Int))] [caW qc Qc ((n : Nat) : Int), aW X (Qc 0) 8 riv, aW X (Qc 1) 8 roa] (fun (z : Int) (roa2 : Nat → Int) => (z = 1 ∧ (∃ g2, ps M n K 4 g u = some g2 ∧ ∀ x, x < 8 → roa2 x = ((bm g2 x n : Nat) : Int))) ∨ (z = 0 ∧ (ps M n K 4 g u = none ∧ ∀ x, x < 8 → roa2 x = ((bm g x r : Nat) : Int)))) (fun (roa2 : Nat → Int) => [caW qc Qc ((n : Nat) : Int), aW X (Qc 0) 8 riv, aW X (Qc 1) 8 roa2]) := by
  refine Ci.ofW (cc := cX0_castFrom) (maxL := 5) (by decide) rfl (Nat.le_of_ble_eq_true rfl) ?_
  intro p_ e_ s_ m_ below meth c_ A Q_ S hA hAM hH hS hret ls hl
  have hl : lv_has ls 5 [(0, .ref (qc)), (1, .int (iI ((r : Nat) : Int))), (2, .int (iI ((u : Nat) : Int))), (3, .int (iI ((K : Nat) : Int)))] := hl
  refine lv_iload_n S.1 S.2.1 dX0_castFrom_0 rfl (lv_at hl 1 rfl) ?_
  refine lv_aload_n S.1 S.2.1 dX0_castFrom_1 rfl (lv_at hl 0 rfl) ?_
  refine zv_get (v := .int (iI ((n : Nat) : Int))) S hAM hH nX0_castFrom_X0 0 rfl rfl 0 (by decide) mX0_castFrom_1 rfl rfl dX0_castFrom_2 ?_
  refine zv_icmp_ge (tgt := 14) S dX0_castFrom_5 (by decide) (by omega) (by omega) (fun c_5 => ?_) (fun c_5 => ?_)
  · exact (show False by omega).elim
  · skip
    refine lv_iload_n S.1 S.2.1 dX0_castFrom_8 rfl (lv_at hl 1 rfl) ?_
    refine lv_bipush (v := iI (((8 : Nat) : Int))) S.1 S.2.1 dX0_castFrom_9 (by decide) ?_
    refine zv_icmp_lt (tgt := 16) S dX0_castFrom_11 (by decide) (by omega) (by decide) (fun c_11 => ?_) (fun c_11 => ?_)
    · skip
      refine lv_iconst (v := iI (((0 : Nat) : Int))) S.1 S.2.1 dX0_castFrom_16 (by decide) ?_
      refine lv_istore (lv' := [(4, .int (iI ((0 : Nat) : Int))), (0, .ref (qc)), (1, .int (iI ((r : Nat) : Int))), (2, .int (iI ((u : Nat) : Int))), (3, .int (iI ((K : Nat) : Int)))]) S.1 S.2.1 dX0_castFrom_17 hl (by decide) rfl (fun ls hl => ?_)
      have lp19 : ∀ (fu_ : Nat) (a : Nat) (roa1 : Nat → Int), min (u + 1) K - a < fu_ → (a ≤ min (u + 1) K) → (∀ x, x < 8 → roa1 x = ((bm g x r : Nat) : Int)) → (ps M n K 4 g u = trF M r (min (u + 1) K) (fun g' => ps M n K 3 g' (max u ((g' r).toNat + 1))) g (min (u + 1) K - a)) → ∀ (H : Heap) (locs : List Loc), Hold X A [caW qc Qc ((n : Nat) : Int), aW X (Qc 0) 8 riv, aW X (Qc 1) 8 roa1].flatten H → va_S A s_.heap H locs → ∀ ls : Array Slot, lv_has ls 5 [(4, .int (iI ((a : Nat) : Int))), (0, .ref (qc)), (1, .int (iI ((r : Nat) : Int))), (2, .int (iI ((u : Nat) : Int))), (3, .int (iI ((K : Nat) : Int)))] → W p_ l e_ (rmD 6) s_ m_ (List.toArray [.ref (qc), .int (iI ((r : Nat) : Int)), .int (iI ((u : Nat) : Int)), .int (iI ((K : Nat) : Int))]) below meth c_ H locs 0 0 Q_ (F0 m_ 19 ls []) := by
        intro fu_
        induction fu_ with
        | zero => intro a roa1 hmu ha hB hps H locs hH hS ls hl; exact absurd hmu (Nat.not_lt_zero _)
        | succ fu_ ih19 => 
          intro a roa1 hmu ha hB hps H locs hH hS ls hl
          refine lv_iload S.1 S.2.1 dX0_castFrom_19 (lv_at hl 0 rfl) ?_
          refine lv_iload_n S.1 S.2.1 dX0_castFrom_21 rfl (lv_at hl 3 rfl) ?_
          refine zv_icmp_gt (tgt := 96) S dX0_castFrom_22 (by decide) (by omega) (by omega) (fun c_22 => ?_) (fun c_22 => ?_)
          · skip
            refine lv_iconst (v := iI (((0 : Nat) : Int))) S.1 S.2.1 dX0_castFrom_96 (by decide) ?_
            exact hret 97 ls _ _ (((0 : Nat) : Int)) roa1 dX0_castFrom_97 rfl (Or.inr ⟨rfl, hps.trans (tra_end (by omega)), hB⟩) hH hS
          · skip
            refine lv_iload S.1 S.2.1 dX0_castFrom_25 (lv_at hl 0 rfl) ?_
            refine lv_iload_n S.1 S.2.1 dX0_castFrom_27 rfl (lv_at hl 4 rfl) ?_
            refine zv_icmp_ge (tgt := 96) S dX0_castFrom_28 (by decide) (by omega) (by omega) (fun c_28 => ?_) (fun c_28 => ?_)
            · skip
              refine lv_iconst (v := iI (((0 : Nat) : Int))) S.1 S.2.1 dX0_castFrom_96 (by decide) ?_
              exact hret 97 ls _ _ (((0 : Nat) : Int)) roa1 dX0_castFrom_97 rfl (Or.inr ⟨rfl, hps.trans (tra_end (by omega)), hB⟩) hH hS
            · skip
              refine lv_aload_n S.1 S.2.1 dX0_castFrom_31 rfl (lv_at hl 1 rfl) ?_
              refine lv_iload S.1 S.2.1 dX0_castFrom_32 (lv_at hl 0 rfl) ?_
              refine lv_iload_n S.1 S.2.1 dX0_castFrom_34 rfl (lv_at hl 2 rfl) ?_
              refine zc_Vi (n := 2) (As := [.int (iI ((a : Nat) : Int)), .int (iI ((r : Nat) : Int))]) (rest := []) S hAM hA (kX0_isFree l X qc Qc n M riv roa1 (fun x => bm g x r) a r hn hM hB (by omega) (by omega)) rfl gX0_castFrom_X0_isFree  (by decide +kernel) ⟨Nat.le_of_ble_eq_true rfl, Nat.le_of_ble_eq_true rfl⟩ hH hS [0, 1, 2] rfl 3 rfl (List.Perm.refl _) 0 0 rfl rfl rfl hl.1 rfl (Nat.le_of_ble_eq_true rfl) dX0_castFrom_35 ⟨Nat.le_of_ble_eq_true rfl, Nat.le_of_ble_eq_true rfl⟩ (fun z2 _ H locs hp3 hH hS => ?_)
              have hH : Hold X A [caW qc Qc ((n : Nat) : Int), aW X (Qc 0) 8 riv, aW X (Qc 1) 8 roa1].flatten H := hH
              rcases hp3 with ⟨rfl, b_35⟩ | ⟨rfl, b_35⟩
              · refine zv_top (z := 1) (z2 := ((1 : Nat) : Int)) rfl ?_
                have hm_ := (bm_free g a (M r) (hM r (by omega)).2 r (by omega)).mp b_35
                refine zv_if_eq (tgt := 90) S dX0_castFrom_38 (by decide) (by decide) (fun c_38 => ?_) (fun c_38 => ?_)
                · exact (show False by omega).elim
                · skip
                  refine lv_aload_n S.1 S.2.1 dX0_castFrom_41 rfl (lv_at hl 1 rfl) ?_
                  refine zv_get (v := .ref (Qc 1)) S hAM hH nX0_castFrom_X0 0 rfl rfl 2 (by decide) mX0_castFrom_2 rfl rfl dX0_castFrom_42 ?_
                  refine lv_iload S.1 S.2.1 dX0_castFrom_45 (lv_at hl 0 rfl) ?_
                  refine lv_dup2_11 S.1 S.2.1 dX0_castFrom_47 rfl rfl ?_
                  refine zv_iald S hAM hH 2 rfl (a) rfl (by omega) (by decide) dX0_castFrom_48 ?_
                  refine zv_top (z := roa1 a) (z2 := ((bm g a r : Nat) : Int)) (hB a (by omega)) ?_
                  refine lv_iconst (v := iI (((1 : Nat) : Int))) S.1 S.2.1 dX0_castFrom_49 (by decide) ?_
                  refine lv_iload_n S.1 S.2.1 dX0_castFrom_50 rfl (lv_at hl 2 rfl) ?_
                  refine zv_ishl (z := (((2 ^ r) : Nat) : Int)) S dX0_castFrom_51 (iI_shl1 _ (by omega)) ?_
                  refine zv_ior (z := (((bm g a r ||| (2 ^ r)) : Nat) : Int)) S dX0_castFrom_52 (iI_or _ _) ?_
                  refine zv_iast (z := (((bm g a r ||| (2 ^ r)) : Nat) : Int)) (w2 := [caW qc Qc ((n : Nat) : Int), aW X (Qc 0) 8 riv, aW X (Qc 1) 8 (uI roa1 a ((((bm g a r ||| (2 ^ r)) : Nat) : Int)))].flatten) S hAM hH hS 2 rfl (a) rfl (by omega) (by decide) rfl dX0_castFrom_53 (fun H locs hH hS => ?_)
                  refine lv_aload_n S.1 S.2.1 dX0_castFrom_54 rfl (lv_at hl 1 rfl) ?_
                  refine lv_iload_n S.1 S.2.1 dX0_castFrom_55 rfl (lv_at hl 2 rfl) ?_
                  refine lv_iconst (v := iI (((1 : Nat) : Int))) S.1 S.2.1 dX0_castFrom_56 (by decide) ?_
                  refine zv_iadd (z := (((r + 1) : Nat) : Int)) S dX0_castFrom_57 (by omega) ?_
                  refine lv_iload_n S.1 S.2.1 dX0_castFrom_58 rfl (lv_at hl 3 rfl) ?_
                  refine lv_iload S.1 S.2.1 dX0_castFrom_59 (lv_at hl 0 rfl) ?_
                  refine lv_iconst (v := iI (((1 : Nat) : Int))) S.1 S.2.1 dX0_castFrom_61 (by decide) ?_
                  refine zv_iadd (z := (((a + 1) : Nat) : Int)) S dX0_castFrom_62 (by omega) ?_
                  refine zv_mmax (z := (((max u (a + 1)) : Nat) : Int)) S hl.1 mX0_castFrom_3 mX0_castFrom_4 mX0_castFrom_5 mX0_castFrom_6 (by omega) (by omega) (by omega) (Nat.le_of_ble_eq_true rfl) (Nat.le_of_ble_eq_true rfl) (Nat.le_of_ble_eq_true rfl) (Nat.le_of_ble_eq_true rfl) dX0_castFrom_63 ?_
                  refine lv_iload_n S.1 S.2.1 dX0_castFrom_66 rfl (lv_at hl 4 rfl) ?_
                  refine zc_Si (n := 4) (As := [.ref (qc), .int (iI (((r + 1) : Nat) : Int)), .int (iI (((max u (a + 1)) : Nat) : Int)), .int (iI ((K : Nat) : Int))]) (rest := []) S hAM hA (kX0_cf3 l X qc Qc n M riv (uI roa1 a ((((bm g a r ||| (2 ^ r)) : Nat) : Int))) K (r + 1) (max u (a + 1)) (uI g r ((a : Nat) : Int)) hn hM (by omega) (by omega) (by omega) (cf_set hB)) rfl gX0_castFrom_X0_castFrom  (by decide +kernel) ⟨Nat.le_of_ble_eq_true rfl, Nat.le_of_ble_eq_true rfl⟩ hH hS [0, 1, 2] rfl 3 rfl (List.Perm.refl _)  rfl hl.1 rfl (Nat.le_of_ble_eq_true rfl) dX0_castFrom_67 ⟨Nat.le_of_ble_eq_true rfl, Nat.le_of_ble_eq_true rfl⟩ (fun z5 roa2_4 H locs hp6 hH hS => ?_)
                  have hH : Hold X A [caW qc Qc ((n : Nat) : Int), aW X (Qc 0) 8 riv, aW X (Qc 1) 8 roa2_4].flatten H := hH
                  rcases hp6 with ⟨rfl, b_67⟩ | ⟨rfl, b_67⟩
                  · refine zv_top (z := 1) (z2 := ((1 : Nat) : Int)) rfl ?_
                    obtain ⟨g2, hs_, hB2⟩ := b_67
                    refine zv_if_eq (tgt := 75) S dX0_castFrom_70 (by decide) (by decide) (fun c_70 => ?_) (fun c_70 => ?_)
                    · exact (show False by omega).elim
                    · skip
                      refine lv_iconst (v := iI (((1 : Nat) : Int))) S.1 S.2.1 dX0_castFrom_73 (by decide) ?_
                      exact hret 74 ls _ _ (((1 : Nat) : Int)) roa2_4 dX0_castFrom_74 rfl (Or.inl ⟨rfl, g2, hps.trans (tra_hit (by omega) hm_ (cf_rec hs_)), hB2⟩) hH hS
                  · refine zv_top (z := 0) (z2 := ((0 : Nat) : Int)) rfl ?_
                    obtain ⟨hs_, hB2⟩ := b_67
                    refine zv_if_eq (tgt := 75) S dX0_castFrom_70 (by decide) (by decide) (fun c_70 => ?_) (fun c_70 => ?_)
                    · skip
                      refine lv_aload_n S.1 S.2.1 dX0_castFrom_75 rfl (lv_at hl 1 rfl) ?_
                      refine zv_get (v := .ref (Qc 1)) S hAM hH nX0_castFrom_X0 0 rfl rfl 2 (by decide) mX0_castFrom_2 rfl rfl dX0_castFrom_76 ?_
                      refine lv_iload S.1 S.2.1 dX0_castFrom_79 (lv_at hl 0 rfl) ?_
                      refine lv_dup2_11 S.1 S.2.1 dX0_castFrom_81 rfl rfl ?_
                      refine zv_iald S hAM hH 2 rfl (a) rfl (by omega) (by decide) dX0_castFrom_82 ?_
                      refine zv_top (z := roa2_4 a) (z2 := (((bm g a r ||| 2 ^ r) : Nat) : Int)) (cf_at (by omega) hB2) ?_
                      refine lv_iconst (v := iI (((1 : Nat) : Int))) S.1 S.2.1 dX0_castFrom_83 (by decide) ?_
                      refine lv_iload_n S.1 S.2.1 dX0_castFrom_84 rfl (lv_at hl 2 rfl) ?_
                      refine zv_ishl (z := (((2 ^ r) : Nat) : Int)) S dX0_castFrom_85 (iI_shl1 _ (by omega)) ?_
                      refine lv_iconst (v := iI (-1)) S.1 S.2.1 dX0_castFrom_86 (by decide) ?_
                      refine zv_ixor (z := (-(((2 ^ r) : Nat) : Int) - 1)) S dX0_castFrom_87 (iI_not _) ?_
                      refine zv_iand (z := ((bm g a r : Nat) : Int)) S dX0_castFrom_88 (by rw [iI_andn, bit_clr r (by omega) _ (bm_lt g a r)]) ?_
                      refine zv_iast (z := ((bm g a r : Nat) : Int)) (w2 := [caW qc Qc ((n : Nat) : Int), aW X (Qc 0) 8 riv, aW X (Qc 1) 8 (uI roa2_4 a (((bm g a r : Nat) : Int)))].flatten) S hAM hH hS 2 rfl (a) rfl (by omega) (by decide) rfl dX0_castFrom_89 (fun H locs hH hS => ?_)
                      refine zv_iinc (z := (((a + 1) : Nat) : Int)) (lv' := [(4, .int (iI (((a + 1) : Nat) : Int))), (0, .ref (qc)), (1, .int (iI ((r : Nat) : Int))), (2, .int (iI ((u : Nat) : Int))), (3, .int (iI ((K : Nat) : Int)))]) S dX0_castFrom_90 hl (k := 0) rfl (by omega) (by decide) rfl (fun ls hl => ?_)
                      refine lv_goto (tgt := 19) S.1 S.2.1 dX0_castFrom_93 (by decide) ?_
                      exact ih19  ((a + 1)) (uI roa2_4 a (((bm g a r : Nat) : Int))) (by omega) (by omega) (cf_clr hB2) (hps.trans (tra_back (by omega) hm_ (cf_rec hs_))) _ _ hH hS ls (lv_sub hl [0, 1, 2, 3, 4] rfl)
                    · exact (show False by omega).elim
              · refine zv_top (z := 0) (z2 := ((0 : Nat) : Int)) rfl ?_
                have hm_ : mhI g (M r) ((a : Nat) : Int) r = 0 := by rcases Nat.eq_zero_or_pos (mhI g (M r) ((a : Nat) : Int) r) with z | z; (· exact z); (· exact absurd ((bm_free g a (M r) (hM r (by omega)).2 r (by omega)).mpr (by omega)) b_35)
                refine zv_if_eq (tgt := 90) S dX0_castFrom_38 (by decide) (by decide) (fun c_38 => ?_) (fun c_38 => ?_)
                · skip
                  refine zv_iinc (z := (((a + 1) : Nat) : Int)) (lv' := [(4, .int (iI (((a + 1) : Nat) : Int))), (0, .ref (qc)), (1, .int (iI ((r : Nat) : Int))), (2, .int (iI ((u : Nat) : Int))), (3, .int (iI ((K : Nat) : Int)))]) S dX0_castFrom_90 hl (k := 0) rfl (by omega) (by decide) rfl (fun ls hl => ?_)
                  refine lv_goto (tgt := 19) S.1 S.2.1 dX0_castFrom_93 (by decide) ?_
                  exact ih19  ((a + 1)) (roa1) (by omega) (by omega) hB (hps.trans (tra_no (by omega) hm_)) _ _ hH hS ls (lv_sub hl [0, 1, 2, 3, 4] rfl)
                · exact (show False by omega).elim
      exact lp19 (min (u + 1) K - (0) + 1) (0) (roa) (Nat.lt_succ_self _) (Nat.zero_le _) hB (ps_eq (d := 3) (by omega)) _ _ hH hS ls (lv_sub hl [0, 1, 2, 3, 4] rfl)
    · exact (show False by omega).elim

set_option maxHeartbeats 4000000 in
set_option maxRecDepth 100000 in
theorem kX0_cf5 (l : Launch) (X : XT) (qc : Nat) (Qc : Nat → Nat) (n : Nat) (M : Nat → Nat) (riv : Nat → Int) (roa : Nat → Int) (K : Nat) (r : Nat) (u : Nat) (g : Nat → Int) (hn : n ≤ 8) (hM : ∀ k, k < n → riv k = ((M k : Nat) : Int) ∧ M k < 256) (hrd : r + 5 = n) (hK : K ≤ 8) (hu : u ≤ 8) (hB : ∀ x, x < 8 → roa x = ((bm g x r : Nat) : Int)) : Ci l yX0_castFrom wsX0_castFrom (rmD 7) X [.ref (qc), .int (iI ((r : Nat) : Int)), .int (iI ((u : Nat) : Int)), .int (iI ((K : Nat) : Int))] [caW qc Qc ((n : Nat) : Int), aW X (Qc 0) 8 riv, aW X (Qc 1) 8 roa] (fun (z : Int) (roa2 : Nat → Int) => (z = 1 ∧ (∃ g2, ps M n K 5 g u = some g2 ∧ ∀ x, x < 8 → roa2 x = ((bm g2 x n : Nat) : Int))) ∨ (z = 0 ∧ (ps M n K 5 g u = none ∧ ∀ x, x < 8 → roa2 x = ((bm g x r : Nat) : Int)))) (fun (roa2 : Nat → Int) => [caW qc Qc ((n : Nat) : Int), aW X (Qc 0) 8 riv, aW X (Qc 1) 8 roa2]) := by
  refine Ci.ofW (cc := cX0_castFrom) (maxL := 5) (by decide) rfl (Nat.le_of_ble_eq_true rfl) ?_
  intro p_ e_ s_ m_ below meth c_ A Q_ S hA hAM hH hS hret ls hl
  have hl : lv_has ls 5 [(0, .ref (qc)), (1, .int (iI ((r : Nat) : Int))), (2, .int (iI ((u : Nat) : Int))), (3, .int (iI ((K : Nat) : Int)))] := hl
  refine lv_iload_n S.1 S.2.1 dX0_castFrom_0 rfl (lv_at hl 1 rfl) ?_
  refine lv_aload_n S.1 S.2.1 dX0_castFrom_1 rfl (lv_at hl 0 rfl) ?_
  refine zv_get (v := .int (iI ((n : Nat) : Int))) S hAM hH nX0_castFrom_X0 0 rfl rfl 0 (by decide) mX0_castFrom_1 rfl rfl dX0_castFrom_2 ?_
  refine zv_icmp_ge (tgt := 14) S dX0_castFrom_5 (by decide) (by omega) (by omega) (fun c_5 => ?_) (fun c_5 => ?_)
  · exact (show False by omega).elim
  · skip
    refine lv_iload_n S.1 S.2.1 dX0_castFrom_8 rfl (lv_at hl 1 rfl) ?_
    refine lv_bipush (v := iI (((8 : Nat) : Int))) S.1 S.2.1 dX0_castFrom_9 (by decide) ?_
    refine zv_icmp_lt (tgt := 16) S dX0_castFrom_11 (by decide) (by omega) (by decide) (fun c_11 => ?_) (fun c_11 => ?_)
    · skip
      refine lv_iconst (v := iI (((0 : Nat) : Int))) S.1 S.2.1 dX0_castFrom_16 (by decide) ?_
      refine lv_istore (lv' := [(4, .int (iI ((0 : Nat) : Int))), (0, .ref (qc)), (1, .int (iI ((r : Nat) : Int))), (2, .int (iI ((u : Nat) : Int))), (3, .int (iI ((K : Nat) : Int)))]) S.1 S.2.1 dX0_castFrom_17 hl (by decide) rfl (fun ls hl => ?_)
      have lp19 : ∀ (fu_ : Nat) (a : Nat) (roa1 : Nat → Int), min (u + 1) K - a < fu_ → (a ≤ min (u + 1) K) → (∀ x, x < 8 → roa1 x = ((bm g x r : Nat) : Int)) → (ps M n K 5 g u = trF M r (min (u + 1) K) (fun g' => ps M n K 4 g' (max u ((g' r).toNat + 1))) g (min (u + 1) K - a)) → ∀ (H : Heap) (locs : List Loc), Hold X A [caW qc Qc ((n : Nat) : Int), aW X (Qc 0) 8 riv, aW X (Qc 1) 8 roa1].flatten H → va_S A s_.heap H locs → ∀ ls : Array Slot, lv_has ls 5 [(4, .int (iI ((a : Nat) : Int))), (0, .ref (qc)), (1, .int (iI ((r : Nat) : Int))), (2, .int (iI ((u : Nat) : Int))), (3, .int (iI ((K : Nat) : Int)))] → W p_ l e_ (rmD 7) s_ m_ (List.toArray [.ref (qc), .int (iI ((r : Nat) : Int)), .int (iI ((u : Nat) : Int)), .int (iI ((K : Nat) : Int))]) below meth c_ H locs 0 0 Q_ (F0 m_ 19 ls []) := by
        intro fu_
        induction fu_ with
        | zero => intro a roa1 hmu ha hB hps H locs hH hS ls hl; exact absurd hmu (Nat.not_lt_zero _)
        | succ fu_ ih19 => 
          intro a roa1 hmu ha hB hps H locs hH hS ls hl
          refine lv_iload S.1 S.2.1 dX0_castFrom_19 (lv_at hl 0 rfl) ?_
          refine lv_iload_n S.1 S.2.1 dX0_castFrom_21 rfl (lv_at hl 3 rfl) ?_
          refine zv_icmp_gt (tgt := 96) S dX0_castFrom_22 (by decide) (by omega) (by omega) (fun c_22 => ?_) (fun c_22 => ?_)
          · skip
            refine lv_iconst (v := iI (((0 : Nat) : Int))) S.1 S.2.1 dX0_castFrom_96 (by decide) ?_
            exact hret 97 ls _ _ (((0 : Nat) : Int)) roa1 dX0_castFrom_97 rfl (Or.inr ⟨rfl, hps.trans (tra_end (by omega)), hB⟩) hH hS
          · skip
            refine lv_iload S.1 S.2.1 dX0_castFrom_25 (lv_at hl 0 rfl) ?_
            refine lv_iload_n S.1 S.2.1 dX0_castFrom_27 rfl (lv_at hl 4 rfl) ?_
            refine zv_icmp_ge (tgt := 96) S dX0_castFrom_28 (by decide) (by omega) (by omega) (fun c_28 => ?_) (fun c_28 => ?_)
            · skip
              refine lv_iconst (v := iI (((0 : Nat) : Int))) S.1 S.2.1 dX0_castFrom_96 (by decide) ?_
              exact hret 97 ls _ _ (((0 : Nat) : Int)) roa1 dX0_castFrom_97 rfl (Or.inr ⟨rfl, hps.trans (tra_end (by omega)), hB⟩) hH hS
            · skip
              refine lv_aload_n S.1 S.2.1 dX0_castFrom_31 rfl (lv_at hl 1 rfl) ?_
              refine lv_iload S.1 S.2.1 dX0_castFrom_32 (lv_at hl 0 rfl) ?_
              refine lv_iload_n S.1 S.2.1 dX0_castFrom_34 rfl (lv_at hl 2 rfl) ?_
              refine zc_Vi (n := 2) (As := [.int (iI ((a : Nat) : Int)), .int (iI ((r : Nat) : Int))]) (rest := []) S hAM hA (kX0_isFree l X qc Qc n M riv roa1 (fun x => bm g x r) a r hn hM hB (by omega) (by omega)) rfl gX0_castFrom_X0_isFree  (by decide +kernel) ⟨Nat.le_of_ble_eq_true rfl, Nat.le_of_ble_eq_true rfl⟩ hH hS [0, 1, 2] rfl 3 rfl (List.Perm.refl _) 0 0 rfl rfl rfl hl.1 rfl (Nat.le_of_ble_eq_true rfl) dX0_castFrom_35 ⟨Nat.le_of_ble_eq_true rfl, Nat.le_of_ble_eq_true rfl⟩ (fun z2 _ H locs hp3 hH hS => ?_)
              have hH : Hold X A [caW qc Qc ((n : Nat) : Int), aW X (Qc 0) 8 riv, aW X (Qc 1) 8 roa1].flatten H := hH
              rcases hp3 with ⟨rfl, b_35⟩ | ⟨rfl, b_35⟩
              · refine zv_top (z := 1) (z2 := ((1 : Nat) : Int)) rfl ?_
                have hm_ := (bm_free g a (M r) (hM r (by omega)).2 r (by omega)).mp b_35
                refine zv_if_eq (tgt := 90) S dX0_castFrom_38 (by decide) (by decide) (fun c_38 => ?_) (fun c_38 => ?_)
                · exact (show False by omega).elim
                · skip
                  refine lv_aload_n S.1 S.2.1 dX0_castFrom_41 rfl (lv_at hl 1 rfl) ?_
                  refine zv_get (v := .ref (Qc 1)) S hAM hH nX0_castFrom_X0 0 rfl rfl 2 (by decide) mX0_castFrom_2 rfl rfl dX0_castFrom_42 ?_
                  refine lv_iload S.1 S.2.1 dX0_castFrom_45 (lv_at hl 0 rfl) ?_
                  refine lv_dup2_11 S.1 S.2.1 dX0_castFrom_47 rfl rfl ?_
                  refine zv_iald S hAM hH 2 rfl (a) rfl (by omega) (by decide) dX0_castFrom_48 ?_
                  refine zv_top (z := roa1 a) (z2 := ((bm g a r : Nat) : Int)) (hB a (by omega)) ?_
                  refine lv_iconst (v := iI (((1 : Nat) : Int))) S.1 S.2.1 dX0_castFrom_49 (by decide) ?_
                  refine lv_iload_n S.1 S.2.1 dX0_castFrom_50 rfl (lv_at hl 2 rfl) ?_
                  refine zv_ishl (z := (((2 ^ r) : Nat) : Int)) S dX0_castFrom_51 (iI_shl1 _ (by omega)) ?_
                  refine zv_ior (z := (((bm g a r ||| (2 ^ r)) : Nat) : Int)) S dX0_castFrom_52 (iI_or _ _) ?_
                  refine zv_iast (z := (((bm g a r ||| (2 ^ r)) : Nat) : Int)) (w2 := [caW qc Qc ((n : Nat) : Int), aW X (Qc 0) 8 riv, aW X (Qc 1) 8 (uI roa1 a ((((bm g a r ||| (2 ^ r)) : Nat) : Int)))].flatten) S hAM hH hS 2 rfl (a) rfl (by omega) (by decide) rfl dX0_castFrom_53 (fun H locs hH hS => ?_)
                  refine lv_aload_n S.1 S.2.1 dX0_castFrom_54 rfl (lv_at hl 1 rfl) ?_
                  refine lv_iload_n S.1 S.2.1 dX0_castFrom_55 rfl (lv_at hl 2 rfl) ?_
                  refine lv_iconst (v := iI (((1 : Nat) : Int))) S.1 S.2.1 dX0_castFrom_56 (by decide) ?_
                  refine zv_iadd (z := (((r + 1) : Nat) : Int)) S dX0_castFrom_57 (by omega) ?_
                  refine lv_iload_n S.1 S.2.1 dX0_castFrom_58 rfl (lv_at hl 3 rfl) ?_
                  refine lv_iload S.1 S.2.1 dX0_castFrom_59 (lv_at hl 0 rfl) ?_
                  refine lv_iconst (v := iI (((1 : Nat) : Int))) S.1 S.2.1 dX0_castFrom_61 (by decide) ?_
                  refine zv_iadd (z := (((a + 1) : Nat) : Int)) S dX0_castFrom_62 (by omega) ?_
                  refine zv_mmax (z := (((max u (a + 1)) : Nat) : Int)) S hl.1 mX0_castFrom_3 mX0_castFrom_4 mX0_castFrom_5 mX0_castFrom_6 (by omega) (by omega) (by omega) (Nat.le_of_ble_eq_true rfl) (Nat.le_of_ble_eq_true rfl) (Nat.le_of_ble_eq_true rfl) (Nat.le_of_ble_eq_true rfl) dX0_castFrom_63 ?_
                  refine lv_iload_n S.1 S.2.1 dX0_castFrom_66 rfl (lv_at hl 4 rfl) ?_
                  refine zc_Si (n := 4) (As := [.ref (qc), .int (iI (((r + 1) : Nat) : Int)), .int (iI (((max u (a + 1)) : Nat) : Int)), .int (iI ((K : Nat) : Int))]) (rest := []) S hAM hA (kX0_cf4 l X qc Qc n M riv (uI roa1 a ((((bm g a r ||| (2 ^ r)) : Nat) : Int))) K (r + 1) (max u (a + 1)) (uI g r ((a : Nat) : Int)) hn hM (by omega) (by omega) (by omega) (cf_set hB)) rfl gX0_castFrom_X0_castFrom  (by decide +kernel) ⟨Nat.le_of_ble_eq_true rfl, Nat.le_of_ble_eq_true rfl⟩ hH hS [0, 1, 2] rfl 3 rfl (List.Perm.refl _)  rfl hl.1 rfl (Nat.le_of_ble_eq_true rfl) dX0_castFrom_67 ⟨Nat.le_of_ble_eq_true rfl, Nat.le_of_ble_eq_true rfl⟩ (fun z5 roa2_4 H locs hp6 hH hS => ?_)
                  have hH : Hold X A [caW qc Qc ((n : Nat) : Int), aW X (Qc 0) 8 riv, aW X (Qc 1) 8 roa2_4].flatten H := hH
                  rcases hp6 with ⟨rfl, b_67⟩ | ⟨rfl, b_67⟩
                  · refine zv_top (z := 1) (z2 := ((1 : Nat) : Int)) rfl ?_
                    obtain ⟨g2, hs_, hB2⟩ := b_67
                    refine zv_if_eq (tgt := 75) S dX0_castFrom_70 (by decide) (by decide) (fun c_70 => ?_) (fun c_70 => ?_)
                    · exact (show False by omega).elim
                    · skip
                      refine lv_iconst (v := iI (((1 : Nat) : Int))) S.1 S.2.1 dX0_castFrom_73 (by decide) ?_
                      exact hret 74 ls _ _ (((1 : Nat) : Int)) roa2_4 dX0_castFrom_74 rfl (Or.inl ⟨rfl, g2, hps.trans (tra_hit (by omega) hm_ (cf_rec hs_)), hB2⟩) hH hS
                  · refine zv_top (z := 0) (z2 := ((0 : Nat) : Int)) rfl ?_
                    obtain ⟨hs_, hB2⟩ := b_67
                    refine zv_if_eq (tgt := 75) S dX0_castFrom_70 (by decide) (by decide) (fun c_70 => ?_) (fun c_70 => ?_)
                    · skip
                      refine lv_aload_n S.1 S.2.1 dX0_castFrom_75 rfl (lv_at hl 1 rfl) ?_
                      refine zv_get (v := .ref (Qc 1)) S hAM hH nX0_castFrom_X0 0 rfl rfl 2 (by decide) mX0_castFrom_2 rfl rfl dX0_castFrom_76 ?_
                      refine lv_iload S.1 S.2.1 dX0_castFrom_79 (lv_at hl 0 rfl) ?_
                      refine lv_dup2_11 S.1 S.2.1 dX0_castFrom_81 rfl rfl ?_
                      refine zv_iald S hAM hH 2 rfl (a) rfl (by omega) (by decide) dX0_castFrom_82 ?_
                      refine zv_top (z := roa2_4 a) (z2 := (((bm g a r ||| 2 ^ r) : Nat) : Int)) (cf_at (by omega) hB2) ?_
                      refine lv_iconst (v := iI (((1 : Nat) : Int))) S.1 S.2.1 dX0_castFrom_83 (by decide) ?_
                      refine lv_iload_n S.1 S.2.1 dX0_castFrom_84 rfl (lv_at hl 2 rfl) ?_
                      refine zv_ishl (z := (((2 ^ r) : Nat) : Int)) S dX0_castFrom_85 (iI_shl1 _ (by omega)) ?_
                      refine lv_iconst (v := iI (-1)) S.1 S.2.1 dX0_castFrom_86 (by decide) ?_
                      refine zv_ixor (z := (-(((2 ^ r) : Nat) : Int) - 1)) S dX0_castFrom_87 (iI_not _) ?_
                      refine zv_iand (z := ((bm g a r : Nat) : Int)) S dX0_castFrom_88 (by rw [iI_andn, bit_clr r (by omega) _ (bm_lt g a r)]) ?_
                      refine zv_iast (z := ((bm g a r : Nat) : Int)) (w2 := [caW qc Qc ((n : Nat) : Int), aW X (Qc 0) 8 riv, aW X (Qc 1) 8 (uI roa2_4 a (((bm g a r : Nat) : Int)))].flatten) S hAM hH hS 2 rfl (a) rfl (by omega) (by decide) rfl dX0_castFrom_89 (fun H locs hH hS => ?_)
                      refine zv_iinc (z := (((a + 1) : Nat) : Int)) (lv' := [(4, .int (iI (((a + 1) : Nat) : Int))), (0, .ref (qc)), (1, .int (iI ((r : Nat) : Int))), (2, .int (iI ((u : Nat) : Int))), (3, .int (iI ((K : Nat) : Int)))]) S dX0_castFrom_90 hl (k := 0) rfl (by omega) (by decide) rfl (fun ls hl => ?_)
                      refine lv_goto (tgt := 19) S.1 S.2.1 dX0_castFrom_93 (by decide) ?_
                      exact ih19  ((a + 1)) (uI roa2_4 a (((bm g a r : Nat) : Int))) (by omega) (by omega) (cf_clr hB2) (hps.trans (tra_back (by omega) hm_ (cf_rec hs_))) _ _ hH hS ls (lv_sub hl [0, 1, 2, 3, 4] rfl)
                    · exact (show False by omega).elim
              · refine zv_top (z := 0) (z2 := ((0 : Nat) : Int)) rfl ?_
                have hm_ : mhI g (M r) ((a : Nat) : Int) r = 0 := by rcases Nat.eq_zero_or_pos (mhI g (M r) ((a : Nat) : Int) r) with z | z; (· exact z); (· exact absurd ((bm_free g a (M r) (hM r (by omega)).2 r (by omega)).mpr (by omega)) b_35)
                refine zv_if_eq (tgt := 90) S dX0_castFrom_38 (by decide) (by decide) (fun c_38 => ?_) (fun c_38 => ?_)
                · skip
                  refine zv_iinc (z := (((a + 1) : Nat) : Int)) (lv' := [(4, .int (iI (((a + 1) : Nat) : Int))), (0, .ref (qc)), (1, .int (iI ((r : Nat) : Int))), (2, .int (iI ((u : Nat) : Int))), (3, .int (iI ((K : Nat) : Int)))]) S dX0_castFrom_90 hl (k := 0) rfl (by omega) (by decide) rfl (fun ls hl => ?_)
                  refine lv_goto (tgt := 19) S.1 S.2.1 dX0_castFrom_93 (by decide) ?_
                  exact ih19  ((a + 1)) (roa1) (by omega) (by omega) hB (hps.trans (tra_no (by omega) hm_)) _ _ hH hS ls (lv_sub hl [0, 1, 2, 3, 4] rfl)
                · exact (show False by omega).elim
      exact lp19 (min (u + 1) K - (0) + 1) (0) (roa) (Nat.lt_succ_self _) (Nat.zero_le _) hB (ps_eq (d := 4) (by omega)) _ _ hH hS ls (lv_sub hl [0, 1, 2, 3, 4] rfl)
    · exact (show False by omega).elim

set_option maxHeartbeats 4000000 in
set_option maxRecDepth 100000 in
theorem kX0_cf6 (l : Launch) (X : XT) (qc : Nat) (Qc : Nat → Nat) (n : Nat) (M : Nat → Nat) (riv : Nat → Int) (roa : Nat → Int) (K : Nat) (r : Nat) (u : Nat) (g : Nat → Int) (hn : n ≤ 8) (hM : ∀ k, k < n → riv k = ((M k : Nat) : Int) ∧ M k < 256) (hrd : r + 6 = n) (hK : K ≤ 8) (hu : u ≤ 8) (hB : ∀ x, x < 8 → roa x = ((bm g x r : Nat) : Int)) : Ci l yX0_castFrom wsX0_castFrom (rmD 8) X [.ref (qc), .int (iI ((r : Nat) : Int)), .int (iI ((u : Nat) : Int)), .int (iI ((K : Nat) : Int))] [caW qc Qc ((n : Nat) : Int), aW X (Qc 0) 8 riv, aW X (Qc 1) 8 roa] (fun (z : Int) (roa2 : Nat → Int) => (z = 1 ∧ (∃ g2, ps M n K 6 g u = some g2 ∧ ∀ x, x < 8 → roa2 x = ((bm g2 x n : Nat) : Int))) ∨ (z = 0 ∧ (ps M n K 6 g u = none ∧ ∀ x, x < 8 → roa2 x = ((bm g x r : Nat) : Int)))) (fun (roa2 : Nat → Int) => [caW qc Qc ((n : Nat) : Int), aW X (Qc 0) 8 riv, aW X (Qc 1) 8 roa2]) := by
  refine Ci.ofW (cc := cX0_castFrom) (maxL := 5) (by decide) rfl (Nat.le_of_ble_eq_true rfl) ?_
  intro p_ e_ s_ m_ below meth c_ A Q_ S hA hAM hH hS hret ls hl
  have hl : lv_has ls 5 [(0, .ref (qc)), (1, .int (iI ((r : Nat) : Int))), (2, .int (iI ((u : Nat) : Int))), (3, .int (iI ((K : Nat) : Int)))] := hl
  refine lv_iload_n S.1 S.2.1 dX0_castFrom_0 rfl (lv_at hl 1 rfl) ?_
  refine lv_aload_n S.1 S.2.1 dX0_castFrom_1 rfl (lv_at hl 0 rfl) ?_
  refine zv_get (v := .int (iI ((n : Nat) : Int))) S hAM hH nX0_castFrom_X0 0 rfl rfl 0 (by decide) mX0_castFrom_1 rfl rfl dX0_castFrom_2 ?_
  refine zv_icmp_ge (tgt := 14) S dX0_castFrom_5 (by decide) (by omega) (by omega) (fun c_5 => ?_) (fun c_5 => ?_)
  · exact (show False by omega).elim
  · skip
    refine lv_iload_n S.1 S.2.1 dX0_castFrom_8 rfl (lv_at hl 1 rfl) ?_
    refine lv_bipush (v := iI (((8 : Nat) : Int))) S.1 S.2.1 dX0_castFrom_9 (by decide) ?_
    refine zv_icmp_lt (tgt := 16) S dX0_castFrom_11 (by decide) (by omega) (by decide) (fun c_11 => ?_) (fun c_11 => ?_)
    · skip
      refine lv_iconst (v := iI (((0 : Nat) : Int))) S.1 S.2.1 dX0_castFrom_16 (by decide) ?_
      refine lv_istore (lv' := [(4, .int (iI ((0 : Nat) : Int))), (0, .ref (qc)), (1, .int (iI ((r : Nat) : Int))), (2, .int (iI ((u : Nat) : Int))), (3, .int (iI ((K : Nat) : Int)))]) S.1 S.2.1 dX0_castFrom_17 hl (by decide) rfl (fun ls hl => ?_)
      have lp19 : ∀ (fu_ : Nat) (a : Nat) (roa1 : Nat → Int), min (u + 1) K - a < fu_ → (a ≤ min (u + 1) K) → (∀ x, x < 8 → roa1 x = ((bm g x r : Nat) : Int)) → (ps M n K 6 g u = trF M r (min (u + 1) K) (fun g' => ps M n K 5 g' (max u ((g' r).toNat + 1))) g (min (u + 1) K - a)) → ∀ (H : Heap) (locs : List Loc), Hold X A [caW qc Qc ((n : Nat) : Int), aW X (Qc 0) 8 riv, aW X (Qc 1) 8 roa1].flatten H → va_S A s_.heap H locs → ∀ ls : Array Slot, lv_has ls 5 [(4, .int (iI ((a : Nat) : Int))), (0, .ref (qc)), (1, .int (iI ((r : Nat) : Int))), (2, .int (iI ((u : Nat) : Int))), (3, .int (iI ((K : Nat) : Int)))] → W p_ l e_ (rmD 8) s_ m_ (List.toArray [.ref (qc), .int (iI ((r : Nat) : Int)), .int (iI ((u : Nat) : Int)), .int (iI ((K : Nat) : Int))]) below meth c_ H locs 0 0 Q_ (F0 m_ 19 ls []) := by
        intro fu_
        induction fu_ with
        | zero => intro a roa1 hmu ha hB hps H locs hH hS ls hl; exact absurd hmu (Nat.not_lt_zero _)
        | succ fu_ ih19 => 
          intro a roa1 hmu ha hB hps H locs hH hS ls hl
          refine lv_iload S.1 S.2.1 dX0_castFrom_19 (lv_at hl 0 rfl) ?_
          refine lv_iload_n S.1 S.2.1 dX0_castFrom_21 rfl (lv_at hl 3 rfl) ?_
          refine zv_icmp_gt (tgt := 96) S dX0_castFrom_22 (by decide) (by omega) (by omega) (fun c_22 => ?_) (fun c_22 => ?_)
          · skip
            refine lv_iconst (v := iI (((0 : Nat) : Int))) S.1 S.2.1 dX0_castFrom_96 (by decide) ?_
            exact hret 97 ls _ _ (((0 : Nat) : Int)) roa1 dX0_castFrom_97 rfl (Or.inr ⟨rfl, hps.trans (tra_end (by omega)), hB⟩) hH hS
          · skip
            refine lv_iload S.1 S.2.1 dX0_castFrom_25 (lv_at hl 0 rfl) ?_
            refine lv_iload_n S.1 S.2.1 dX0_castFrom_27 rfl (lv_at hl 4 rfl) ?_
            refine zv_icmp_ge (tgt := 96) S dX0_castFrom_28 (by decide) (by omega) (by omega) (fun c_28 => ?_) (fun c_28 => ?_)
            · skip
              refine lv_iconst (v := iI (((0 : Nat) : Int))) S.1 S.2.1 dX0_castFrom_96 (by decide) ?_
              exact hret 97 ls _ _ (((0 : Nat) : Int)) roa1 dX0_castFrom_97 rfl (Or.inr ⟨rfl, hps.trans (tra_end (by omega)), hB⟩) hH hS
            · skip
              refine lv_aload_n S.1 S.2.1 dX0_castFrom_31 rfl (lv_at hl 1 rfl) ?_
              refine lv_iload S.1 S.2.1 dX0_castFrom_32 (lv_at hl 0 rfl) ?_
              refine lv_iload_n S.1 S.2.1 dX0_castFrom_34 rfl (lv_at hl 2 rfl) ?_
              refine zc_Vi (n := 2) (As := [.int (iI ((a : Nat) : Int)), .int (iI ((r : Nat) : Int))]) (rest := []) S hAM hA (kX0_isFree l X qc Qc n M riv roa1 (fun x => bm g x r) a r hn hM hB (by omega) (by omega)) rfl gX0_castFrom_X0_isFree  (by decide +kernel) ⟨Nat.le_of_ble_eq_true rfl, Nat.le_of_ble_eq_true rfl⟩ hH hS [0, 1, 2] rfl 3 rfl (List.Perm.refl _) 0 0 rfl rfl rfl hl.1 rfl (Nat.le_of_ble_eq_true rfl) dX0_castFrom_35 ⟨Nat.le_of_ble_eq_true rfl, Nat.le_of_ble_eq_true rfl⟩ (fun z2 _ H locs hp3 hH hS => ?_)
              have hH : Hold X A [caW qc Qc ((n : Nat) : Int), aW X (Qc 0) 8 riv, aW X (Qc 1) 8 roa1].flatten H := hH
              rcases hp3 with ⟨rfl, b_35⟩ | ⟨rfl, b_35⟩
              · refine zv_top (z := 1) (z2 := ((1 : Nat) : Int)) rfl ?_
                have hm_ := (bm_free g a (M r) (hM r (by omega)).2 r (by omega)).mp b_35
                refine zv_if_eq (tgt := 90) S dX0_castFrom_38 (by decide) (by decide) (fun c_38 => ?_) (fun c_38 => ?_)
                · exact (show False by omega).elim
                · skip
                  refine lv_aload_n S.1 S.2.1 dX0_castFrom_41 rfl (lv_at hl 1 rfl) ?_
                  refine zv_get (v := .ref (Qc 1)) S hAM hH nX0_castFrom_X0 0 rfl rfl 2 (by decide) mX0_castFrom_2 rfl rfl dX0_castFrom_42 ?_
                  refine lv_iload S.1 S.2.1 dX0_castFrom_45 (lv_at hl 0 rfl) ?_
                  refine lv_dup2_11 S.1 S.2.1 dX0_castFrom_47 rfl rfl ?_
                  refine zv_iald S hAM hH 2 rfl (a) rfl (by omega) (by decide) dX0_castFrom_48 ?_
                  refine zv_top (z := roa1 a) (z2 := ((bm g a r : Nat) : Int)) (hB a (by omega)) ?_
                  refine lv_iconst (v := iI (((1 : Nat) : Int))) S.1 S.2.1 dX0_castFrom_49 (by decide) ?_
                  refine lv_iload_n S.1 S.2.1 dX0_castFrom_50 rfl (lv_at hl 2 rfl) ?_
                  refine zv_ishl (z := (((2 ^ r) : Nat) : Int)) S dX0_castFrom_51 (iI_shl1 _ (by omega)) ?_
                  refine zv_ior (z := (((bm g a r ||| (2 ^ r)) : Nat) : Int)) S dX0_castFrom_52 (iI_or _ _) ?_
                  refine zv_iast (z := (((bm g a r ||| (2 ^ r)) : Nat) : Int)) (w2 := [caW qc Qc ((n : Nat) : Int), aW X (Qc 0) 8 riv, aW X (Qc 1) 8 (uI roa1 a ((((bm g a r ||| (2 ^ r)) : Nat) : Int)))].flatten) S hAM hH hS 2 rfl (a) rfl (by omega) (by decide) rfl dX0_castFrom_53 (fun H locs hH hS => ?_)
                  refine lv_aload_n S.1 S.2.1 dX0_castFrom_54 rfl (lv_at hl 1 rfl) ?_
                  refine lv_iload_n S.1 S.2.1 dX0_castFrom_55 rfl (lv_at hl 2 rfl) ?_
                  refine lv_iconst (v := iI (((1 : Nat) : Int))) S.1 S.2.1 dX0_castFrom_56 (by decide) ?_
                  refine zv_iadd (z := (((r + 1) : Nat) : Int)) S dX0_castFrom_57 (by omega) ?_
                  refine lv_iload_n S.1 S.2.1 dX0_castFrom_58 rfl (lv_at hl 3 rfl) ?_
                  refine lv_iload S.1 S.2.1 dX0_castFrom_59 (lv_at hl 0 rfl) ?_
                  refine lv_iconst (v := iI (((1 : Nat) : Int))) S.1 S.2.1 dX0_castFrom_61 (by decide) ?_
                  refine zv_iadd (z := (((a + 1) : Nat) : Int)) S dX0_castFrom_62 (by omega) ?_
                  refine zv_mmax (z := (((max u (a + 1)) : Nat) : Int)) S hl.1 mX0_castFrom_3 mX0_castFrom_4 mX0_castFrom_5 mX0_castFrom_6 (by omega) (by omega) (by omega) (Nat.le_of_ble_eq_true rfl) (Nat.le_of_ble_eq_true rfl) (Nat.le_of_ble_eq_true rfl) (Nat.le_of_ble_eq_true rfl) dX0_castFrom_63 ?_
                  refine lv_iload_n S.1 S.2.1 dX0_castFrom_66 rfl (lv_at hl 4 rfl) ?_
                  refine zc_Si (n := 4) (As := [.ref (qc), .int (iI (((r + 1) : Nat) : Int)), .int (iI (((max u (a + 1)) : Nat) : Int)), .int (iI ((K : Nat) : Int))]) (rest := []) S hAM hA (kX0_cf5 l X qc Qc n M riv (uI roa1 a ((((bm g a r ||| (2 ^ r)) : Nat) : Int))) K (r + 1) (max u (a + 1)) (uI g r ((a : Nat) : Int)) hn hM (by omega) (by omega) (by omega) (cf_set hB)) rfl gX0_castFrom_X0_castFrom  (by decide +kernel) ⟨Nat.le_of_ble_eq_true rfl, Nat.le_of_ble_eq_true rfl⟩ hH hS [0, 1, 2] rfl 3 rfl (List.Perm.refl _)  rfl hl.1 rfl (Nat.le_of_ble_eq_true rfl) dX0_castFrom_67 ⟨Nat.le_of_ble_eq_true rfl, Nat.le_of_ble_eq_true rfl⟩ (fun z5 roa2_4 H locs hp6 hH hS => ?_)
                  have hH : Hold X A [caW qc Qc ((n : Nat) : Int), aW X (Qc 0) 8 riv, aW X (Qc 1) 8 roa2_4].flatten H := hH
                  rcases hp6 with ⟨rfl, b_67⟩ | ⟨rfl, b_67⟩
                  · refine zv_top (z := 1) (z2 := ((1 : Nat) : Int)) rfl ?_
                    obtain ⟨g2, hs_, hB2⟩ := b_67
                    refine zv_if_eq (tgt := 75) S dX0_castFrom_70 (by decide) (by decide) (fun c_70 => ?_) (fun c_70 => ?_)
                    · exact (show False by omega).elim
                    · skip
                      refine lv_iconst (v := iI (((1 : Nat) : Int))) S.1 S.2.1 dX0_castFrom_73 (by decide) ?_
                      exact hret 74 ls _ _ (((1 : Nat) : Int)) roa2_4 dX0_castFrom_74 rfl (Or.inl ⟨rfl, g2, hps.trans (tra_hit (by omega) hm_ (cf_rec hs_)), hB2⟩) hH hS
                  · refine zv_top (z := 0) (z2 := ((0 : Nat) : Int)) rfl ?_
                    obtain ⟨hs_, hB2⟩ := b_67
                    refine zv_if_eq (tgt := 75) S dX0_castFrom_70 (by decide) (by decide) (fun c_70 => ?_) (fun c_70 => ?_)
                    · skip
                      refine lv_aload_n S.1 S.2.1 dX0_castFrom_75 rfl (lv_at hl 1 rfl) ?_
                      refine zv_get (v := .ref (Qc 1)) S hAM hH nX0_castFrom_X0 0 rfl rfl 2 (by decide) mX0_castFrom_2 rfl rfl dX0_castFrom_76 ?_
                      refine lv_iload S.1 S.2.1 dX0_castFrom_79 (lv_at hl 0 rfl) ?_
                      refine lv_dup2_11 S.1 S.2.1 dX0_castFrom_81 rfl rfl ?_
                      refine zv_iald S hAM hH 2 rfl (a) rfl (by omega) (by decide) dX0_castFrom_82 ?_
                      refine zv_top (z := roa2_4 a) (z2 := (((bm g a r ||| 2 ^ r) : Nat) : Int)) (cf_at (by omega) hB2) ?_
                      refine lv_iconst (v := iI (((1 : Nat) : Int))) S.1 S.2.1 dX0_castFrom_83 (by decide) ?_
                      refine lv_iload_n S.1 S.2.1 dX0_castFrom_84 rfl (lv_at hl 2 rfl) ?_
                      refine zv_ishl (z := (((2 ^ r) : Nat) : Int)) S dX0_castFrom_85 (iI_shl1 _ (by omega)) ?_
                      refine lv_iconst (v := iI (-1)) S.1 S.2.1 dX0_castFrom_86 (by decide) ?_
                      refine zv_ixor (z := (-(((2 ^ r) : Nat) : Int) - 1)) S dX0_castFrom_87 (iI_not _) ?_
                      refine zv_iand (z := ((bm g a r : Nat) : Int)) S dX0_castFrom_88 (by rw [iI_andn, bit_clr r (by omega) _ (bm_lt g a r)]) ?_
                      refine zv_iast (z := ((bm g a r : Nat) : Int)) (w2 := [caW qc Qc ((n : Nat) : Int), aW X (Qc 0) 8 riv, aW X (Qc 1) 8 (uI roa2_4 a (((bm g a r : Nat) : Int)))].flatten) S hAM hH hS 2 rfl (a) rfl (by omega) (by decide) rfl dX0_castFrom_89 (fun H locs hH hS => ?_)
                      refine zv_iinc (z := (((a + 1) : Nat) : Int)) (lv' := [(4, .int (iI (((a + 1) : Nat) : Int))), (0, .ref (qc)), (1, .int (iI ((r : Nat) : Int))), (2, .int (iI ((u : Nat) : Int))), (3, .int (iI ((K : Nat) : Int)))]) S dX0_castFrom_90 hl (k := 0) rfl (by omega) (by decide) rfl (fun ls hl => ?_)
                      refine lv_goto (tgt := 19) S.1 S.2.1 dX0_castFrom_93 (by decide) ?_
                      exact ih19  ((a + 1)) (uI roa2_4 a (((bm g a r : Nat) : Int))) (by omega) (by omega) (cf_clr hB2) (hps.trans (tra_back (by omega) hm_ (cf_rec hs_))) _ _ hH hS ls (lv_sub hl [0, 1, 2, 3, 4] rfl)
                    · exact (show False by omega).elim
              · refine zv_top (z := 0) (z2 := ((0 : Nat) : Int)) rfl ?_
                have hm_ : mhI g (M r) ((a : Nat) : Int) r = 0 := by rcases Nat.eq_zero_or_pos (mhI g (M r) ((a : Nat) : Int) r) with z | z; (· exact z); (· exact absurd ((bm_free g a (M r) (hM r (by omega)).2 r (by omega)).mpr (by omega)) b_35)
                refine zv_if_eq (tgt := 90) S dX0_castFrom_38 (by decide) (by decide) (fun c_38 => ?_) (fun c_38 => ?_)
                · skip
                  refine zv_iinc (z := (((a + 1) : Nat) : Int)) (lv' := [(4, .int (iI (((a + 1) : Nat) : Int))), (0, .ref (qc)), (1, .int (iI ((r : Nat) : Int))), (2, .int (iI ((u : Nat) : Int))), (3, .int (iI ((K : Nat) : Int)))]) S dX0_castFrom_90 hl (k := 0) rfl (by omega) (by decide) rfl (fun ls hl => ?_)
                  refine lv_goto (tgt := 19) S.1 S.2.1 dX0_castFrom_93 (by decide) ?_
                  exact ih19  ((a + 1)) (roa1) (by omega) (by omega) hB (hps.trans (tra_no (by omega) hm_)) _ _ hH hS ls (lv_sub hl [0, 1, 2, 3, 4] rfl)
                · exact (show False by omega).elim
      exact lp19 (min (u + 1) K - (0) + 1) (0) (roa) (Nat.lt_succ_self _) (Nat.zero_le _) hB (ps_eq (d := 5) (by omega)) _ _ hH hS ls (lv_sub hl [0, 1, 2, 3, 4] rfl)
    · exact (show False by omega).elim

set_option maxHeartbeats 4000000 in
set_option maxRecDepth 100000 in
theorem kX0_cf7 (l : Launch) (X : XT) (qc : Nat) (Qc : Nat → Nat) (n : Nat) (M : Nat → Nat) (riv : Nat → Int) (roa : Nat → Int) (K : Nat) (r : Nat) (u : Nat) (g : Nat → Int) (hn : n ≤ 8) (hM : ∀ k, k < n → riv k = ((M k : Nat) : Int) ∧ M k < 256) (hrd : r + 7 = n) (hK : K ≤ 8) (hu : u ≤ 8) (hB : ∀ x, x < 8 → roa x = ((bm g x r : Nat) : Int)) : Ci l yX0_castFrom wsX0_castFrom (rmD 9) X [.ref (qc), .int (iI ((r : Nat) : Int)), .int (iI ((u : Nat) : Int)), .int (iI ((K : Nat) : Int))] [caW qc Qc ((n : Nat) : Int), aW X (Qc 0) 8 riv, aW X (Qc 1) 8 roa] (fun (z : Int) (roa2 : Nat → Int) => (z = 1 ∧ (∃ g2, ps M n K 7 g u = some g2 ∧ ∀ x, x < 8 → roa2 x = ((bm g2 x n : Nat) : Int))) ∨ (z = 0 ∧ (ps M n K 7 g u = none ∧ ∀ x, x < 8 → roa2 x = ((bm g x r : Nat) : Int)))) (fun (roa2 : Nat → Int) => [caW qc Qc ((n : Nat) : Int), aW X (Qc 0) 8 riv, aW X (Qc 1) 8 roa2]) := by
  refine Ci.ofW (cc := cX0_castFrom) (maxL := 5) (by decide) rfl (Nat.le_of_ble_eq_true rfl) ?_
  intro p_ e_ s_ m_ below meth c_ A Q_ S hA hAM hH hS hret ls hl
  have hl : lv_has ls 5 [(0, .ref (qc)), (1, .int (iI ((r : Nat) : Int))), (2, .int (iI ((u : Nat) : Int))), (3, .int (iI ((K : Nat) : Int)))] := hl
  refine lv_iload_n S.1 S.2.1 dX0_castFrom_0 rfl (lv_at hl 1 rfl) ?_
  refine lv_aload_n S.1 S.2.1 dX0_castFrom_1 rfl (lv_at hl 0 rfl) ?_
  refine zv_get (v := .int (iI ((n : Nat) : Int))) S hAM hH nX0_castFrom_X0 0 rfl rfl 0 (by decide) mX0_castFrom_1 rfl rfl dX0_castFrom_2 ?_
  refine zv_icmp_ge (tgt := 14) S dX0_castFrom_5 (by decide) (by omega) (by omega) (fun c_5 => ?_) (fun c_5 => ?_)
  · exact (show False by omega).elim
  · skip
    refine lv_iload_n S.1 S.2.1 dX0_castFrom_8 rfl (lv_at hl 1 rfl) ?_
    refine lv_bipush (v := iI (((8 : Nat) : Int))) S.1 S.2.1 dX0_castFrom_9 (by decide) ?_
    refine zv_icmp_lt (tgt := 16) S dX0_castFrom_11 (by decide) (by omega) (by decide) (fun c_11 => ?_) (fun c_11 => ?_)
    · skip
      refine lv_iconst (v := iI (((0 : Nat) : Int))) S.1 S.2.1 dX0_castFrom_16 (by decide) ?_
      refine lv_istore (lv' := [(4, .int (iI ((0 : Nat) : Int))), (0, .ref (qc)), (1, .int (iI ((r : Nat) : Int))), (2, .int (iI ((u : Nat) : Int))), (3, .int (iI ((K : Nat) : Int)))]) S.1 S.2.1 dX0_castFrom_17 hl (by decide) rfl (fun ls hl => ?_)
      have lp19 : ∀ (fu_ : Nat) (a : Nat) (roa1 : Nat → Int), min (u + 1) K - a < fu_ → (a ≤ min (u + 1) K) → (∀ x, x < 8 → roa1 x = ((bm g x r : Nat) : Int)) → (ps M n K 7 g u = trF M r (min (u + 1) K) (fun g' => ps M n K 6 g' (max u ((g' r).toNat + 1))) g (min (u + 1) K - a)) → ∀ (H : Heap) (locs : List Loc), Hold X A [caW qc Qc ((n : Nat) : Int), aW X (Qc 0) 8 riv, aW X (Qc 1) 8 roa1].flatten H → va_S A s_.heap H locs → ∀ ls : Array Slot, lv_has ls 5 [(4, .int (iI ((a : Nat) : Int))), (0, .ref (qc)), (1, .int (iI ((r : Nat) : Int))), (2, .int (iI ((u : Nat) : Int))), (3, .int (iI ((K : Nat) : Int)))] → W p_ l e_ (rmD 9) s_ m_ (List.toArray [.ref (qc), .int (iI ((r : Nat) : Int)), .int (iI ((u : Nat) : Int)), .int (iI ((K : Nat) : Int))]) below meth c_ H locs 0 0 Q_ (F0 m_ 19 ls []) := by
        intro fu_
        induction fu_ with
        | zero => intro a roa1 hmu ha hB hps H locs hH hS ls hl; exact absurd hmu (Nat.not_lt_zero _)
        | succ fu_ ih19 => 
          intro a roa1 hmu ha hB hps H locs hH hS ls hl
          refine lv_iload S.1 S.2.1 dX0_castFrom_19 (lv_at hl 0 rfl) ?_
          refine lv_iload_n S.1 S.2.1 dX0_castFrom_21 rfl (lv_at hl 3 rfl) ?_
          refine zv_icmp_gt (tgt := 96) S dX0_castFrom_22 (by decide) (by omega) (by omega) (fun c_22 => ?_) (fun c_22 => ?_)
          · skip
            refine lv_iconst (v := iI (((0 : Nat) : Int))) S.1 S.2.1 dX0_castFrom_96 (by decide) ?_
            exact hret 97 ls _ _ (((0 : Nat) : Int)) roa1 dX0_castFrom_97 rfl (Or.inr ⟨rfl, hps.trans (tra_end (by omega)), hB⟩) hH hS
          · skip
            refine lv_iload S.1 S.2.1 dX0_castFrom_25 (lv_at hl 0 rfl) ?_
            refine lv_iload_n S.1 S.2.1 dX0_castFrom_27 rfl (lv_at hl 4 rfl) ?_
            refine zv_icmp_ge (tgt := 96) S dX0_castFrom_28 (by decide) (by omega) (by omega) (fun c_28 => ?_) (fun c_28 => ?_)
            · skip
              refine lv_iconst (v := iI (((0 : Nat) : Int))) S.1 S.2.1 dX0_castFrom_96 (by decide) ?_
              exact hret 97 ls _ _ (((0 : Nat) : Int)) roa1 dX0_castFrom_97 rfl (Or.inr ⟨rfl, hps.trans (tra_end (by omega)), hB⟩) hH hS
            · skip
              refine lv_aload_n S.1 S.2.1 dX0_castFrom_31 rfl (lv_at hl 1 rfl) ?_
              refine lv_iload S.1 S.2.1 dX0_castFrom_32 (lv_at hl 0 rfl) ?_
              refine lv_iload_n S.1 S.2.1 dX0_castFrom_34 rfl (lv_at hl 2 rfl) ?_
              refine zc_Vi (n := 2) (As := [.int (iI ((a : Nat) : Int)), .int (iI ((r : Nat) : Int))]) (rest := []) S hAM hA (kX0_isFree l X qc Qc n M riv roa1 (fun x => bm g x r) a r hn hM hB (by omega) (by omega)) rfl gX0_castFrom_X0_isFree  (by decide +kernel) ⟨Nat.le_of_ble_eq_true rfl, Nat.le_of_ble_eq_true rfl⟩ hH hS [0, 1, 2] rfl 3 rfl (List.Perm.refl _) 0 0 rfl rfl rfl hl.1 rfl (Nat.le_of_ble_eq_true rfl) dX0_castFrom_35 ⟨Nat.le_of_ble_eq_true rfl, Nat.le_of_ble_eq_true rfl⟩ (fun z2 _ H locs hp3 hH hS => ?_)
              have hH : Hold X A [caW qc Qc ((n : Nat) : Int), aW X (Qc 0) 8 riv, aW X (Qc 1) 8 roa1].flatten H := hH
              rcases hp3 with ⟨rfl, b_35⟩ | ⟨rfl, b_35⟩
              · refine zv_top (z := 1) (z2 := ((1 : Nat) : Int)) rfl ?_
                have hm_ := (bm_free g a (M r) (hM r (by omega)).2 r (by omega)).mp b_35
                refine zv_if_eq (tgt := 90) S dX0_castFrom_38 (by decide) (by decide) (fun c_38 => ?_) (fun c_38 => ?_)
                · exact (show False by omega).elim
                · skip
                  refine lv_aload_n S.1 S.2.1 dX0_castFrom_41 rfl (lv_at hl 1 rfl) ?_
                  refine zv_get (v := .ref (Qc 1)) S hAM hH nX0_castFrom_X0 0 rfl rfl 2 (by decide) mX0_castFrom_2 rfl rfl dX0_castFrom_42 ?_
                  refine lv_iload S.1 S.2.1 dX0_castFrom_45 (lv_at hl 0 rfl) ?_
                  refine lv_dup2_11 S.1 S.2.1 dX0_castFrom_47 rfl rfl ?_
                  refine zv_iald S hAM hH 2 rfl (a) rfl (by omega) (by decide) dX0_castFrom_48 ?_
                  refine zv_top (z := roa1 a) (z2 := ((bm g a r : Nat) : Int)) (hB a (by omega)) ?_
                  refine lv_iconst (v := iI (((1 : Nat) : Int))) S.1 S.2.1 dX0_castFrom_49 (by decide) ?_
                  refine lv_iload_n S.1 S.2.1 dX0_castFrom_50 rfl (lv_at hl 2 rfl) ?_
                  refine zv_ishl (z := (((2 ^ r) : Nat) : Int)) S dX0_castFrom_51 (iI_shl1 _ (by omega)) ?_
                  refine zv_ior (z := (((bm g a r ||| (2 ^ r)) : Nat) : Int)) S dX0_castFrom_52 (iI_or _ _) ?_
                  refine zv_iast (z := (((bm g a r ||| (2 ^ r)) : Nat) : Int)) (w2 := [caW qc Qc ((n : Nat) : Int), aW X (Qc 0) 8 riv, aW X (Qc 1) 8 (uI roa1 a ((((bm g a r ||| (2 ^ r)) : Nat) : Int)))].flatten) S hAM hH hS 2 rfl (a) rfl (by omega) (by decide) rfl dX0_castFrom_53 (fun H locs hH hS => ?_)
                  refine lv_aload_n S.1 S.2.1 dX0_castFrom_54 rfl (lv_at hl 1 rfl) ?_
                  refine lv_iload_n S.1 S.2.1 dX0_castFrom_55 rfl (lv_at hl 2 rfl) ?_
                  refine lv_iconst (v := iI (((1 : Nat) : Int))) S.1 S.2.1 dX0_castFrom_56 (by decide) ?_
                  refine zv_iadd (z := (((r + 1) : Nat) : Int)) S dX0_castFrom_57 (by omega) ?_
                  refine lv_iload_n S.1 S.2.1 dX0_castFrom_58 rfl (lv_at hl 3 rfl) ?_
                  refine lv_iload S.1 S.2.1 dX0_castFrom_59 (lv_at hl 0 rfl) ?_
                  refine lv_iconst (v := iI (((1 : Nat) : Int))) S.1 S.2.1 dX0_castFrom_61 (by decide) ?_
                  refine zv_iadd (z := (((a + 1) : Nat) : Int)) S dX0_castFrom_62 (by omega) ?_
                  refine zv_mmax (z := (((max u (a + 1)) : Nat) : Int)) S hl.1 mX0_castFrom_3 mX0_castFrom_4 mX0_castFrom_5 mX0_castFrom_6 (by omega) (by omega) (by omega) (Nat.le_of_ble_eq_true rfl) (Nat.le_of_ble_eq_true rfl) (Nat.le_of_ble_eq_true rfl) (Nat.le_of_ble_eq_true rfl) dX0_castFrom_63 ?_
                  refine lv_iload_n S.1 S.2.1 dX0_castFrom_66 rfl (lv_at hl 4 rfl) ?_
                  refine zc_Si (n := 4) (As := [.ref (qc), .int (iI (((r + 1) : Nat) : Int)), .int (iI (((max u (a + 1)) : Nat) : Int)), .int (iI ((K : Nat) : Int))]) (rest := []) S hAM hA (kX0_cf6 l X qc Qc n M riv (uI roa1 a ((((bm g a r ||| (2 ^ r)) : Nat) : Int))) K (r + 1) (max u (a + 1)) (uI g r ((a : Nat) : Int)) hn hM (by omega) (by omega) (by omega) (cf_set hB)) rfl gX0_castFrom_X0_castFrom  (by decide +kernel) ⟨Nat.le_of_ble_eq_true rfl, Nat.le_of_ble_eq_true rfl⟩ hH hS [0, 1, 2] rfl 3 rfl (List.Perm.refl _)  rfl hl.1 rfl (Nat.le_of_ble_eq_true rfl) dX0_castFrom_67 ⟨Nat.le_of_ble_eq_true rfl, Nat.le_of_ble_eq_true rfl⟩ (fun z5 roa2_4 H locs hp6 hH hS => ?_)
                  have hH : Hold X A [caW qc Qc ((n : Nat) : Int), aW X (Qc 0) 8 riv, aW X (Qc 1) 8 roa2_4].flatten H := hH
                  rcases hp6 with ⟨rfl, b_67⟩ | ⟨rfl, b_67⟩
                  · refine zv_top (z := 1) (z2 := ((1 : Nat) : Int)) rfl ?_
                    obtain ⟨g2, hs_, hB2⟩ := b_67
                    refine zv_if_eq (tgt := 75) S dX0_castFrom_70 (by decide) (by decide) (fun c_70 => ?_) (fun c_70 => ?_)
                    · exact (show False by omega).elim
                    · skip
                      refine lv_iconst (v := iI (((1 : Nat) : Int))) S.1 S.2.1 dX0_castFrom_73 (by decide) ?_
                      exact hret 74 ls _ _ (((1 : Nat) : Int)) roa2_4 dX0_castFrom_74 rfl (Or.inl ⟨rfl, g2, hps.trans (tra_hit (by omega) hm_ (cf_rec hs_)), hB2⟩) hH hS
                  · refine zv_top (z := 0) (z2 := ((0 : Nat) : Int)) rfl ?_
                    obtain ⟨hs_, hB2⟩ := b_67
                    refine zv_if_eq (tgt := 75) S dX0_castFrom_70 (by decide) (by decide) (fun c_70 => ?_) (fun c_70 => ?_)
                    · skip
                      refine lv_aload_n S.1 S.2.1 dX0_castFrom_75 rfl (lv_at hl 1 rfl) ?_
                      refine zv_get (v := .ref (Qc 1)) S hAM hH nX0_castFrom_X0 0 rfl rfl 2 (by decide) mX0_castFrom_2 rfl rfl dX0_castFrom_76 ?_
                      refine lv_iload S.1 S.2.1 dX0_castFrom_79 (lv_at hl 0 rfl) ?_
                      refine lv_dup2_11 S.1 S.2.1 dX0_castFrom_81 rfl rfl ?_
                      refine zv_iald S hAM hH 2 rfl (a) rfl (by omega) (by decide) dX0_castFrom_82 ?_
                      refine zv_top (z := roa2_4 a) (z2 := (((bm g a r ||| 2 ^ r) : Nat) : Int)) (cf_at (by omega) hB2) ?_
                      refine lv_iconst (v := iI (((1 : Nat) : Int))) S.1 S.2.1 dX0_castFrom_83 (by decide) ?_
                      refine lv_iload_n S.1 S.2.1 dX0_castFrom_84 rfl (lv_at hl 2 rfl) ?_
                      refine zv_ishl (z := (((2 ^ r) : Nat) : Int)) S dX0_castFrom_85 (iI_shl1 _ (by omega)) ?_
                      refine lv_iconst (v := iI (-1)) S.1 S.2.1 dX0_castFrom_86 (by decide) ?_
                      refine zv_ixor (z := (-(((2 ^ r) : Nat) : Int) - 1)) S dX0_castFrom_87 (iI_not _) ?_
                      refine zv_iand (z := ((bm g a r : Nat) : Int)) S dX0_castFrom_88 (by rw [iI_andn, bit_clr r (by omega) _ (bm_lt g a r)]) ?_
                      refine zv_iast (z := ((bm g a r : Nat) : Int)) (w2 := [caW qc Qc ((n : Nat) : Int), aW X (Qc 0) 8 riv, aW X (Qc 1) 8 (uI roa2_4 a (((bm g a r : Nat) : Int)))].flatten) S hAM hH hS 2 rfl (a) rfl (by omega) (by decide) rfl dX0_castFrom_89 (fun H locs hH hS => ?_)
                      refine zv_iinc (z := (((a + 1) : Nat) : Int)) (lv' := [(4, .int (iI (((a + 1) : Nat) : Int))), (0, .ref (qc)), (1, .int (iI ((r : Nat) : Int))), (2, .int (iI ((u : Nat) : Int))), (3, .int (iI ((K : Nat) : Int)))]) S dX0_castFrom_90 hl (k := 0) rfl (by omega) (by decide) rfl (fun ls hl => ?_)
                      refine lv_goto (tgt := 19) S.1 S.2.1 dX0_castFrom_93 (by decide) ?_
                      exact ih19  ((a + 1)) (uI roa2_4 a (((bm g a r : Nat) : Int))) (by omega) (by omega) (cf_clr hB2) (hps.trans (tra_back (by omega) hm_ (cf_rec hs_))) _ _ hH hS ls (lv_sub hl [0, 1, 2, 3, 4] rfl)
                    · exact (show False by omega).elim
              · refine zv_top (z := 0) (z2 := ((0 : Nat) : Int)) rfl ?_
                have hm_ : mhI g (M r) ((a : Nat) : Int) r = 0 := by rcases Nat.eq_zero_or_pos (mhI g (M r) ((a : Nat) : Int) r) with z | z; (· exact z); (· exact absurd ((bm_free g a (M r) (hM r (by omega)).2 r (by omega)).mpr (by omega)) b_35)
                refine zv_if_eq (tgt := 90) S dX0_castFrom_38 (by decide) (by decide) (fun c_38 => ?_) (fun c_38 => ?_)
                · skip
                  refine zv_iinc (z := (((a + 1) : Nat) : Int)) (lv' := [(4, .int (iI (((a + 1) : Nat) : Int))), (0, .ref (qc)), (1, .int (iI ((r : Nat) : Int))), (2, .int (iI ((u : Nat) : Int))), (3, .int (iI ((K : Nat) : Int)))]) S dX0_castFrom_90 hl (k := 0) rfl (by omega) (by decide) rfl (fun ls hl => ?_)
                  refine lv_goto (tgt := 19) S.1 S.2.1 dX0_castFrom_93 (by decide) ?_
                  exact ih19  ((a + 1)) (roa1) (by omega) (by omega) hB (hps.trans (tra_no (by omega) hm_)) _ _ hH hS ls (lv_sub hl [0, 1, 2, 3, 4] rfl)
                · exact (show False by omega).elim
      exact lp19 (min (u + 1) K - (0) + 1) (0) (roa) (Nat.lt_succ_self _) (Nat.zero_le _) hB (ps_eq (d := 6) (by omega)) _ _ hH hS ls (lv_sub hl [0, 1, 2, 3, 4] rfl)
    · exact (show False by omega).elim

set_option maxHeartbeats 4000000 in
set_option maxRecDepth 100000 in
theorem kX0_cf8 (l : Launch) (X : XT) (qc : Nat) (Qc : Nat → Nat) (n : Nat) (M : Nat → Nat) (riv : Nat → Int) (roa : Nat → Int) (K : Nat) (r : Nat) (u : Nat) (g : Nat → Int) (hn : n ≤ 8) (hM : ∀ k, k < n → riv k = ((M k : Nat) : Int) ∧ M k < 256) (hrd : r + 8 = n) (hK : K ≤ 8) (hu : u ≤ 8) (hB : ∀ x, x < 8 → roa x = ((bm g x r : Nat) : Int)) : Ci l yX0_castFrom wsX0_castFrom (rmD 10) X [.ref (qc), .int (iI ((r : Nat) : Int)), .int (iI ((u : Nat) : Int)), .int (iI ((K : Nat) : Int))] [caW qc Qc ((n : Nat) : Int), aW X (Qc 0) 8 riv, aW X (Qc 1) 8 roa] (fun (z : Int) (roa2 : Nat → Int) => (z = 1 ∧ (∃ g2, ps M n K 8 g u = some g2 ∧ ∀ x, x < 8 → roa2 x = ((bm g2 x n : Nat) : Int))) ∨ (z = 0 ∧ (ps M n K 8 g u = none ∧ ∀ x, x < 8 → roa2 x = ((bm g x r : Nat) : Int)))) (fun (roa2 : Nat → Int) => [caW qc Qc ((n : Nat) : Int), aW X (Qc 0) 8 riv, aW X (Qc 1) 8 roa2]) := by
  refine Ci.ofW (cc := cX0_castFrom) (maxL := 5) (by decide) rfl (Nat.le_of_ble_eq_true rfl) ?_
  intro p_ e_ s_ m_ below meth c_ A Q_ S hA hAM hH hS hret ls hl
  have hl : lv_has ls 5 [(0, .ref (qc)), (1, .int (iI ((r : Nat) : Int))), (2, .int (iI ((u : Nat) : Int))), (3, .int (iI ((K : Nat) : Int)))] := hl
  refine lv_iload_n S.1 S.2.1 dX0_castFrom_0 rfl (lv_at hl 1 rfl) ?_
  refine lv_aload_n S.1 S.2.1 dX0_castFrom_1 rfl (lv_at hl 0 rfl) ?_
  refine zv_get (v := .int (iI ((n : Nat) : Int))) S hAM hH nX0_castFrom_X0 0 rfl rfl 0 (by decide) mX0_castFrom_1 rfl rfl dX0_castFrom_2 ?_
  refine zv_icmp_ge (tgt := 14) S dX0_castFrom_5 (by decide) (by omega) (by omega) (fun c_5 => ?_) (fun c_5 => ?_)
  · exact (show False by omega).elim
  · skip
    refine lv_iload_n S.1 S.2.1 dX0_castFrom_8 rfl (lv_at hl 1 rfl) ?_
    refine lv_bipush (v := iI (((8 : Nat) : Int))) S.1 S.2.1 dX0_castFrom_9 (by decide) ?_
    refine zv_icmp_lt (tgt := 16) S dX0_castFrom_11 (by decide) (by omega) (by decide) (fun c_11 => ?_) (fun c_11 => ?_)
    · skip
      refine lv_iconst (v := iI (((0 : Nat) : Int))) S.1 S.2.1 dX0_castFrom_16 (by decide) ?_
      refine lv_istore (lv' := [(4, .int (iI ((0 : Nat) : Int))), (0, .ref (qc)), (1, .int (iI ((r : Nat) : Int))), (2, .int (iI ((u : Nat) : Int))), (3, .int (iI ((K : Nat) : Int)))]) S.1 S.2.1 dX0_castFrom_17 hl (by decide) rfl (fun ls hl => ?_)
      have lp19 : ∀ (fu_ : Nat) (a : Nat) (roa1 : Nat → Int), min (u + 1) K - a < fu_ → (a ≤ min (u + 1) K) → (∀ x, x < 8 → roa1 x = ((bm g x r : Nat) : Int)) → (ps M n K 8 g u = trF M r (min (u + 1) K) (fun g' => ps M n K 7 g' (max u ((g' r).toNat + 1))) g (min (u + 1) K - a)) → ∀ (H : Heap) (locs : List Loc), Hold X A [caW qc Qc ((n : Nat) : Int), aW X (Qc 0) 8 riv, aW X (Qc 1) 8 roa1].flatten H → va_S A s_.heap H locs → ∀ ls : Array Slot, lv_has ls 5 [(4, .int (iI ((a : Nat) : Int))), (0, .ref (qc)), (1, .int (iI ((r : Nat) : Int))), (2, .int (iI ((u : Nat) : Int))), (3, .int (iI ((K : Nat) : Int)))] → W p_ l e_ (rmD 10) s_ m_ (List.toArray [.ref (qc), .int (iI ((r : Nat) : Int)), .int (iI ((u : Nat) : Int)), .int (iI ((K : Nat) : Int))]) below meth c_ H locs 0 0 Q_ (F0 m_ 19 ls []) := by
        intro fu_
        induction fu_ with
        | zero => intro a roa1 hmu ha hB hps H locs hH hS ls hl; exact absurd hmu (Nat.not_lt_zero _)
        | succ fu_ ih19 => 
          intro a roa1 hmu ha hB hps H locs hH hS ls hl
          refine lv_iload S.1 S.2.1 dX0_castFrom_19 (lv_at hl 0 rfl) ?_
          refine lv_iload_n S.1 S.2.1 dX0_castFrom_21 rfl (lv_at hl 3 rfl) ?_
          refine zv_icmp_gt (tgt := 96) S dX0_castFrom_22 (by decide) (by omega) (by omega) (fun c_22 => ?_) (fun c_22 => ?_)
          · skip
            refine lv_iconst (v := iI (((0 : Nat) : Int))) S.1 S.2.1 dX0_castFrom_96 (by decide) ?_
            exact hret 97 ls _ _ (((0 : Nat) : Int)) roa1 dX0_castFrom_97 rfl (Or.inr ⟨rfl, hps.trans (tra_end (by omega)), hB⟩) hH hS
          · skip
            refine lv_iload S.1 S.2.1 dX0_castFrom_25 (lv_at hl 0 rfl) ?_
            refine lv_iload_n S.1 S.2.1 dX0_castFrom_27 rfl (lv_at hl 4 rfl) ?_
            refine zv_icmp_ge (tgt := 96) S dX0_castFrom_28 (by decide) (by omega) (by omega) (fun c_28 => ?_) (fun c_28 => ?_)
            · skip
              refine lv_iconst (v := iI (((0 : Nat) : Int))) S.1 S.2.1 dX0_castFrom_96 (by decide) ?_
              exact hret 97 ls _ _ (((0 : Nat) : Int)) roa1 dX0_castFrom_97 rfl (Or.inr ⟨rfl, hps.trans (tra_end (by omega)), hB⟩) hH hS
            · skip
              refine lv_aload_n S.1 S.2.1 dX0_castFrom_31 rfl (lv_at hl 1 rfl) ?_
              refine lv_iload S.1 S.2.1 dX0_castFrom_32 (lv_at hl 0 rfl) ?_
              refine lv_iload_n S.1 S.2.1 dX0_castFrom_34 rfl (lv_at hl 2 rfl) ?_
              refine zc_Vi (n := 2) (As := [.int (iI ((a : Nat) : Int)), .int (iI ((r : Nat) : Int))]) (rest := []) S hAM hA (kX0_isFree l X qc Qc n M riv roa1 (fun x => bm g x r) a r hn hM hB (by omega) (by omega)) rfl gX0_castFrom_X0_isFree  (by decide +kernel) ⟨Nat.le_of_ble_eq_true rfl, Nat.le_of_ble_eq_true rfl⟩ hH hS [0, 1, 2] rfl 3 rfl (List.Perm.refl _) 0 0 rfl rfl rfl hl.1 rfl (Nat.le_of_ble_eq_true rfl) dX0_castFrom_35 ⟨Nat.le_of_ble_eq_true rfl, Nat.le_of_ble_eq_true rfl⟩ (fun z2 _ H locs hp3 hH hS => ?_)
              have hH : Hold X A [caW qc Qc ((n : Nat) : Int), aW X (Qc 0) 8 riv, aW X (Qc 1) 8 roa1].flatten H := hH
              rcases hp3 with ⟨rfl, b_35⟩ | ⟨rfl, b_35⟩
              · refine zv_top (z := 1) (z2 := ((1 : Nat) : Int)) rfl ?_
                have hm_ := (bm_free g a (M r) (hM r (by omega)).2 r (by omega)).mp b_35
                refine zv_if_eq (tgt := 90) S dX0_castFrom_38 (by decide) (by decide) (fun c_38 => ?_) (fun c_38 => ?_)
                · exact (show False by omega).elim
                · skip
                  refine lv_aload_n S.1 S.2.1 dX0_castFrom_41 rfl (lv_at hl 1 rfl) ?_
                  refine zv_get (v := .ref (Qc 1)) S hAM hH nX0_castFrom_X0 0 rfl rfl 2 (by decide) mX0_castFrom_2 rfl rfl dX0_castFrom_42 ?_
                  refine lv_iload S.1 S.2.1 dX0_castFrom_45 (lv_at hl 0 rfl) ?_
                  refine lv_dup2_11 S.1 S.2.1 dX0_castFrom_47 rfl rfl ?_
                  refine zv_iald S hAM hH 2 rfl (a) rfl (by omega) (by decide) dX0_castFrom_48 ?_
                  refine zv_top (z := roa1 a) (z2 := ((bm g a r : Nat) : Int)) (hB a (by omega)) ?_
                  refine lv_iconst (v := iI (((1 : Nat) : Int))) S.1 S.2.1 dX0_castFrom_49 (by decide) ?_
                  refine lv_iload_n S.1 S.2.1 dX0_castFrom_50 rfl (lv_at hl 2 rfl) ?_
                  refine zv_ishl (z := (((2 ^ r) : Nat) : Int)) S dX0_castFrom_51 (iI_shl1 _ (by omega)) ?_
                  refine zv_ior (z := (((bm g a r ||| (2 ^ r)) : Nat) : Int)) S dX0_castFrom_52 (iI_or _ _) ?_
                  refine zv_iast (z := (((bm g a r ||| (2 ^ r)) : Nat) : Int)) (w2 := [caW qc Qc ((n : Nat) : Int), aW X (Qc 0) 8 riv, aW X (Qc 1) 8 (uI roa1 a ((((bm g a r ||| (2 ^ r)) : Nat) : Int)))].flatten) S hAM hH hS 2 rfl (a) rfl (by omega) (by decide) rfl dX0_castFrom_53 (fun H locs hH hS => ?_)
                  refine lv_aload_n S.1 S.2.1 dX0_castFrom_54 rfl (lv_at hl 1 rfl) ?_
                  refine lv_iload_n S.1 S.2.1 dX0_castFrom_55 rfl (lv_at hl 2 rfl) ?_
                  refine lv_iconst (v := iI (((1 : Nat) : Int))) S.1 S.2.1 dX0_castFrom_56 (by decide) ?_
                  refine zv_iadd (z := (((r + 1) : Nat) : Int)) S dX0_castFrom_57 (by omega) ?_
                  refine lv_iload_n S.1 S.2.1 dX0_castFrom_58 rfl (lv_at hl 3 rfl) ?_
                  refine lv_iload S.1 S.2.1 dX0_castFrom_59 (lv_at hl 0 rfl) ?_
                  refine lv_iconst (v := iI (((1 : Nat) : Int))) S.1 S.2.1 dX0_castFrom_61 (by decide) ?_
                  refine zv_iadd (z := (((a + 1) : Nat) : Int)) S dX0_castFrom_62 (by omega) ?_
                  refine zv_mmax (z := (((max u (a + 1)) : Nat) : Int)) S hl.1 mX0_castFrom_3 mX0_castFrom_4 mX0_castFrom_5 mX0_castFrom_6 (by omega) (by omega) (by omega) (Nat.le_of_ble_eq_true rfl) (Nat.le_of_ble_eq_true rfl) (Nat.le_of_ble_eq_true rfl) (Nat.le_of_ble_eq_true rfl) dX0_castFrom_63 ?_
                  refine lv_iload_n S.1 S.2.1 dX0_castFrom_66 rfl (lv_at hl 4 rfl) ?_
                  refine zc_Si (n := 4) (As := [.ref (qc), .int (iI (((r + 1) : Nat) : Int)), .int (iI (((max u (a + 1)) : Nat) : Int)), .int (iI ((K : Nat) : Int))]) (rest := []) S hAM hA (kX0_cf7 l X qc Qc n M riv (uI roa1 a ((((bm g a r ||| (2 ^ r)) : Nat) : Int))) K (r + 1) (max u (a + 1)) (uI g r ((a : Nat) : Int)) hn hM (by omega) (by omega) (by omega) (cf_set hB)) rfl gX0_castFrom_X0_castFrom  (by decide +kernel) ⟨Nat.le_of_ble_eq_true rfl, Nat.le_of_ble_eq_true rfl⟩ hH hS [0, 1, 2] rfl 3 rfl (List.Perm.refl _)  rfl hl.1 rfl (Nat.le_of_ble_eq_true rfl) dX0_castFrom_67 ⟨Nat.le_of_ble_eq_true rfl, Nat.le_of_ble_eq_true rfl⟩ (fun z5 roa2_4 H locs hp6 hH hS => ?_)
                  have hH : Hold X A [caW qc Qc ((n : Nat) : Int), aW X (Qc 0) 8 riv, aW X (Qc 1) 8 roa2_4].flatten H := hH
                  rcases hp6 with ⟨rfl, b_67⟩ | ⟨rfl, b_67⟩
                  · refine zv_top (z := 1) (z2 := ((1 : Nat) : Int)) rfl ?_
                    obtain ⟨g2, hs_, hB2⟩ := b_67
                    refine zv_if_eq (tgt := 75) S dX0_castFrom_70 (by decide) (by decide) (fun c_70 => ?_) (fun c_70 => ?_)
                    · exact (show False by omega).elim
                    · skip
                      refine lv_iconst (v := iI (((1 : Nat) : Int))) S.1 S.2.1 dX0_castFrom_73 (by decide) ?_
                      exact hret 74 ls _ _ (((1 : Nat) : Int)) roa2_4 dX0_castFrom_74 rfl (Or.inl ⟨rfl, g2, hps.trans (tra_hit (by omega) hm_ (cf_rec hs_)), hB2⟩) hH hS
                  · refine zv_top (z := 0) (z2 := ((0 : Nat) : Int)) rfl ?_
                    obtain ⟨hs_, hB2⟩ := b_67
                    refine zv_if_eq (tgt := 75) S dX0_castFrom_70 (by decide) (by decide) (fun c_70 => ?_) (fun c_70 => ?_)
                    · skip
                      refine lv_aload_n S.1 S.2.1 dX0_castFrom_75 rfl (lv_at hl 1 rfl) ?_
                      refine zv_get (v := .ref (Qc 1)) S hAM hH nX0_castFrom_X0 0 rfl rfl 2 (by decide) mX0_castFrom_2 rfl rfl dX0_castFrom_76 ?_
                      refine lv_iload S.1 S.2.1 dX0_castFrom_79 (lv_at hl 0 rfl) ?_
                      refine lv_dup2_11 S.1 S.2.1 dX0_castFrom_81 rfl rfl ?_
                      refine zv_iald S hAM hH 2 rfl (a) rfl (by omega) (by decide) dX0_castFrom_82 ?_
                      refine zv_top (z := roa2_4 a) (z2 := (((bm g a r ||| 2 ^ r) : Nat) : Int)) (cf_at (by omega) hB2) ?_
                      refine lv_iconst (v := iI (((1 : Nat) : Int))) S.1 S.2.1 dX0_castFrom_83 (by decide) ?_
                      refine lv_iload_n S.1 S.2.1 dX0_castFrom_84 rfl (lv_at hl 2 rfl) ?_
                      refine zv_ishl (z := (((2 ^ r) : Nat) : Int)) S dX0_castFrom_85 (iI_shl1 _ (by omega)) ?_
                      refine lv_iconst (v := iI (-1)) S.1 S.2.1 dX0_castFrom_86 (by decide) ?_
                      refine zv_ixor (z := (-(((2 ^ r) : Nat) : Int) - 1)) S dX0_castFrom_87 (iI_not _) ?_
                      refine zv_iand (z := ((bm g a r : Nat) : Int)) S dX0_castFrom_88 (by rw [iI_andn, bit_clr r (by omega) _ (bm_lt g a r)]) ?_
                      refine zv_iast (z := ((bm g a r : Nat) : Int)) (w2 := [caW qc Qc ((n : Nat) : Int), aW X (Qc 0) 8 riv, aW X (Qc 1) 8 (uI roa2_4 a (((bm g a r : Nat) : Int)))].flatten) S hAM hH hS 2 rfl (a) rfl (by omega) (by decide) rfl dX0_castFrom_89 (fun H locs hH hS => ?_)
                      refine zv_iinc (z := (((a + 1) : Nat) : Int)) (lv' := [(4, .int (iI (((a + 1) : Nat) : Int))), (0, .ref (qc)), (1, .int (iI ((r : Nat) : Int))), (2, .int (iI ((u : Nat) : Int))), (3, .int (iI ((K : Nat) : Int)))]) S dX0_castFrom_90 hl (k := 0) rfl (by omega) (by decide) rfl (fun ls hl => ?_)
                      refine lv_goto (tgt := 19) S.1 S.2.1 dX0_castFrom_93 (by decide) ?_
                      exact ih19  ((a + 1)) (uI roa2_4 a (((bm g a r : Nat) : Int))) (by omega) (by omega) (cf_clr hB2) (hps.trans (tra_back (by omega) hm_ (cf_rec hs_))) _ _ hH hS ls (lv_sub hl [0, 1, 2, 3, 4] rfl)
                    · exact (show False by omega).elim
              · refine zv_top (z := 0) (z2 := ((0 : Nat) : Int)) rfl ?_
                have hm_ : mhI g (M r) ((a : Nat) : Int) r = 0 := by rcases Nat.eq_zero_or_pos (mhI g (M r) ((a : Nat) : Int) r) with z | z; (· exact z); (· exact absurd ((bm_free g a (M r) (hM r (by omega)).2 r (by omega)).mpr (by omega)) b_35)
                refine zv_if_eq (tgt := 90) S dX0_castFrom_38 (by decide) (by decide) (fun c_38 => ?_) (fun c_38 => ?_)
                · skip
                  refine zv_iinc (z := (((a + 1) : Nat) : Int)) (lv' := [(4, .int (iI (((a + 1) : Nat) : Int))), (0, .ref (qc)), (1, .int (iI ((r : Nat) : Int))), (2, .int (iI ((u : Nat) : Int))), (3, .int (iI ((K : Nat) : Int)))]) S dX0_castFrom_90 hl (k := 0) rfl (by omega) (by decide) rfl (fun ls hl => ?_)
                  refine lv_goto (tgt := 19) S.1 S.2.1 dX0_castFrom_93 (by decide) ?_
                  exact ih19  ((a + 1)) (roa1) (by omega) (by omega) hB (hps.trans (tra_no (by omega) hm_)) _ _ hH hS ls (lv_sub hl [0, 1, 2, 3, 4] rfl)
                · exact (show False by omega).elim
      exact lp19 (min (u + 1) K - (0) + 1) (0) (roa) (Nat.lt_succ_self _) (Nat.zero_le _) hB (ps_eq (d := 7) (by omega)) _ _ hH hS ls (lv_sub hl [0, 1, 2, 3, 4] rfl)
    · exact (show False by omega).elim

theorem mX0_findCast_1 : Cond.methodLink RX0 42 Lib.Math.min.name ∈ wsX0_findCast := List.mem_of_getElem? (i := 1) rfl
theorem mX0_findCast_2 : Cond.static Lib.Math.min.name ∈ wsX0_findCast := List.mem_of_getElem? (i := 2) rfl
theorem mX0_findCast_3 : Cond.initialized "java/lang/Math" ∈ wsX0_findCast := List.mem_of_getElem? (i := 3) rfl
theorem mX0_findCast_4 : Cond.code Lib.Math.min.name Lib.Math.min.code 2 (some .int) ∈ wsX0_findCast := List.mem_of_getElem? (i := 4) rfl
set_option maxHeartbeats 4000000 in
set_option maxRecDepth 100000 in
theorem kX0_findCast (l : Launch) (X : XT) (qc : Nat) (Qc : Nat → Nat) (n : Nat) (M : Nat → Nat) (riv : Nat → Int) (roa : Nat → Int) (k : Nat) (hn : n ≤ 8) (hM : ∀ k, k < n → riv k = ((M k : Nat) : Int) ∧ M k < 256) (hk : k ≤ 8) : Ci l yX0_findCast wsX0_findCast (rmD 11) X [.ref qc, .int (iI ((k : Nat) : Int))] [caW qc Qc ((n : Nat) : Int), aW X (Qc 0) 8 riv, aW X (Qc 1) 8 roa] (fun (z : Int) (roa2 : Nat → Int) => (z = 1 ∧ (∃ g2, fc M n k = some g2 ∧ ∀ x, x < 8 → roa2 x = ((bm g2 x n : Nat) : Int))) ∨ (z = 0 ∧ fc M n k = none)) (fun (roa2 : Nat → Int) => [caW qc Qc ((n : Nat) : Int), aW X (Qc 0) 8 riv, aW X (Qc 1) 8 roa2]) := by
  refine Ci.ofW (cc := cX0_findCast) (maxL := 2) (by decide) rfl (Nat.le_of_ble_eq_true rfl) ?_
  intro p_ e_ s_ m_ below meth c_ A Q_ S hA hAM hH hS hret ls hl
  have hl : lv_has ls 2 [(0, .ref (qc)), (1, .int (iI ((k : Nat) : Int)))] := hl
  refine lv_aload_n S.1 S.2.1 dX0_findCast_0 rfl (lv_at hl 0 rfl) ?_
  refine zc_Vv (n := 0) (As := []) (rest := []) S hAM hA (kX0_dismissAll l X qc Qc n M riv roa ) rfl gX0_findCast_X0_dismissAll  (by decide +kernel) ⟨Nat.le_of_ble_eq_true rfl, Nat.le_of_ble_eq_true rfl⟩ hH hS [0, 1, 2] rfl 3 rfl (List.Perm.refl _) 0 0 rfl rfl rfl hl.1 rfl (Nat.le_of_ble_eq_true rfl) dX0_findCast_1 ⟨Nat.le_of_ble_eq_true rfl, Nat.le_of_ble_eq_true rfl⟩ (fun roa2_1 H locs hp3 hH hS => ?_)
  have hH : Hold X A [caW qc Qc ((n : Nat) : Int), aW X (Qc 0) 8 riv, aW X (Qc 1) 8 roa2_1].flatten H := hH
  have hz_1 := hp3
  refine lv_aload_n S.1 S.2.1 dX0_findCast_4 rfl (lv_at hl 0 rfl) ?_
  refine lv_iconst (v := iI (((0 : Nat) : Int))) S.1 S.2.1 dX0_findCast_5 (by decide) ?_
  refine lv_iconst (v := iI (((0 : Nat) : Int))) S.1 S.2.1 dX0_findCast_6 (by decide) ?_
  refine lv_iload_n S.1 S.2.1 dX0_findCast_7 rfl (lv_at hl 1 rfl) ?_
  refine lv_bipush (v := iI (((8 : Nat) : Int))) S.1 S.2.1 dX0_findCast_8 (by decide) ?_
  refine zv_mmin (z := ((k : Nat) : Int)) S hl.1 mX0_findCast_1 mX0_findCast_2 mX0_findCast_3 mX0_findCast_4 (by omega) (by decide) (by omega) (Nat.le_of_ble_eq_true rfl) (Nat.le_of_ble_eq_true rfl) (Nat.le_of_ble_eq_true rfl) (Nat.le_of_ble_eq_true rfl) dX0_findCast_10 ?_
  rcases (show n = 0 ∨ n = 1 ∨ n = 2 ∨ n = 3 ∨ n = 4 ∨ n = 5 ∨ n = 6 ∨ n = 7 ∨ n = 8 by omega) with rfl | rfl | rfl | rfl | rfl | rfl | rfl | rfl | rfl
  · skip
    refine zc_Si (n := 4) (As := [.ref (qc), .int (iI ((0 : Nat) : Int)), .int (iI ((0 : Nat) : Int)), .int (iI ((k : Nat) : Int))]) (rest := []) S hAM hA (kX0_cf0 l X qc Qc 0 M riv roa2_1 k 0 0 (fun _ => 0) hn hM (by omega) (by omega) (by omega) hz_1) rfl gX0_findCast_X0_castFrom  (by decide +kernel) ⟨Nat.le_of_ble_eq_true rfl, Nat.le_of_ble_eq_true rfl⟩ hH hS [0, 1, 2] rfl 3 rfl (List.Perm.refl _)  rfl hl.1 rfl (Nat.le_of_ble_eq_true rfl) dX0_findCast_13 ⟨Nat.le_of_ble_eq_true rfl, Nat.le_of_ble_eq_true rfl⟩ (fun z5 roa2_4 H locs hp6 hH hS => ?_)
    have hH : Hold X A [caW qc Qc ((0 : Nat) : Int), aW X (Qc 0) 8 riv, aW X (Qc 1) 8 roa2_4].flatten H := hH
    rcases hp6 with ⟨rfl, b_13⟩ | ⟨rfl, b_13⟩
    · refine zv_top (z := 1) (z2 := ((1 : Nat) : Int)) rfl ?_
      exact hret 16 ls _ _ (((1 : Nat) : Int)) roa2_4 dX0_findCast_16 rfl (Or.inl ⟨rfl, (by obtain ⟨g2, hs_, hB2⟩ := b_13; exact ⟨g2, (fc_ps M 0 k).symm.trans hs_, hB2⟩)⟩) hH hS
    · refine zv_top (z := 0) (z2 := ((0 : Nat) : Int)) rfl ?_
      exact hret 16 ls _ _ (((0 : Nat) : Int)) roa2_4 dX0_findCast_16 rfl (Or.inr ⟨rfl, (fc_ps M 0 k).symm.trans b_13.1⟩) hH hS
  · skip
    refine zc_Si (n := 4) (As := [.ref (qc), .int (iI ((0 : Nat) : Int)), .int (iI ((0 : Nat) : Int)), .int (iI ((k : Nat) : Int))]) (rest := []) S hAM hA (kX0_cf1 l X qc Qc 1 M riv roa2_1 k 0 0 (fun _ => 0) hn hM (by omega) (by omega) (by omega) hz_1) rfl gX0_findCast_X0_castFrom  (by decide +kernel) ⟨Nat.le_of_ble_eq_true rfl, Nat.le_of_ble_eq_true rfl⟩ hH hS [0, 1, 2] rfl 3 rfl (List.Perm.refl _)  rfl hl.1 rfl (Nat.le_of_ble_eq_true rfl) dX0_findCast_13 ⟨Nat.le_of_ble_eq_true rfl, Nat.le_of_ble_eq_true rfl⟩ (fun z8 roa2_7 H locs hp9 hH hS => ?_)
    have hH : Hold X A [caW qc Qc ((1 : Nat) : Int), aW X (Qc 0) 8 riv, aW X (Qc 1) 8 roa2_7].flatten H := hH
    rcases hp9 with ⟨rfl, b_13⟩ | ⟨rfl, b_13⟩
    · refine zv_top (z := 1) (z2 := ((1 : Nat) : Int)) rfl ?_
      exact hret 16 ls _ _ (((1 : Nat) : Int)) roa2_7 dX0_findCast_16 rfl (Or.inl ⟨rfl, (by obtain ⟨g2, hs_, hB2⟩ := b_13; exact ⟨g2, (fc_ps M 1 k).symm.trans hs_, hB2⟩)⟩) hH hS
    · refine zv_top (z := 0) (z2 := ((0 : Nat) : Int)) rfl ?_
      exact hret 16 ls _ _ (((0 : Nat) : Int)) roa2_7 dX0_findCast_16 rfl (Or.inr ⟨rfl, (fc_ps M 1 k).symm.trans b_13.1⟩) hH hS
  · skip
    refine zc_Si (n := 4) (As := [.ref (qc), .int (iI ((0 : Nat) : Int)), .int (iI ((0 : Nat) : Int)), .int (iI ((k : Nat) : Int))]) (rest := []) S hAM hA (kX0_cf2 l X qc Qc 2 M riv roa2_1 k 0 0 (fun _ => 0) hn hM (by omega) (by omega) (by omega) hz_1) rfl gX0_findCast_X0_castFrom  (by decide +kernel) ⟨Nat.le_of_ble_eq_true rfl, Nat.le_of_ble_eq_true rfl⟩ hH hS [0, 1, 2] rfl 3 rfl (List.Perm.refl _)  rfl hl.1 rfl (Nat.le_of_ble_eq_true rfl) dX0_findCast_13 ⟨Nat.le_of_ble_eq_true rfl, Nat.le_of_ble_eq_true rfl⟩ (fun z11 roa2_10 H locs hp12 hH hS => ?_)
    have hH : Hold X A [caW qc Qc ((2 : Nat) : Int), aW X (Qc 0) 8 riv, aW X (Qc 1) 8 roa2_10].flatten H := hH
    rcases hp12 with ⟨rfl, b_13⟩ | ⟨rfl, b_13⟩
    · refine zv_top (z := 1) (z2 := ((1 : Nat) : Int)) rfl ?_
      exact hret 16 ls _ _ (((1 : Nat) : Int)) roa2_10 dX0_findCast_16 rfl (Or.inl ⟨rfl, (by obtain ⟨g2, hs_, hB2⟩ := b_13; exact ⟨g2, (fc_ps M 2 k).symm.trans hs_, hB2⟩)⟩) hH hS
    · refine zv_top (z := 0) (z2 := ((0 : Nat) : Int)) rfl ?_
      exact hret 16 ls _ _ (((0 : Nat) : Int)) roa2_10 dX0_findCast_16 rfl (Or.inr ⟨rfl, (fc_ps M 2 k).symm.trans b_13.1⟩) hH hS
  · skip
    refine zc_Si (n := 4) (As := [.ref (qc), .int (iI ((0 : Nat) : Int)), .int (iI ((0 : Nat) : Int)), .int (iI ((k : Nat) : Int))]) (rest := []) S hAM hA (kX0_cf3 l X qc Qc 3 M riv roa2_1 k 0 0 (fun _ => 0) hn hM (by omega) (by omega) (by omega) hz_1) rfl gX0_findCast_X0_castFrom  (by decide +kernel) ⟨Nat.le_of_ble_eq_true rfl, Nat.le_of_ble_eq_true rfl⟩ hH hS [0, 1, 2] rfl 3 rfl (List.Perm.refl _)  rfl hl.1 rfl (Nat.le_of_ble_eq_true rfl) dX0_findCast_13 ⟨Nat.le_of_ble_eq_true rfl, Nat.le_of_ble_eq_true rfl⟩ (fun z14 roa2_13 H locs hp15 hH hS => ?_)
    have hH : Hold X A [caW qc Qc ((3 : Nat) : Int), aW X (Qc 0) 8 riv, aW X (Qc 1) 8 roa2_13].flatten H := hH
    rcases hp15 with ⟨rfl, b_13⟩ | ⟨rfl, b_13⟩
    · refine zv_top (z := 1) (z2 := ((1 : Nat) : Int)) rfl ?_
      exact hret 16 ls _ _ (((1 : Nat) : Int)) roa2_13 dX0_findCast_16 rfl (Or.inl ⟨rfl, (by obtain ⟨g2, hs_, hB2⟩ := b_13; exact ⟨g2, (fc_ps M 3 k).symm.trans hs_, hB2⟩)⟩) hH hS
    · refine zv_top (z := 0) (z2 := ((0 : Nat) : Int)) rfl ?_
      exact hret 16 ls _ _ (((0 : Nat) : Int)) roa2_13 dX0_findCast_16 rfl (Or.inr ⟨rfl, (fc_ps M 3 k).symm.trans b_13.1⟩) hH hS
  · skip
    refine zc_Si (n := 4) (As := [.ref (qc), .int (iI ((0 : Nat) : Int)), .int (iI ((0 : Nat) : Int)), .int (iI ((k : Nat) : Int))]) (rest := []) S hAM hA (kX0_cf4 l X qc Qc 4 M riv roa2_1 k 0 0 (fun _ => 0) hn hM (by omega) (by omega) (by omega) hz_1) rfl gX0_findCast_X0_castFrom  (by decide +kernel) ⟨Nat.le_of_ble_eq_true rfl, Nat.le_of_ble_eq_true rfl⟩ hH hS [0, 1, 2] rfl 3 rfl (List.Perm.refl _)  rfl hl.1 rfl (Nat.le_of_ble_eq_true rfl) dX0_findCast_13 ⟨Nat.le_of_ble_eq_true rfl, Nat.le_of_ble_eq_true rfl⟩ (fun z17 roa2_16 H locs hp18 hH hS => ?_)
    have hH : Hold X A [caW qc Qc ((4 : Nat) : Int), aW X (Qc 0) 8 riv, aW X (Qc 1) 8 roa2_16].flatten H := hH
    rcases hp18 with ⟨rfl, b_13⟩ | ⟨rfl, b_13⟩
    · refine zv_top (z := 1) (z2 := ((1 : Nat) : Int)) rfl ?_
      exact hret 16 ls _ _ (((1 : Nat) : Int)) roa2_16 dX0_findCast_16 rfl (Or.inl ⟨rfl, (by obtain ⟨g2, hs_, hB2⟩ := b_13; exact ⟨g2, (fc_ps M 4 k).symm.trans hs_, hB2⟩)⟩) hH hS
    · refine zv_top (z := 0) (z2 := ((0 : Nat) : Int)) rfl ?_
      exact hret 16 ls _ _ (((0 : Nat) : Int)) roa2_16 dX0_findCast_16 rfl (Or.inr ⟨rfl, (fc_ps M 4 k).symm.trans b_13.1⟩) hH hS
  · skip
    refine zc_Si (n := 4) (As := [.ref (qc), .int (iI ((0 : Nat) : Int)), .int (iI ((0 : Nat) : Int)), .int (iI ((k : Nat) : Int))]) (rest := []) S hAM hA (kX0_cf5 l X qc Qc 5 M riv roa2_1 k 0 0 (fun _ => 0) hn hM (by omega) (by omega) (by omega) hz_1) rfl gX0_findCast_X0_castFrom  (by decide +kernel) ⟨Nat.le_of_ble_eq_true rfl, Nat.le_of_ble_eq_true rfl⟩ hH hS [0, 1, 2] rfl 3 rfl (List.Perm.refl _)  rfl hl.1 rfl (Nat.le_of_ble_eq_true rfl) dX0_findCast_13 ⟨Nat.le_of_ble_eq_true rfl, Nat.le_of_ble_eq_true rfl⟩ (fun z20 roa2_19 H locs hp21 hH hS => ?_)
    have hH : Hold X A [caW qc Qc ((5 : Nat) : Int), aW X (Qc 0) 8 riv, aW X (Qc 1) 8 roa2_19].flatten H := hH
    rcases hp21 with ⟨rfl, b_13⟩ | ⟨rfl, b_13⟩
    · refine zv_top (z := 1) (z2 := ((1 : Nat) : Int)) rfl ?_
      exact hret 16 ls _ _ (((1 : Nat) : Int)) roa2_19 dX0_findCast_16 rfl (Or.inl ⟨rfl, (by obtain ⟨g2, hs_, hB2⟩ := b_13; exact ⟨g2, (fc_ps M 5 k).symm.trans hs_, hB2⟩)⟩) hH hS
    · refine zv_top (z := 0) (z2 := ((0 : Nat) : Int)) rfl ?_
      exact hret 16 ls _ _ (((0 : Nat) : Int)) roa2_19 dX0_findCast_16 rfl (Or.inr ⟨rfl, (fc_ps M 5 k).symm.trans b_13.1⟩) hH hS
  · skip
    refine zc_Si (n := 4) (As := [.ref (qc), .int (iI ((0 : Nat) : Int)), .int (iI ((0 : Nat) : Int)), .int (iI ((k : Nat) : Int))]) (rest := []) S hAM hA (kX0_cf6 l X qc Qc 6 M riv roa2_1 k 0 0 (fun _ => 0) hn hM (by omega) (by omega) (by omega) hz_1) rfl gX0_findCast_X0_castFrom  (by decide +kernel) ⟨Nat.le_of_ble_eq_true rfl, Nat.le_of_ble_eq_true rfl⟩ hH hS [0, 1, 2] rfl 3 rfl (List.Perm.refl _)  rfl hl.1 rfl (Nat.le_of_ble_eq_true rfl) dX0_findCast_13 ⟨Nat.le_of_ble_eq_true rfl, Nat.le_of_ble_eq_true rfl⟩ (fun z23 roa2_22 H locs hp24 hH hS => ?_)
    have hH : Hold X A [caW qc Qc ((6 : Nat) : Int), aW X (Qc 0) 8 riv, aW X (Qc 1) 8 roa2_22].flatten H := hH
    rcases hp24 with ⟨rfl, b_13⟩ | ⟨rfl, b_13⟩
    · refine zv_top (z := 1) (z2 := ((1 : Nat) : Int)) rfl ?_
      exact hret 16 ls _ _ (((1 : Nat) : Int)) roa2_22 dX0_findCast_16 rfl (Or.inl ⟨rfl, (by obtain ⟨g2, hs_, hB2⟩ := b_13; exact ⟨g2, (fc_ps M 6 k).symm.trans hs_, hB2⟩)⟩) hH hS
    · refine zv_top (z := 0) (z2 := ((0 : Nat) : Int)) rfl ?_
      exact hret 16 ls _ _ (((0 : Nat) : Int)) roa2_22 dX0_findCast_16 rfl (Or.inr ⟨rfl, (fc_ps M 6 k).symm.trans b_13.1⟩) hH hS
  · skip
    refine zc_Si (n := 4) (As := [.ref (qc), .int (iI ((0 : Nat) : Int)), .int (iI ((0 : Nat) : Int)), .int (iI ((k : Nat) : Int))]) (rest := []) S hAM hA (kX0_cf7 l X qc Qc 7 M riv roa2_1 k 0 0 (fun _ => 0) hn hM (by omega) (by omega) (by omega) hz_1) rfl gX0_findCast_X0_castFrom  (by decide +kernel) ⟨Nat.le_of_ble_eq_true rfl, Nat.le_of_ble_eq_true rfl⟩ hH hS [0, 1, 2] rfl 3 rfl (List.Perm.refl _)  rfl hl.1 rfl (Nat.le_of_ble_eq_true rfl) dX0_findCast_13 ⟨Nat.le_of_ble_eq_true rfl, Nat.le_of_ble_eq_true rfl⟩ (fun z26 roa2_25 H locs hp27 hH hS => ?_)
    have hH : Hold X A [caW qc Qc ((7 : Nat) : Int), aW X (Qc 0) 8 riv, aW X (Qc 1) 8 roa2_25].flatten H := hH
    rcases hp27 with ⟨rfl, b_13⟩ | ⟨rfl, b_13⟩
    · refine zv_top (z := 1) (z2 := ((1 : Nat) : Int)) rfl ?_
      exact hret 16 ls _ _ (((1 : Nat) : Int)) roa2_25 dX0_findCast_16 rfl (Or.inl ⟨rfl, (by obtain ⟨g2, hs_, hB2⟩ := b_13; exact ⟨g2, (fc_ps M 7 k).symm.trans hs_, hB2⟩)⟩) hH hS
    · refine zv_top (z := 0) (z2 := ((0 : Nat) : Int)) rfl ?_
      exact hret 16 ls _ _ (((0 : Nat) : Int)) roa2_25 dX0_findCast_16 rfl (Or.inr ⟨rfl, (fc_ps M 7 k).symm.trans b_13.1⟩) hH hS
  · skip
    refine zc_Si (n := 4) (As := [.ref (qc), .int (iI ((0 : Nat) : Int)), .int (iI ((0 : Nat) : Int)), .int (iI ((k : Nat) : Int))]) (rest := []) S hAM hA (kX0_cf8 l X qc Qc 8 M riv roa2_1 k 0 0 (fun _ => 0) hn hM (by omega) (by omega) (by omega) hz_1) rfl gX0_findCast_X0_castFrom  (by decide +kernel) ⟨Nat.le_of_ble_eq_true rfl, Nat.le_of_ble_eq_true rfl⟩ hH hS [0, 1, 2] rfl 3 rfl (List.Perm.refl _)  rfl hl.1 rfl (Nat.le_of_ble_eq_true rfl) dX0_findCast_13 ⟨Nat.le_of_ble_eq_true rfl, Nat.le_of_ble_eq_true rfl⟩ (fun z29 roa2_28 H locs hp30 hH hS => ?_)
    have hH : Hold X A [caW qc Qc ((8 : Nat) : Int), aW X (Qc 0) 8 riv, aW X (Qc 1) 8 roa2_28].flatten H := hH
    rcases hp30 with ⟨rfl, b_13⟩ | ⟨rfl, b_13⟩
    · refine zv_top (z := 1) (z2 := ((1 : Nat) : Int)) rfl ?_
      exact hret 16 ls _ _ (((1 : Nat) : Int)) roa2_28 dX0_findCast_16 rfl (Or.inl ⟨rfl, (by obtain ⟨g2, hs_, hB2⟩ := b_13; exact ⟨g2, (fc_ps M 8 k).symm.trans hs_, hB2⟩)⟩) hH hS
    · refine zv_top (z := 0) (z2 := ((0 : Nat) : Int)) rfl ?_
      exact hret 16 ls _ _ (((0 : Nat) : Int)) roa2_28 dX0_findCast_16 rfl (Or.inr ⟨rfl, (fc_ps M 8 k).symm.trans b_13.1⟩) hH hS

theorem mX0_findFirstCast_1 : Cond.fieldLink RX0 30 "RoleDoublingPlanner$Casting" "roles" "I" ∈ wsX0_findFirstCast := List.mem_of_getElem? (i := 1) rfl
theorem nX0_findFirstCast_X0 : ∀ w ∈ wsX00, w ∈ wsX0_findFirstCast := fun _ h => List.mem_cons_of_mem _ (List.mem_append_right _ h)
set_option maxHeartbeats 4000000 in
set_option maxRecDepth 100000 in
theorem kX0_findFirstCast (l : Launch) (X : XT) (qc : Nat) (Qc : Nat → Nat) (n : Nat) (M : Nat → Nat) (riv : Nat → Int) (roa : Nat → Int) (hn : n ≤ 8) (hM : ∀ k, k < n → riv k = ((M k : Nat) : Int) ∧ M k < 256) (hn1 : 1 ≤ n) : Ci l yX0_findFirstCast wsX0_findFirstCast (rmD 12) X [.ref qc] [caW qc Qc ((n : Nat) : Int), aW X (Qc 0) 8 riv, aW X (Qc 1) 8 roa] (fun (z : Int) (roa2 : Nat → Int) => z = ((lc M n : Nat) : Int) ∧ ∀ x, x < 8 → roa2 x = ((bm (fcG M n) x n : Nat) : Int)) (fun (roa2 : Nat → Int) => [caW qc Qc ((n : Nat) : Int), aW X (Qc 0) 8 riv, aW X (Qc 1) 8 roa2]) := by
  refine Ci.ofW (cc := cX0_findFirstCast) (maxL := 2) (by decide) rfl (Nat.le_of_ble_eq_true rfl) ?_
  intro p_ e_ s_ m_ below meth c_ A Q_ S hA hAM hH hS hret ls hl
  have hl : lv_has ls 2 [(0, .ref (qc))] := hl
  refine lv_iconst (v := iI (((1 : Nat) : Int))) S.1 S.2.1 dX0_findFirstCast_0 (by decide) ?_
  refine lv_istore_n (lv' := [(1, .int (iI ((1 : Nat) : Int))), (0, .ref (qc))]) S.1 S.2.1 dX0_findFirstCast_1 rfl hl (by decide) rfl (fun ls hl => ?_)
  have lp2 : ∀ (fu_ : Nat) (k : Nat) (roa1 : Nat → Int), n + 1 - k < fu_ → (1 ≤ k ∧ k ≤ n) → (lc M n = lcS M n k (n + 1 - k)) → ∀ (H : Heap) (locs : List Loc), Hold X A [caW qc Qc ((n : Nat) : Int), aW X (Qc 0) 8 riv, aW X (Qc 1) 8 roa1].flatten H → va_S A s_.heap H locs → ∀ ls : Array Slot, lv_has ls 2 [(1, .int (iI ((k : Nat) : Int))), (0, .ref (qc))] → W p_ l e_ (rmD 12) s_ m_ (List.toArray [.ref (qc)]) below meth c_ H locs 0 0 Q_ (F0 m_ 2 ls []) := by
    intro fu_
    induction fu_ with
    | zero => intro k roa1 hmu hk hlc H locs hH hS ls hl; exact absurd hmu (Nat.not_lt_zero _)
    | succ fu_ ih2 => 
      intro k roa1 hmu hk hlc H locs hH hS ls hl
      refine lv_iload_n S.1 S.2.1 dX0_findFirstCast_2 rfl (lv_at hl 0 rfl) ?_
      refine lv_aload_n S.1 S.2.1 dX0_findFirstCast_3 rfl (lv_at hl 1 rfl) ?_
      refine zv_get (v := .int (iI ((n : Nat) : Int))) S hAM hH nX0_findFirstCast_X0 0 rfl rfl 0 (by decide) mX0_findFirstCast_1 rfl rfl dX0_findFirstCast_4 ?_
      refine zv_icmp_ge (tgt := 26) S dX0_findFirstCast_7 (by decide) (by omega) (by omega) (fun c_7 => ?_) (fun c_7 => ?_)
      · skip
        refine lv_aload_n S.1 S.2.1 dX0_findFirstCast_26 rfl (lv_at hl 1 rfl) ?_
        refine lv_aload_n S.1 S.2.1 dX0_findFirstCast_27 rfl (lv_at hl 1 rfl) ?_
        refine zv_get (v := .int (iI ((n : Nat) : Int))) S hAM hH nX0_findFirstCast_X0 0 rfl rfl 0 (by decide) mX0_findFirstCast_1 rfl rfl dX0_findFirstCast_28 ?_
        refine zc_Vi (n := 1) (As := [.int (iI ((n : Nat) : Int))]) (rest := []) S hAM hA (kX0_findCast l X qc Qc n M riv roa1 n hn hM (by omega)) rfl gX0_findFirstCast_X0_findCast  (by decide +kernel) ⟨Nat.le_of_ble_eq_true rfl, Nat.le_of_ble_eq_true rfl⟩ hH hS [0, 1, 2] rfl 3 rfl (List.Perm.refl _) 0 0 rfl rfl rfl hl.1 rfl (Nat.le_of_ble_eq_true rfl) dX0_findFirstCast_31 ⟨Nat.le_of_ble_eq_true rfl, Nat.le_of_ble_eq_true rfl⟩ (fun z2 roa2_1 H locs hp3 hH hS => ?_)
        have hH : Hold X A [caW qc Qc ((n : Nat) : Int), aW X (Qc 0) 8 riv, aW X (Qc 1) 8 roa2_1].flatten H := hH
        rcases hp3 with ⟨rfl, b_31⟩ | ⟨rfl, b_31⟩
        · refine zv_top (z := 1) (z2 := ((1 : Nat) : Int)) rfl ?_
          obtain ⟨g2, hf_, hB_⟩ := b_31
          refine lv_pop S.1 S.2.1 dX0_findFirstCast_34 rfl ?_
          refine lv_aload_n S.1 S.2.1 dX0_findFirstCast_35 rfl (lv_at hl 1 rfl) ?_
          refine zv_get (v := .int (iI ((n : Nat) : Int))) S hAM hH nX0_findFirstCast_X0 0 rfl rfl 0 (by decide) mX0_findFirstCast_1 rfl rfl dX0_findFirstCast_36 ?_
          have eL : lc M n = n := by rw [hlc, show k = n by omega]; exact lcS_hit (by rw [hf_]; simp) (by omega)
          have eG : fcG M n = g2 := by unfold fcG; rw [eL, hf_]; rfl
          exact hret 39 ls _ _ (((n : Nat) : Int)) roa2_1 dX0_findFirstCast_39 rfl ⟨(by rw [eL]), (by rw [eG]; exact hB_)⟩ hH hS
        · refine zv_top (z := 0) (z2 := ((0 : Nat) : Int)) rfl ?_
          exact absurd b_31 (fc_full (Nat.le_refl _))
      · skip
        refine lv_aload_n S.1 S.2.1 dX0_findFirstCast_10 rfl (lv_at hl 1 rfl) ?_
        refine lv_iload_n S.1 S.2.1 dX0_findFirstCast_11 rfl (lv_at hl 0 rfl) ?_
        refine zc_Vi (n := 1) (As := [.int (iI ((k : Nat) : Int))]) (rest := []) S hAM hA (kX0_findCast l X qc Qc n M riv roa1 k hn hM (by omega)) rfl gX0_findFirstCast_X0_findCast  (by decide +kernel) ⟨Nat.le_of_ble_eq_true rfl, Nat.le_of_ble_eq_true rfl⟩ hH hS [0, 1, 2] rfl 3 rfl (List.Perm.refl _) 0 0 rfl rfl rfl hl.1 rfl (Nat.le_of_ble_eq_true rfl) dX0_findFirstCast_12 ⟨Nat.le_of_ble_eq_true rfl, Nat.le_of_ble_eq_true rfl⟩ (fun z5 roa2_4 H locs hp6 hH hS => ?_)
        have hH : Hold X A [caW qc Qc ((n : Nat) : Int), aW X (Qc 0) 8 riv, aW X (Qc 1) 8 roa2_4].flatten H := hH
        rcases hp6 with ⟨rfl, b_12⟩ | ⟨rfl, b_12⟩
        · refine zv_top (z := 1) (z2 := ((1 : Nat) : Int)) rfl ?_
          obtain ⟨g2, hf_, hB_⟩ := b_12
          refine zv_if_eq (tgt := 20) S dX0_findFirstCast_15 (by decide) (by decide) (fun c_15 => ?_) (fun c_15 => ?_)
          · exact (show False by omega).elim
          · skip
            refine lv_iload_n S.1 S.2.1 dX0_findFirstCast_18 rfl (lv_at hl 0 rfl) ?_
            have eL : lc M n = k := by rw [hlc]; exact lcS_hit (by rw [hf_]; simp) (by omega)
            have eG : fcG M n = g2 := by unfold fcG; rw [eL, hf_]; rfl
            exact hret 19 ls _ _ (((k : Nat) : Int)) roa2_4 dX0_findFirstCast_19 rfl ⟨(by rw [eL]), (by rw [eG]; exact hB_)⟩ hH hS
        · refine zv_top (z := 0) (z2 := ((0 : Nat) : Int)) rfl ?_
          refine zv_if_eq (tgt := 20) S dX0_findFirstCast_15 (by decide) (by decide) (fun c_15 => ?_) (fun c_15 => ?_)
          · skip
            refine zv_iinc (z := (((k + 1) : Nat) : Int)) (lv' := [(1, .int (iI (((k + 1) : Nat) : Int))), (0, .ref (qc))]) S dX0_findFirstCast_20 hl (k := 0) rfl (by omega) (by decide) rfl (fun ls hl => ?_)
            refine lv_goto (tgt := 2) S.1 S.2.1 dX0_findFirstCast_23 (by decide) ?_
            exact ih2  ((k + 1)) (roa2_4) (by omega) (by omega) (by rw [hlc, lcS_miss b_12 (by omega)]; congr 1) _ _ hH hS ls (lv_sub hl [0, 1] rfl)
          · exact (show False by omega).elim
  exact lp2 (n + 1 - (1) + 1) (1) (roa) (Nat.lt_succ_self _) (by omega) rfl _ _ hH hS ls (lv_sub hl [0, 1] rfl)

theorem mX0_foundActor_1 : Cond.fieldLink RX0 15 "RoleDoublingPlanner$Casting" "rolesOfActor" "[I" ∈ wsX0_foundActor := List.mem_of_getElem? (i := 1) rfl
theorem nX0_foundActor_X0 : ∀ w ∈ wsX00, w ∈ wsX0_foundActor := fun _ h => List.mem_cons_of_mem _ (List.mem_append_right _ h)
set_option maxHeartbeats 4000000 in
set_option maxRecDepth 100000 in
theorem kX0_foundActor (l : Launch) (X : XT) (qc : Nat) (Qc : Nat → Nat) (n : Nat) (M : Nat → Nat) (riv : Nat → Int) (roa : Nat → Int) (g : Nat → Int) (r : Nat) (hn : n ≤ 8) (hM : ∀ k, k < n → riv k = ((M k : Nat) : Int) ∧ M k < 256) (hB : ∀ x, x < 8 → roa x = ((bm g x n : Nat) : Int)) (hr : r < n) (hg : 0 ≤ g r ∧ g r < 8) : Ci l yX0_foundActor wsX0_foundActor (rmD 1) X [.ref qc, .int (iI ((r : Nat) : Int))] [caW qc Qc ((n : Nat) : Int), aW X (Qc 0) 8 riv, aW X (Qc 1) 8 roa] (fun (z : Int) (_ : Unit) => z = g r) (fun (_ : Unit) => [caW qc Qc ((n : Nat) : Int), aW X (Qc 0) 8 riv, aW X (Qc 1) 8 roa]) := by
  refine Ci.ofW (cc := cX0_foundActor) (maxL := 3) (by decide) rfl (Nat.le_of_ble_eq_true rfl) ?_
  intro p_ e_ s_ m_ below meth c_ A Q_ S hA hAM hH hS hret ls hl
  have hl : lv_has ls 3 [(0, .ref (qc)), (1, .int (iI ((r : Nat) : Int)))] := hl
  refine lv_iconst (v := iI (((0 : Nat) : Int))) S.1 S.2.1 dX0_foundActor_0 (by decide) ?_
  refine lv_istore_n (lv' := [(2, .int (iI ((0 : Nat) : Int))), (0, .ref (qc)), (1, .int (iI ((r : Nat) : Int)))]) S.1 S.2.1 dX0_foundActor_1 rfl hl (by decide) rfl (fun ls hl => ?_)
  have lp2 : ∀ (fu_ : Nat) (a : Nat), 8 - a < fu_ → (a ≤ 8) → (∀ y : Nat, y < a → g r ≠ ((y : Nat) : Int)) → ∀ (H : Heap) (locs : List Loc), Hold X A [caW qc Qc ((n : Nat) : Int), aW X (Qc 0) 8 riv, aW X (Qc 1) 8 roa].flatten H → va_S A s_.heap H locs → ∀ ls : Array Slot, lv_has ls 3 [(2, .int (iI ((a : Nat) : Int))), (0, .ref (qc)), (1, .int (iI ((r : Nat) : Int)))] → W p_ l e_ (rmD 1) s_ m_ (List.toArray [.ref (qc), .int (iI ((r : Nat) : Int))]) below meth c_ H locs 0 0 Q_ (F0 m_ 2 ls []) := by
    intro fu_
    induction fu_ with
    | zero => intro a hmu ha hin H locs hH hS ls hl; exact absurd hmu (Nat.not_lt_zero _)
    | succ fu_ ih2 => 
      intro a hmu ha hin H locs hH hS ls hl
      refine lv_iload_n S.1 S.2.1 dX0_foundActor_2 rfl (lv_at hl 0 rfl) ?_
      refine lv_bipush (v := iI (((8 : Nat) : Int))) S.1 S.2.1 dX0_foundActor_3 (by decide) ?_
      refine zv_icmp_ge (tgt := 29) S dX0_foundActor_5 (by decide) (by omega) (by decide) (fun c_5 => ?_) (fun c_5 => ?_)
      · exact (show False by exact hin (g r).toNat (by omega) (by omega)).elim
      · skip
        refine lv_aload_n S.1 S.2.1 dX0_foundActor_8 rfl (lv_at hl 1 rfl) ?_
        refine zv_get (v := .ref (Qc 1)) S hAM hH nX0_foundActor_X0 0 rfl rfl 2 (by decide) mX0_foundActor_1 rfl rfl dX0_foundActor_9 ?_
        refine lv_iload_n S.1 S.2.1 dX0_foundActor_12 rfl (lv_at hl 0 rfl) ?_
        refine zv_iald S hAM hH 2 rfl (a) rfl (by omega) (by decide) dX0_foundActor_13 ?_
        refine zv_top (z := roa a) (z2 := ((bm g a n : Nat) : Int)) (hB a (by omega)) ?_
        refine lv_iconst (v := iI (((1 : Nat) : Int))) S.1 S.2.1 dX0_foundActor_14 (by decide) ?_
        refine lv_iload_n S.1 S.2.1 dX0_foundActor_15 rfl (lv_at hl 2 rfl) ?_
        refine zv_ishl (z := (((2 ^ r) : Nat) : Int)) S dX0_foundActor_16 (iI_shl1 _ (by omega)) ?_
        refine zv_iand (z := (((bm g a n &&& (2 ^ r)) : Nat) : Int)) S dX0_foundActor_17 (iI_and _ _) ?_
        refine zv_if_eq (tgt := 23) S dX0_foundActor_18 (by decide) (by have h9 : bm g a n &&& 2 ^ r ≤ bm g a n := Nat.and_le_left; have := bm_256 g a n hn; omega) (fun c_18 => ?_) (fun c_18 => ?_)
        · skip
          refine zv_iinc (z := (((a + 1) : Nat) : Int)) (lv' := [(2, .int (iI (((a + 1) : Nat) : Int))), (0, .ref (qc)), (1, .int (iI ((r : Nat) : Int)))]) S dX0_foundActor_23 hl (k := 0) rfl (by omega) (by decide) rfl (fun ls hl => ?_)
          refine lv_goto (tgt := 2) S.1 S.2.1 dX0_foundActor_26 (by decide) ?_
          exact ih2  ((a + 1)) (by omega) (by omega) (fun y hy => by by_cases e : y = a; (· rw [e]; exact (bm_hit g a r n hr).mp (by omega)); (· exact hin y (by omega))) _ _ hH hS ls (lv_sub hl [0, 1, 2] rfl)
        · skip
          refine lv_iload_n S.1 S.2.1 dX0_foundActor_21 rfl (lv_at hl 0 rfl) ?_
          exact hret 22 ls _ _ (((a : Nat) : Int)) () dX0_foundActor_22 rfl (by have h9 := bm_hit g a r n hr; omega) hH hS
  exact lp2 (8 - (0) + 1) (0) (Nat.lt_succ_self _) (Nat.zero_le _) (fun y hy => absurd hy (Nat.not_lt_zero _)) _ _ hH hS ls (lv_sub hl [0, 1, 2] rfl)

theorem mX0_greedySize_1 : Cond.fieldLink RX0 30 "RoleDoublingPlanner$Casting" "roles" "I" ∈ wsX0_greedySize := List.mem_of_getElem? (i := 1) rfl
theorem nX0_greedySize_X0 : ∀ w ∈ wsX00, w ∈ wsX0_greedySize := fun _ h => List.mem_cons_of_mem _ (List.mem_append_right _ h)
theorem mX0_greedySize_2 : Cond.fieldLink RX0 15 "RoleDoublingPlanner$Casting" "rolesOfActor" "[I" ∈ wsX0_greedySize := List.mem_of_getElem? (i := 2) rfl
theorem mX0_greedySize_3 : Cond.methodLink RX0 56 Lib.Math.max.name ∈ wsX0_greedySize := List.mem_of_getElem? (i := 3) rfl
theorem mX0_greedySize_4 : Cond.static Lib.Math.max.name ∈ wsX0_greedySize := List.mem_of_getElem? (i := 4) rfl
theorem mX0_greedySize_5 : Cond.initialized "java/lang/Math" ∈ wsX0_greedySize := List.mem_of_getElem? (i := 5) rfl
theorem mX0_greedySize_6 : Cond.code Lib.Math.max.name Lib.Math.max.code 2 (some .int) ∈ wsX0_greedySize := List.mem_of_getElem? (i := 6) rfl
set_option maxHeartbeats 4000000 in
set_option maxRecDepth 100000 in
theorem kX0_greedySize (l : Launch) (X : XT) (qc : Nat) (Qc : Nat → Nat) (n : Nat) (M : Nat → Nat) (riv : Nat → Int) (roa : Nat → Int) (hn : n ≤ 8) (hM : ∀ k, k < n → riv k = ((M k : Nat) : Int) ∧ M k < 256) : Ci l yX0_greedySize wsX0_greedySize (rmD 2) X [.ref qc] [caW qc Qc ((n : Nat) : Int), aW X (Qc 0) 8 riv, aW X (Qc 1) 8 roa] (fun (z : Int) (roa2 : Nat → Int) => z = ((gm M n : Nat) : Int)) (fun (roa2 : Nat → Int) => [caW qc Qc ((n : Nat) : Int), aW X (Qc 0) 8 riv, aW X (Qc 1) 8 roa2]) := by
  refine Ci.ofW (cc := cX0_greedySize) (maxL := 4) (by decide) rfl (Nat.le_of_ble_eq_true rfl) ?_
  intro p_ e_ s_ m_ below meth c_ A Q_ S hA hAM hH hS hret ls hl
  have hl : lv_has ls 4 [(0, .ref (qc))] := hl
  refine lv_aload_n S.1 S.2.1 dX0_greedySize_0 rfl (lv_at hl 0 rfl) ?_
  refine zc_Vv (n := 0) (As := []) (rest := []) S hAM hA (kX0_dismissAll l X qc Qc n M riv roa ) rfl gX0_greedySize_X0_dismissAll  (by decide +kernel) ⟨Nat.le_of_ble_eq_true rfl, Nat.le_of_ble_eq_true rfl⟩ hH hS [0, 1, 2] rfl 3 rfl (List.Perm.refl _) 0 0 rfl rfl rfl hl.1 rfl (Nat.le_of_ble_eq_true rfl) dX0_greedySize_1 ⟨Nat.le_of_ble_eq_true rfl, Nat.le_of_ble_eq_true rfl⟩ (fun roa2_1 H locs hp3 hH hS => ?_)
  have hH : Hold X A [caW qc Qc ((n : Nat) : Int), aW X (Qc 0) 8 riv, aW X (Qc 1) 8 roa2_1].flatten H := hH
  have hz_1 := hp3
  refine lv_iconst (v := iI (((0 : Nat) : Int))) S.1 S.2.1 dX0_greedySize_4 (by decide) ?_
  refine lv_istore_n (lv' := [(1, .int (iI ((0 : Nat) : Int))), (0, .ref (qc))]) S.1 S.2.1 dX0_greedySize_5 rfl hl (by decide) rfl (fun ls hl => ?_)
  refine lv_iconst (v := iI (((0 : Nat) : Int))) S.1 S.2.1 dX0_greedySize_6 (by decide) ?_
  refine lv_istore_n (lv' := [(2, .int (iI ((0 : Nat) : Int))), (1, .int (iI ((0 : Nat) : Int))), (0, .ref (qc))]) S.1 S.2.1 dX0_greedySize_7 rfl hl (by decide) rfl (fun ls hl => ?_)
  have lp8 : ∀ (fu_ : Nat) (r : Nat) (us : Nat) (roa1 : Nat → Int), n - r < fu_ → (r ≤ n) → (us = gm M r) → (us ≤ 8) → (∀ x, x < 8 → roa1 x = ((bm (gG M r) x r : Nat) : Int)) → ∀ (H : Heap) (locs : List Loc), Hold X A [caW qc Qc ((n : Nat) : Int), aW X (Qc 0) 8 riv, aW X (Qc 1) 8 roa1].flatten H → va_S A s_.heap H locs → ∀ ls : Array Slot, lv_has ls 4 [(2, .int (iI ((r : Nat) : Int))), (1, .int (iI ((us : Nat) : Int))), (0, .ref (qc))] → W p_ l e_ (rmD 2) s_ m_ (List.toArray [.ref (qc)]) below meth c_ H locs 0 0 Q_ (F0 m_ 8 ls []) := by
    intro fu_
    induction fu_ with
    | zero => intro r us roa1 hmu hr hu hu8 hB H locs hH hS ls hl; exact absurd hmu (Nat.not_lt_zero _)
    | succ fu_ ih8 => 
      intro r us roa1 hmu hr hu hu8 hB H locs hH hS ls hl
      refine lv_iload_n S.1 S.2.1 dX0_greedySize_8 rfl (lv_at hl 0 rfl) ?_
      refine lv_aload_n S.1 S.2.1 dX0_greedySize_9 rfl (lv_at hl 2 rfl) ?_
      refine zv_get (v := .int (iI ((n : Nat) : Int))) S hAM hH nX0_greedySize_X0 0 rfl rfl 0 (by decide) mX0_greedySize_1 rfl rfl dX0_greedySize_10 ?_
      refine zv_icmp_ge (tgt := 65) S dX0_greedySize_13 (by decide) (by omega) (by omega) (fun c_13 => ?_) (fun c_13 => ?_)
      · skip
        refine lv_iload_n S.1 S.2.1 dX0_greedySize_65 rfl (lv_at hl 1 rfl) ?_
        exact hret 66 ls _ _ (((us : Nat) : Int)) roa1 dX0_greedySize_66 rfl (by rw [hu, show r = n by omega]) hH hS
      · skip
        refine lv_iconst (v := iI (((0 : Nat) : Int))) S.1 S.2.1 dX0_greedySize_16 (by decide) ?_
        refine lv_istore_n (lv' := [(3, .int (iI ((0 : Nat) : Int))), (2, .int (iI ((r : Nat) : Int))), (1, .int (iI ((us : Nat) : Int))), (0, .ref (qc))]) S.1 S.2.1 dX0_greedySize_17 rfl hl (by decide) rfl (fun ls hl => ?_)
        have lp18 : ∀ (fu_ : Nat) (a : Nat), 8 - a < fu_ → (a ≤ 7 ∧ a ≤ r) → (gcol M (gG M r) r = lfS M (gG M r) r a (r - a)) → ∀ (H : Heap) (locs : List Loc), Hold X A [caW qc Qc ((n : Nat) : Int), aW X (Qc 0) 8 riv, aW X (Qc 1) 8 roa1].flatten H → va_S A s_.heap H locs → ∀ ls : Array Slot, lv_has ls 4 [(3, .int (iI ((a : Nat) : Int))), (2, .int (iI ((r : Nat) : Int))), (1, .int (iI ((us : Nat) : Int))), (0, .ref (qc))] → W p_ l e_ (rmD 2) s_ m_ (List.toArray [.ref (qc)]) below meth c_ H locs 0 0 Q_ (F0 m_ 18 ls []) := by
          intro fu_
          induction fu_ with
          | zero => intro a hmu ha hlf H locs hH hS ls hl; exact absurd hmu (Nat.not_lt_zero _)
          | succ fu_ ih18 => 
            intro a hmu ha hlf H locs hH hS ls hl
            refine lv_iload_n S.1 S.2.1 dX0_greedySize_18 rfl (lv_at hl 0 rfl) ?_
            refine lv_bipush (v := iI (((7 : Nat) : Int))) S.1 S.2.1 dX0_greedySize_19 (by decide) ?_
            refine zv_icmp_ge (tgt := 39) S dX0_greedySize_21 (by decide) (by omega) (by decide) (fun c_21 => ?_) (fun c_21 => ?_)
            · skip
              have eC : gcol M (gG M r) r = a := by rw [hlf, show r - a = 0 by omega]; rfl
              refine lv_aload_n S.1 S.2.1 dX0_greedySize_39 rfl (lv_at hl 3 rfl) ?_
              refine zv_get (v := .ref (Qc 1)) S hAM hH nX0_greedySize_X0 0 rfl rfl 2 (by decide) mX0_greedySize_2 rfl rfl dX0_greedySize_40 ?_
              refine lv_iload_n S.1 S.2.1 dX0_greedySize_43 rfl (lv_at hl 0 rfl) ?_
              refine lv_dup2_11 S.1 S.2.1 dX0_greedySize_44 rfl rfl ?_
              refine zv_iald S hAM hH 2 rfl (a) rfl (by omega) (by decide) dX0_greedySize_45 ?_
              refine zv_top (z := roa1 a) (z2 := ((bm (gG M r) a r : Nat) : Int)) (hB a (by omega)) ?_
              refine lv_iconst (v := iI (((1 : Nat) : Int))) S.1 S.2.1 dX0_greedySize_46 (by decide) ?_
              refine lv_iload_n S.1 S.2.1 dX0_greedySize_47 rfl (lv_at hl 1 rfl) ?_
              refine zv_ishl (z := (((2 ^ r) : Nat) : Int)) S dX0_greedySize_48 (iI_shl1 _ (by omega)) ?_
              refine zv_ior (z := (((bm (gG M r) a r ||| (2 ^ r)) : Nat) : Int)) S dX0_greedySize_49 (iI_or _ _) ?_
              refine zv_iast (z := (((bm (gG M r) a r ||| (2 ^ r)) : Nat) : Int)) (w2 := [caW qc Qc ((n : Nat) : Int), aW X (Qc 0) 8 riv, aW X (Qc 1) 8 (uI roa1 a ((((bm (gG M r) a r ||| (2 ^ r)) : Nat) : Int)))].flatten) S hAM hH hS 2 rfl (a) rfl (by omega) (by decide) rfl dX0_greedySize_50 (fun H locs hH hS => ?_)
              refine lv_iload_n S.1 S.2.1 dX0_greedySize_51 rfl (lv_at hl 2 rfl) ?_
              refine lv_iload_n S.1 S.2.1 dX0_greedySize_52 rfl (lv_at hl 0 rfl) ?_
              refine lv_iconst (v := iI (((1 : Nat) : Int))) S.1 S.2.1 dX0_greedySize_53 (by decide) ?_
              refine zv_iadd (z := (((a + 1) : Nat) : Int)) S dX0_greedySize_54 (by omega) ?_
              refine zv_mmax (z := (((max us (a + 1)) : Nat) : Int)) S hl.1 mX0_greedySize_3 mX0_greedySize_4 mX0_greedySize_5 mX0_greedySize_6 (by omega) (by omega) (by omega) (Nat.le_of_ble_eq_true rfl) (Nat.le_of_ble_eq_true rfl) (Nat.le_of_ble_eq_true rfl) (Nat.le_of_ble_eq_true rfl) dX0_greedySize_55 ?_
              refine lv_istore_n (lv' := [(1, .int (iI (((max us (a + 1)) : Nat) : Int))), (3, .int (iI ((a : Nat) : Int))), (2, .int (iI ((r : Nat) : Int))), (0, .ref (qc))]) S.1 S.2.1 dX0_greedySize_58 rfl hl (by decide) rfl (fun ls hl => ?_)
              refine zv_iinc (z := (((r + 1) : Nat) : Int)) (lv' := [(2, .int (iI (((r + 1) : Nat) : Int))), (1, .int (iI (((max us (a + 1)) : Nat) : Int))), (3, .int (iI ((a : Nat) : Int))), (0, .ref (qc))]) S dX0_greedySize_59 hl (k := 2) rfl (by omega) (by decide) rfl (fun ls hl => ?_)
              refine lv_goto (tgt := 8) S.1 S.2.1 dX0_greedySize_62 (by decide) ?_
              exact ih8  ((r + 1)) ((max us (a + 1))) (uI roa1 a ((((bm (gG M r) a r ||| (2 ^ r)) : Nat) : Int))) (by omega) (by omega) (by rw [gm, eC, ← hu]; split <;> omega) (by omega) (by rw [gG, eC]; exact cf_set hB) _ _ hH hS ls (lv_sub hl [0, 1, 3] rfl)
            · skip
              refine lv_aload_n S.1 S.2.1 dX0_greedySize_24 rfl (lv_at hl 3 rfl) ?_
              refine lv_iload_n S.1 S.2.1 dX0_greedySize_25 rfl (lv_at hl 0 rfl) ?_
              refine lv_iload_n S.1 S.2.1 dX0_greedySize_26 rfl (lv_at hl 1 rfl) ?_
              refine zc_Vi (n := 2) (As := [.int (iI ((a : Nat) : Int)), .int (iI ((r : Nat) : Int))]) (rest := []) S hAM hA (kX0_isFree l X qc Qc n M riv roa1 (fun x => bm (gG M r) x r) a r hn hM hB (by omega) (by omega)) rfl gX0_greedySize_X0_isFree  (by decide +kernel) ⟨Nat.le_of_ble_eq_true rfl, Nat.le_of_ble_eq_true rfl⟩ hH hS [0, 1, 2] rfl 3 rfl (List.Perm.refl _) 0 0 rfl rfl rfl hl.1 rfl (Nat.le_of_ble_eq_true rfl) dX0_greedySize_27 ⟨Nat.le_of_ble_eq_true rfl, Nat.le_of_ble_eq_true rfl⟩ (fun z5 _ H locs hp6 hH hS => ?_)
              have hH : Hold X A [caW qc Qc ((n : Nat) : Int), aW X (Qc 0) 8 riv, aW X (Qc 1) 8 roa1].flatten H := hH
              rcases hp6 with ⟨rfl, b_27⟩ | ⟨rfl, b_27⟩
              · refine zv_top (z := 1) (z2 := ((1 : Nat) : Int)) rfl ?_
                have eC : gcol M (gG M r) r = a := by rw [hlf]; exact lfS_hit ((bm_free (gG M r) a (M r) (hM r (by omega)).2 r (by omega)).mp b_27)
                refine zv_if_ne (tgt := 39) S dX0_greedySize_30 (by decide) (by decide) (fun c_30 => ?_) (fun c_30 => ?_)
                · skip
                  refine lv_aload_n S.1 S.2.1 dX0_greedySize_39 rfl (lv_at hl 3 rfl) ?_
                  refine zv_get (v := .ref (Qc 1)) S hAM hH nX0_greedySize_X0 0 rfl rfl 2 (by decide) mX0_greedySize_2 rfl rfl dX0_greedySize_40 ?_
                  refine lv_iload_n S.1 S.2.1 dX0_greedySize_43 rfl (lv_at hl 0 rfl) ?_
                  refine lv_dup2_11 S.1 S.2.1 dX0_greedySize_44 rfl rfl ?_
                  refine zv_iald S hAM hH 2 rfl (a) rfl (by omega) (by decide) dX0_greedySize_45 ?_
                  refine zv_top (z := roa1 a) (z2 := ((bm (gG M r) a r : Nat) : Int)) (hB a (by omega)) ?_
                  refine lv_iconst (v := iI (((1 : Nat) : Int))) S.1 S.2.1 dX0_greedySize_46 (by decide) ?_
                  refine lv_iload_n S.1 S.2.1 dX0_greedySize_47 rfl (lv_at hl 1 rfl) ?_
                  refine zv_ishl (z := (((2 ^ r) : Nat) : Int)) S dX0_greedySize_48 (iI_shl1 _ (by omega)) ?_
                  refine zv_ior (z := (((bm (gG M r) a r ||| (2 ^ r)) : Nat) : Int)) S dX0_greedySize_49 (iI_or _ _) ?_
                  refine zv_iast (z := (((bm (gG M r) a r ||| (2 ^ r)) : Nat) : Int)) (w2 := [caW qc Qc ((n : Nat) : Int), aW X (Qc 0) 8 riv, aW X (Qc 1) 8 (uI roa1 a ((((bm (gG M r) a r ||| (2 ^ r)) : Nat) : Int)))].flatten) S hAM hH hS 2 rfl (a) rfl (by omega) (by decide) rfl dX0_greedySize_50 (fun H locs hH hS => ?_)
                  refine lv_iload_n S.1 S.2.1 dX0_greedySize_51 rfl (lv_at hl 2 rfl) ?_
                  refine lv_iload_n S.1 S.2.1 dX0_greedySize_52 rfl (lv_at hl 0 rfl) ?_
                  refine lv_iconst (v := iI (((1 : Nat) : Int))) S.1 S.2.1 dX0_greedySize_53 (by decide) ?_
                  refine zv_iadd (z := (((a + 1) : Nat) : Int)) S dX0_greedySize_54 (by omega) ?_
                  refine zv_mmax (z := (((max us (a + 1)) : Nat) : Int)) S hl.1 mX0_greedySize_3 mX0_greedySize_4 mX0_greedySize_5 mX0_greedySize_6 (by omega) (by omega) (by omega) (Nat.le_of_ble_eq_true rfl) (Nat.le_of_ble_eq_true rfl) (Nat.le_of_ble_eq_true rfl) (Nat.le_of_ble_eq_true rfl) dX0_greedySize_55 ?_
                  refine lv_istore_n (lv' := [(1, .int (iI (((max us (a + 1)) : Nat) : Int))), (3, .int (iI ((a : Nat) : Int))), (2, .int (iI ((r : Nat) : Int))), (0, .ref (qc))]) S.1 S.2.1 dX0_greedySize_58 rfl hl (by decide) rfl (fun ls hl => ?_)
                  refine zv_iinc (z := (((r + 1) : Nat) : Int)) (lv' := [(2, .int (iI (((r + 1) : Nat) : Int))), (1, .int (iI (((max us (a + 1)) : Nat) : Int))), (3, .int (iI ((a : Nat) : Int))), (0, .ref (qc))]) S dX0_greedySize_59 hl (k := 2) rfl (by omega) (by decide) rfl (fun ls hl => ?_)
                  refine lv_goto (tgt := 8) S.1 S.2.1 dX0_greedySize_62 (by decide) ?_
                  exact ih8  ((r + 1)) ((max us (a + 1))) (uI roa1 a ((((bm (gG M r) a r ||| (2 ^ r)) : Nat) : Int))) (by omega) (by omega) (by rw [gm, eC, ← hu]; split <;> omega) (by omega) (by rw [gG, eC]; exact cf_set hB) _ _ hH hS ls (lv_sub hl [0, 1, 3] rfl)
                · exact (show False by omega).elim
              · refine zv_top (z := 0) (z2 := ((0 : Nat) : Int)) rfl ?_
                have hm_ : mhI (gG M r) (M r) ((a : Nat) : Int) r = 0 := by rcases Nat.eq_zero_or_pos (mhI (gG M r) (M r) ((a : Nat) : Int) r) with z | z; (· exact z); (· exact absurd ((bm_free (gG M r) a (M r) (hM r (by omega)).2 r (by omega)).mpr (by omega)) b_27)
                refine zv_if_ne (tgt := 39) S dX0_greedySize_30 (by decide) (by decide) (fun c_30 => ?_) (fun c_30 => ?_)
                · exact (show False by omega).elim
                · skip
                  refine zv_iinc (z := (((a + 1) : Nat) : Int)) (lv' := [(3, .int (iI (((a + 1) : Nat) : Int))), (2, .int (iI ((r : Nat) : Int))), (1, .int (iI ((us : Nat) : Int))), (0, .ref (qc))]) S dX0_greedySize_33 hl (k := 0) rfl (by omega) (by decide) rfl (fun ls hl => ?_)
                  refine lv_goto (tgt := 18) S.1 S.2.1 dX0_greedySize_36 (by decide) ?_
                  exact ih18  ((a + 1)) (by omega) (by rcases Nat.lt_or_ge a r with z | z; (· omega); (· exact absurd hm_ (by rw [show a = r by omega]; exact gG_free M r))) (by rcases Nat.lt_or_ge a r with z | z; (· rw [hlf, lfS_miss hm_ (by omega)]; congr 1); (· exact absurd hm_ (by rw [show a = r by omega]; exact gG_free M r))) _ _ hH hS ls (lv_sub hl [0, 1, 2, 3] rfl)
        exact lp18 (8 - (0) + 1) (0) (Nat.lt_succ_self _) (by omega) rfl _ _ hH hS ls (lv_sub hl [0, 1, 2, 3] rfl)
  exact lp8 (n - (0) + 1) (0) (0) (roa2_1) (Nat.lt_succ_self _) (Nat.zero_le _) rfl (by omega) hz_1 _ _ hH hS ls (lv_sub hl [0, 1, 2] rfl)

theorem mX0_isClique_1 : Cond.fieldLink RX0 30 "RoleDoublingPlanner$Casting" "roles" "I" ∈ wsX0_isClique := List.mem_of_getElem? (i := 1) rfl
theorem nX0_isClique_X0 : ∀ w ∈ wsX00, w ∈ wsX0_isClique := fun _ h => List.mem_cons_of_mem _ (List.mem_append_right _ h)
theorem mX0_isClique_2 : Cond.fieldLink RX0 9 "RoleDoublingPlanner$Casting" "rivals" "[I" ∈ wsX0_isClique := List.mem_of_getElem? (i := 2) rfl
set_option maxHeartbeats 4000000 in
set_option maxRecDepth 100000 in
theorem kX0_isClique (l : Launch) (X : XT) (qc : Nat) (Qc : Nat → Nat) (v : Nat → Int) (riv : Nat → Int) (roa : Nat → Int) (x : Nat) (hn : nr v ≤ 8) (hM : ∀ k, k < nr v → riv k = ((Mk v 0 k : Nat) : Int) ∧ Mk v 0 k < 256) (hx : x < 256) : Ci l yX0_isClique wsX0_isClique (rmD 1) X [.ref qc, .int (iI ((x : Nat) : Int))] [caW qc Qc ((nr v : Nat) : Int), aW X (Qc 0) 8 riv, aW X (Qc 1) 8 roa] (fun (z : Int) (_ : Unit) => (z = 1 ∧ (clI v x (nr v) ≠ 0)) ∨ (z = 0 ∧ ¬ (clI v x (nr v) ≠ 0))) (fun (_ : Unit) => [caW qc Qc ((nr v : Nat) : Int), aW X (Qc 0) 8 riv, aW X (Qc 1) 8 roa]) := by
  refine Ci.ofW (cc := cX0_isClique) (maxL := 4) (by decide) rfl (Nat.le_of_ble_eq_true rfl) ?_
  intro p_ e_ s_ m_ below meth c_ A Q_ S hA hAM hH hS hret ls hl
  have hl : lv_has ls 4 [(0, .ref (qc)), (1, .int (iI ((x : Nat) : Int)))] := hl
  refine lv_iconst (v := iI (((0 : Nat) : Int))) S.1 S.2.1 dX0_isClique_0 (by decide) ?_
  refine lv_istore_n (lv' := [(2, .int (iI ((0 : Nat) : Int))), (0, .ref (qc)), (1, .int (iI ((x : Nat) : Int)))]) S.1 S.2.1 dX0_isClique_1 rfl hl (by decide) rfl (fun ls hl => ?_)
  have lp2 : ∀ (fu_ : Nat) (p : Nat), nr v - p < fu_ → (p ≤ nr v) → (clI v x p ≠ 0) → ∀ (H : Heap) (locs : List Loc), Hold X A [caW qc Qc ((nr v : Nat) : Int), aW X (Qc 0) 8 riv, aW X (Qc 1) 8 roa].flatten H → va_S A s_.heap H locs → ∀ ls : Array Slot, lv_has ls 4 [(2, .int (iI ((p : Nat) : Int))), (0, .ref (qc)), (1, .int (iI ((x : Nat) : Int)))] → W p_ l e_ (rmD 1) s_ m_ (List.toArray [.ref (qc), .int (iI ((x : Nat) : Int))]) below meth c_ H locs 0 0 Q_ (F0 m_ 2 ls []) := by
    intro fu_
    induction fu_ with
    | zero => intro p hmu hp hcl H locs hH hS ls hl; exact absurd hmu (Nat.not_lt_zero _)
    | succ fu_ ih2 => 
      intro p hmu hp hcl H locs hH hS ls hl
      refine lv_iload_n S.1 S.2.1 dX0_isClique_2 rfl (lv_at hl 0 rfl) ?_
      refine lv_aload_n S.1 S.2.1 dX0_isClique_3 rfl (lv_at hl 1 rfl) ?_
      refine zv_get (v := .int (iI ((nr v : Nat) : Int))) S hAM hH nX0_isClique_X0 0 rfl rfl 0 (by decide) mX0_isClique_1 rfl rfl dX0_isClique_4 ?_
      refine zv_icmp_ge (tgt := 44) S dX0_isClique_7 (by decide) (by omega) (by omega) (fun c_7 => ?_) (fun c_7 => ?_)
      · skip
        refine lv_iconst (v := iI (((1 : Nat) : Int))) S.1 S.2.1 dX0_isClique_44 (by decide) ?_
        exact hret 45 ls _ _ (((1 : Nat) : Int)) () dX0_isClique_45 rfl (Or.inl ⟨rfl, (by rw [← show p = nr v by omega]; exact hcl)⟩) hH hS
      · skip
        refine lv_iload_n S.1 S.2.1 dX0_isClique_10 rfl (lv_at hl 2 rfl) ?_
        refine lv_iconst (v := iI (((1 : Nat) : Int))) S.1 S.2.1 dX0_isClique_11 (by decide) ?_
        refine lv_iload_n S.1 S.2.1 dX0_isClique_12 rfl (lv_at hl 0 rfl) ?_
        refine zv_ishl (z := (((2 ^ p) : Nat) : Int)) S dX0_isClique_13 (iI_shl1 _ (by omega)) ?_
        refine lv_iconst (v := iI (-1)) S.1 S.2.1 dX0_isClique_14 (by decide) ?_
        refine zv_ixor (z := (-(((2 ^ p) : Nat) : Int) - 1)) S dX0_isClique_15 (iI_not _) ?_
        refine zv_iand (z := (((x ^^^ (x &&& (2 ^ p))) : Nat) : Int)) S dX0_isClique_16 (iI_andn _ _) ?_
        refine lv_istore_n (lv' := [(3, .int (iI (((x ^^^ (x &&& (2 ^ p))) : Nat) : Int))), (2, .int (iI ((p : Nat) : Int))), (0, .ref (qc)), (1, .int (iI ((x : Nat) : Int)))]) S.1 S.2.1 dX0_isClique_17 rfl hl (by decide) rfl (fun ls hl => ?_)
        refine lv_iload_n S.1 S.2.1 dX0_isClique_18 rfl (lv_at hl 0 rfl) ?_
        refine lv_iload_n S.1 S.2.1 dX0_isClique_19 rfl (lv_at hl 3 rfl) ?_
        refine zv_icmp_eq (tgt := 38) S dX0_isClique_20 (by decide) (by have h9 := xa_le (m := 2 ^ p) hx; omega) (by omega) (fun c_20 => ?_) (fun c_20 => ?_)
        · skip
          have hst : clI v x (p + 1) ≠ 0 := by rw [clI, if_pos ⟨hcl, Or.inl (cl_a.mp (by omega))⟩]; exact Nat.one_ne_zero
          refine zv_iinc (z := (((p + 1) : Nat) : Int)) (lv' := [(2, .int (iI (((p + 1) : Nat) : Int))), (3, .int (iI (((x ^^^ (x &&& (2 ^ p))) : Nat) : Int))), (0, .ref (qc)), (1, .int (iI ((x : Nat) : Int)))]) S dX0_isClique_38 hl (k := 1) rfl (by omega) (by decide) rfl (fun ls hl => ?_)
          refine lv_goto (tgt := 2) S.1 S.2.1 dX0_isClique_41 (by decide) ?_
          exact ih2  ((p + 1)) (by omega) (by omega) hst _ _ hH hS ls (lv_sub hl [0, 2, 3] rfl)
        · skip
          refine lv_iload_n S.1 S.2.1 dX0_isClique_23 rfl (lv_at hl 0 rfl) ?_
          refine lv_aload_n S.1 S.2.1 dX0_isClique_24 rfl (lv_at hl 2 rfl) ?_
          refine zv_get (v := .ref (Qc 0)) S hAM hH nX0_isClique_X0 0 rfl rfl 1 (by decide) mX0_isClique_2 rfl rfl dX0_isClique_25 ?_
          refine lv_iload_n S.1 S.2.1 dX0_isClique_28 rfl (lv_at hl 1 rfl) ?_
          refine zv_iald S hAM hH 1 rfl (p) rfl (by omega) (by decide) dX0_isClique_29 ?_
          refine zv_top (z := riv p) (z2 := ((Mk v 0 p : Nat) : Int)) (hM p (by omega)).1 ?_
          refine lv_iconst (v := iI (-1)) S.1 S.2.1 dX0_isClique_30 (by decide) ?_
          refine zv_ixor (z := (-((Mk v 0 p : Nat) : Int) - 1)) S dX0_isClique_31 (iI_not _) ?_
          refine zv_iand (z := ((((x ^^^ (x &&& (2 ^ p))) ^^^ ((x ^^^ (x &&& (2 ^ p))) &&& (Mk v 0 p))) : Nat) : Int)) S dX0_isClique_32 (iI_andn _ _) ?_
          refine zv_if_eq (tgt := 38) S dX0_isClique_33 (by decide) (by have h9 := xa_le (m := Mk v 0 p) (xa_le (m := 2 ^ p) hx); omega) (fun c_33 => ?_) (fun c_33 => ?_)
          · skip
            have hst : clI v x (p + 1) ≠ 0 := by rw [clI, if_pos ⟨hcl, Or.inr ((cl_b (fun z => c_20 (by rw [cl_a.mpr z])) (Mk_self v 0 p)).mp (by omega))⟩]; exact Nat.one_ne_zero
            refine zv_iinc (z := (((p + 1) : Nat) : Int)) (lv' := [(2, .int (iI (((p + 1) : Nat) : Int))), (3, .int (iI (((x ^^^ (x &&& (2 ^ p))) : Nat) : Int))), (0, .ref (qc)), (1, .int (iI ((x : Nat) : Int)))]) S dX0_isClique_38 hl (k := 1) rfl (by omega) (by decide) rfl (fun ls hl => ?_)
            refine lv_goto (tgt := 2) S.1 S.2.1 dX0_isClique_41 (by decide) ?_
            exact ih2  ((p + 1)) (by omega) (by omega) hst _ _ hH hS ls (lv_sub hl [0, 2, 3] rfl)
          · skip
            have hnx : ¬ x / 2 ^ p % 2 = 0 := fun z => c_20 (by rw [cl_a.mpr z])
            have hst : clI v x (p + 1) = 0 := by rw [clI, if_neg (fun z => z.2.elim hnx (fun q => c_33 (by rw [(cl_b hnx (Mk_self v 0 p)).mpr q]; rfl)))]
            refine lv_iconst (v := iI (((0 : Nat) : Int))) S.1 S.2.1 dX0_isClique_36 (by decide) ?_
            exact hret 37 ls _ _ (((0 : Nat) : Int)) () dX0_isClique_37 rfl (Or.inr ⟨rfl, (fun z => clI_mono (by omega) z hst)⟩) hH hS
  exact lp2 (nr v - (0) + 1) (0) (Nat.lt_succ_self _) (Nat.zero_le _) Nat.one_ne_zero _ _ hH hS ls (lv_sub hl [0, 1, 2] rfl)

theorem mX0_largestClique_1 : Cond.fieldLink RX0 30 "RoleDoublingPlanner$Casting" "roles" "I" ∈ wsX0_largestClique := List.mem_of_getElem? (i := 1) rfl
theorem nX0_largestClique_X0 : ∀ w ∈ wsX00, w ∈ wsX0_largestClique := fun _ h => List.mem_cons_of_mem _ (List.mem_append_right _ h)
theorem mX0_largestClique_2 : Cond.methodLink RX0 56 Lib.Math.max.name ∈ wsX0_largestClique := List.mem_of_getElem? (i := 2) rfl
theorem mX0_largestClique_3 : Cond.static Lib.Math.max.name ∈ wsX0_largestClique := List.mem_of_getElem? (i := 3) rfl
theorem mX0_largestClique_4 : Cond.initialized "java/lang/Math" ∈ wsX0_largestClique := List.mem_of_getElem? (i := 4) rfl
theorem mX0_largestClique_5 : Cond.code Lib.Math.max.name Lib.Math.max.code 2 (some .int) ∈ wsX0_largestClique := List.mem_of_getElem? (i := 5) rfl
set_option maxHeartbeats 4000000 in
set_option maxRecDepth 100000 in
theorem kX0_largestClique (l : Launch) (X : XT) (qc : Nat) (Qc : Nat → Nat) (v : Nat → Int) (riv : Nat → Int) (roa : Nat → Int) (hn : nr v ≤ 8) (hM : ∀ k, k < nr v → riv k = ((Mk v 0 k : Nat) : Int) ∧ Mk v 0 k < 256) : Ci l yX0_largestClique wsX0_largestClique (rmD 2) X [.ref qc] [caW qc Qc ((nr v : Nat) : Int), aW X (Qc 0) 8 riv, aW X (Qc 1) 8 roa] (fun (z : Int) (_ : Unit) => z = ((clM v (2 ^ nr v) : Nat) : Int)) (fun (_ : Unit) => [caW qc Qc ((nr v : Nat) : Int), aW X (Qc 0) 8 riv, aW X (Qc 1) 8 roa]) := by
  refine Ci.ofW (cc := cX0_largestClique) (maxL := 3) (by decide) rfl (Nat.le_of_ble_eq_true rfl) ?_
  intro p_ e_ s_ m_ below meth c_ A Q_ S hA hAM hH hS hret ls hl
  have hl : lv_has ls 3 [(0, .ref (qc))] := hl
  have hpw := pw8 (nr v) hn
  refine lv_iconst (v := iI (((0 : Nat) : Int))) S.1 S.2.1 dX0_largestClique_0 (by decide) ?_
  refine lv_istore_n (lv' := [(1, .int (iI ((0 : Nat) : Int))), (0, .ref (qc))]) S.1 S.2.1 dX0_largestClique_1 rfl hl (by decide) rfl (fun ls hl => ?_)
  refine lv_iconst (v := iI (((1 : Nat) : Int))) S.1 S.2.1 dX0_largestClique_2 (by decide) ?_
  refine lv_istore_n (lv' := [(2, .int (iI ((1 : Nat) : Int))), (1, .int (iI ((0 : Nat) : Int))), (0, .ref (qc))]) S.1 S.2.1 dX0_largestClique_3 rfl hl (by decide) rfl (fun ls hl => ?_)
  have lp4 : ∀ (fu_ : Nat) (lg : Nat) (x : Nat), 2 ^ nr v - x < fu_ → (1 ≤ x ∧ x ≤ 2 ^ nr v) → (lg = clM v x) → (lg ≤ 8) → ∀ (H : Heap) (locs : List Loc), Hold X A [caW qc Qc ((nr v : Nat) : Int), aW X (Qc 0) 8 riv, aW X (Qc 1) 8 roa].flatten H → va_S A s_.heap H locs → ∀ ls : Array Slot, lv_has ls 3 [(2, .int (iI ((x : Nat) : Int))), (1, .int (iI ((lg : Nat) : Int))), (0, .ref (qc))] → W p_ l e_ (rmD 2) s_ m_ (List.toArray [.ref (qc)]) below meth c_ H locs 0 0 Q_ (F0 m_ 4 ls []) := by
    intro fu_
    induction fu_ with
    | zero => intro lg x hmu hx hlg hl8 H locs hH hS ls hl; exact absurd hmu (Nat.not_lt_zero _)
    | succ fu_ ih4 => 
      intro lg x hmu hx hlg hl8 H locs hH hS ls hl
      have hp8 := pop_8 x
      refine lv_iload_n S.1 S.2.1 dX0_largestClique_4 rfl (lv_at hl 0 rfl) ?_
      refine lv_iconst (v := iI (((1 : Nat) : Int))) S.1 S.2.1 dX0_largestClique_5 (by decide) ?_
      refine lv_aload_n S.1 S.2.1 dX0_largestClique_6 rfl (lv_at hl 2 rfl) ?_
      refine zv_get (v := .int (iI ((nr v : Nat) : Int))) S hAM hH nX0_largestClique_X0 0 rfl rfl 0 (by decide) mX0_largestClique_1 rfl rfl dX0_largestClique_7 ?_
      refine zv_ishl (z := (((2 ^ (nr v)) : Nat) : Int)) S dX0_largestClique_10 (iI_shl1 _ (by omega)) ?_
      refine zv_icmp_ge (tgt := 37) S dX0_largestClique_11 (by decide) (by omega) (by omega) (fun c_11 => ?_) (fun c_11 => ?_)
      · skip
        refine lv_iload_n S.1 S.2.1 dX0_largestClique_37 rfl (lv_at hl 1 rfl) ?_
        exact hret 38 ls _ _ (((lg : Nat) : Int)) () dX0_largestClique_38 rfl (by rw [hlg, show x = 2 ^ nr v by omega]) hH hS
      · skip
        refine lv_aload_n S.1 S.2.1 dX0_largestClique_14 rfl (lv_at hl 2 rfl) ?_
        refine lv_iload_n S.1 S.2.1 dX0_largestClique_15 rfl (lv_at hl 0 rfl) ?_
        refine zc_Vi (n := 1) (As := [.int (iI ((x : Nat) : Int))]) (rest := []) S hAM hA (kX0_isClique l X qc Qc v riv roa x hn hM (by omega)) rfl gX0_largestClique_X0_isClique  (by decide +kernel) ⟨Nat.le_of_ble_eq_true rfl, Nat.le_of_ble_eq_true rfl⟩ hH hS [0, 1, 2] rfl 3 rfl (List.Perm.refl _) 0 0 rfl rfl rfl hl.1 rfl (Nat.le_of_ble_eq_true rfl) dX0_largestClique_16 ⟨Nat.le_of_ble_eq_true rfl, Nat.le_of_ble_eq_true rfl⟩ (fun z2 _ H locs hp3 hH hS => ?_)
        have hH : Hold X A [caW qc Qc ((nr v : Nat) : Int), aW X (Qc 0) 8 riv, aW X (Qc 1) 8 roa].flatten H := hH
        rcases hp3 with ⟨rfl, b_16⟩ | ⟨rfl, b_16⟩
        · refine zv_top (z := 1) (z2 := ((1 : Nat) : Int)) rfl ?_
          refine zv_if_eq (tgt := 31) S dX0_largestClique_19 (by decide) (by decide) (fun c_19 => ?_) (fun c_19 => ?_)
          · exact (show False by omega).elim
          · skip
            refine lv_iload_n S.1 S.2.1 dX0_largestClique_22 rfl (lv_at hl 1 rfl) ?_
            refine lv_iload_n S.1 S.2.1 dX0_largestClique_23 rfl (lv_at hl 0 rfl) ?_
            refine zc_Si (n := 1) (As := [.int (iI ((x : Nat) : Int))]) (rest := [.int (iI ((lg : Nat) : Int))]) S hAM hA (kJ_bitCount l X x (by omega)) rfl gX0_largestClique_J6_bitCount_0f7a4  (by decide +kernel) ⟨Nat.le_of_ble_eq_true rfl, Nat.le_of_ble_eq_true rfl⟩ hH hS [0, 1, 2] rfl 3 rfl (List.Perm.refl _)  rfl hl.1 rfl (Nat.le_of_ble_eq_true rfl) dX0_largestClique_24 ⟨Nat.le_of_ble_eq_true rfl, Nat.le_of_ble_eq_true rfl⟩ (fun z5 _ H locs hp6 hH hS => ?_)
            have hH : Hold X A [caW qc Qc ((nr v : Nat) : Int), aW X (Qc 0) 8 riv, aW X (Qc 1) 8 roa].flatten H := hH
            obtain rfl := hp6
            refine zv_mmax (z := (((max lg (pop x)) : Nat) : Int)) S hl.1 mX0_largestClique_2 mX0_largestClique_3 mX0_largestClique_4 mX0_largestClique_5 (by omega) (by have := pop_8 x (by omega); omega) (by omega) (Nat.le_of_ble_eq_true rfl) (Nat.le_of_ble_eq_true rfl) (Nat.le_of_ble_eq_true rfl) (Nat.le_of_ble_eq_true rfl) dX0_largestClique_27 ?_
            refine lv_istore_n (lv' := [(1, .int (iI (((max lg (pop x)) : Nat) : Int))), (2, .int (iI ((x : Nat) : Int))), (0, .ref (qc))]) S.1 S.2.1 dX0_largestClique_30 rfl hl (by decide) rfl (fun ls hl => ?_)
            refine zv_iinc (z := (((x + 1) : Nat) : Int)) (lv' := [(2, .int (iI (((x + 1) : Nat) : Int))), (1, .int (iI (((max lg (pop x)) : Nat) : Int))), (0, .ref (qc))]) S dX0_largestClique_31 hl (k := 1) rfl (by omega) (by decide) rfl (fun ls hl => ?_)
            refine lv_goto (tgt := 4) S.1 S.2.1 dX0_largestClique_34 (by decide) ?_
            exact ih4  ((max lg (pop x))) ((x + 1)) (by omega) (by omega) (by rw [clM]; split <;> first | omega | (exfalso; omega)) (by omega) _ _ hH hS ls (lv_sub hl [0, 1, 2] rfl)
        · refine zv_top (z := 0) (z2 := ((0 : Nat) : Int)) rfl ?_
          refine zv_if_eq (tgt := 31) S dX0_largestClique_19 (by decide) (by decide) (fun c_19 => ?_) (fun c_19 => ?_)
          · skip
            refine zv_iinc (z := (((x + 1) : Nat) : Int)) (lv' := [(2, .int (iI (((x + 1) : Nat) : Int))), (1, .int (iI ((lg : Nat) : Int))), (0, .ref (qc))]) S dX0_largestClique_31 hl (k := 0) rfl (by omega) (by decide) rfl (fun ls hl => ?_)
            refine lv_goto (tgt := 4) S.1 S.2.1 dX0_largestClique_34 (by decide) ?_
            exact ih4  (lg) ((x + 1)) (by omega) (by omega) (by rw [clM]; split <;> first | omega | (exfalso; omega)) (by omega) _ _ hH hS ls (lv_sub hl [0, 1, 2] rfl)
          · exact (show False by omega).elim
  exact lp4 (2 ^ nr v - (1) + 1) (0) (1) (Nat.lt_succ_self _) ⟨Nat.le_refl _, Nat.one_le_two_pow⟩ (by rw [clM, if_neg (fun z => Nat.not_lt_zero _ (show clM v 0 < 0 from z.2))]; rfl) (by omega) _ _ hH hS ls (lv_sub hl [0, 1, 2] rfl)

theorem mX0_lookAt_1 : Cond.fieldLink RX0 18 "RoleDoublingPlanner$Slacks" "play" "LRoleDoublingPlanner$Play;" ∈ wsX0_lookAt := List.mem_of_getElem? (i := 1) rfl
theorem nX0_lookAt_X4 : ∀ w ∈ wsX40, w ∈ wsX0_lookAt := fun _ h => List.mem_cons_of_mem _ (List.mem_append_left _ (List.mem_append_left _ (List.mem_append_right _ h)))
theorem mX0_lookAt_2 : Cond.fieldLink RX0 24 "RoleDoublingPlanner$Play" "roles" "I" ∈ wsX0_lookAt := List.mem_of_getElem? (i := 2) rfl
theorem nX0_lookAt_X2 : ∀ w ∈ wsX20, w ∈ wsX0_lookAt := fun _ h => List.mem_cons_of_mem _ (List.mem_append_left _ (List.mem_append_right _ h))
theorem mX0_lookAt_3 : Cond.fieldLink RX0 30 "RoleDoublingPlanner$Casting" "roles" "I" ∈ wsX0_lookAt := List.mem_of_getElem? (i := 3) rfl
theorem nX0_lookAt_X0 : ∀ w ∈ wsX00, w ∈ wsX0_lookAt := fun _ h => List.mem_cons_of_mem _ (List.mem_append_right _ h)
theorem mX0_lookAt_4 : Cond.fieldLink RX0 9 "RoleDoublingPlanner$Casting" "rivals" "[I" ∈ wsX0_lookAt := List.mem_of_getElem? (i := 4) rfl
set_option maxHeartbeats 4000000 in
set_option maxRecDepth 100000 in
theorem kX0_lookAt (l : Launch) (X : XT) (qc : Nat) (Qc : Nat → Nat) (m0 : Int) (riv : Nat → Int) (qs : Nat) (qT : Nat) (Qs : Nat → Nat) (T : Nat → Nat → Int) (q : Nat) (Qp : Nat → Nat) (v : Nat → Int) (sl : Nat → Int) (vo : Nat → Int) (ou : Nat → Int) (inn : Nat → Int) (ac : Nat → Int) (ag : Nat → Int) (ai : Nat → Int) (et : Nat → Int) (xt : Nat → Int) (f : Int) (hv : okR v) (hP : PA v sl vo ou inn ac ag ai et xt) (hT : TbOK T v) (hf : 0 ≤ f ∧ f ≤ 120) : Cv l yX0_lookAt wsX0_lookAt (rmD 2) X [.ref qc, .ref (qs), .int (iI (f))] [caW qc Qc m0, aW X (Qc 0) 8 riv, tbW X qT Qs T, slW qs q qT, poW q Qp ((ns v : Nat) : Int) ((nr v : Nat) : Int) ((na v : Nat) : Int), aW X (Qp 0) 10 sl, aW X (Qp 1) 8 vo, aW X (Qp 2) 8 ou, aW X (Qp 3) 8 inn, aW X (Qp 4) 8 ac, aW X (Qp 5) 20 ag, aW X (Qp 6) 20 ai, aW X (Qp 7) 20 et, aW X (Qp 8) 20 xt] (fun (riv2 : Nat → Int) => ∀ k, k < nr v → riv2 k = ((Mk v f k : Nat) : Int)) (fun (riv2 : Nat → Int) => [caW qc Qc ((nr v : Nat) : Int), aW X (Qc 0) 8 riv2, tbW X qT Qs T, slW qs q qT, poW q Qp ((ns v : Nat) : Int) ((nr v : Nat) : Int) ((na v : Nat) : Int), aW X (Qp 0) 10 sl, aW X (Qp 1) 8 vo, aW X (Qp 2) 8 ou, aW X (Qp 3) 8 inn, aW X (Qp 4) 8 ac, aW X (Qp 5) 20 ag, aW X (Qp 6) 20 ai, aW X (Qp 7) 20 et, aW X (Qp 8) 20 xt]) := by
  refine Cv.ofW (cc := cX0_lookAt) (maxL := 5) (by decide) rfl (Nat.le_of_ble_eq_true rfl) ?_
  intro p_ e_ s_ m_ below meth c_ A Q_ S hA hAM hH hS hmn hret ls hl
  have hl : lv_has ls 5 [(0, .ref (qc)), (1, .ref (qs)), (2, .int (iI (f)))] := hl
  have hk1 := hv.nr8
  have hk2 := hv.na20
  have hk3 := hv.ns10
  refine lv_aload_n S.1 S.2.1 dX0_lookAt_0 rfl (lv_at hl 0 rfl) ?_
  refine lv_aload_n S.1 S.2.1 dX0_lookAt_1 rfl (lv_at hl 1 rfl) ?_
  refine zv_get (v := .ref (q)) S hAM hH nX0_lookAt_X4 11 rfl rfl 0 (by decide) mX0_lookAt_1 rfl rfl dX0_lookAt_2 ?_
  refine zv_get (v := .int (iI ((nr v : Nat) : Int))) S hAM hH nX0_lookAt_X2 12 rfl rfl 1 (by decide) mX0_lookAt_2 rfl rfl dX0_lookAt_5 ?_
  refine zv_put (v := .int (iI ((nr v : Nat) : Int))) (w2 := [caW qc Qc ((nr v : Nat) : Int), aW X (Qc 0) 8 riv, tbW X qT Qs T, slW qs q qT, poW q Qp ((ns v : Nat) : Int) ((nr v : Nat) : Int) ((na v : Nat) : Int), aW X (Qp 0) 10 sl, aW X (Qp 1) 8 vo, aW X (Qp 2) 8 ou, aW X (Qp 3) 8 inn, aW X (Qp 4) 8 ac, aW X (Qp 5) 20 ag, aW X (Qp 6) 20 ai, aW X (Qp 7) 20 et, aW X (Qp 8) 20 xt].flatten) S hAM hH hS nX0_lookAt_X0 tyX0 tyX0_ok nmX0 0 rfl rfl 0 (by decide) mX0_lookAt_3 rfl rfl rfl rfl (Nat.le_of_ble_eq_true rfl) rfl dX0_lookAt_8 (fun H locs hH hS => ?_)
  refine lv_iconst (v := iI (((0 : Nat) : Int))) S.1 S.2.1 dX0_lookAt_11 (by decide) ?_
  refine lv_istore_n (lv' := [(3, .int (iI ((0 : Nat) : Int))), (0, .ref (qc)), (1, .ref (qs)), (2, .int (iI (f)))]) S.1 S.2.1 dX0_lookAt_12 rfl hl (by decide) rfl (fun ls hl => ?_)
  have lp13 : ∀ (fu_ : Nat) (r : Nat) (riv1 : Nat → Int), nr v - r < fu_ → (r ≤ nr v) → (∀ k, k < r → riv1 k = ((mk v f k r : Nat) : Int)) → ∀ (H : Heap) (locs : List Loc), Hold X A [caW qc Qc ((nr v : Nat) : Int), aW X (Qc 0) 8 riv1, tbW X qT Qs T, slW qs q qT, poW q Qp ((ns v : Nat) : Int) ((nr v : Nat) : Int) ((na v : Nat) : Int), aW X (Qp 0) 10 sl, aW X (Qp 1) 8 vo, aW X (Qp 2) 8 ou, aW X (Qp 3) 8 inn, aW X (Qp 4) 8 ac, aW X (Qp 5) 20 ag, aW X (Qp 6) 20 ai, aW X (Qp 7) 20 et, aW X (Qp 8) 20 xt].flatten H → va_S A s_.heap H locs → ∀ ls : Array Slot, lv_has ls 5 [(3, .int (iI ((r : Nat) : Int))), (0, .ref (qc)), (1, .ref (qs)), (2, .int (iI (f)))] → W p_ l e_ (rmD 2) s_ m_ (List.toArray [.ref (qc), .ref (qs), .int (iI (f))]) below meth c_ H locs 0 0 Q_ (F0 m_ 13 ls []) := by
    intro fu_
    induction fu_ with
    | zero => intro r riv1 hmu hr hk H locs hH hS ls hl; exact absurd hmu (Nat.not_lt_zero _)
    | succ fu_ ih13 => 
      intro r riv1 hmu hr hk H locs hH hS ls hl
      refine lv_iload_n S.1 S.2.1 dX0_lookAt_13 rfl (lv_at hl 0 rfl) ?_
      refine lv_aload_n S.1 S.2.1 dX0_lookAt_14 rfl (lv_at hl 1 rfl) ?_
      refine zv_get (v := .int (iI ((nr v : Nat) : Int))) S hAM hH nX0_lookAt_X0 0 rfl rfl 0 (by decide) mX0_lookAt_3 rfl rfl dX0_lookAt_15 ?_
      refine zv_icmp_ge (tgt := 86) S dX0_lookAt_18 (by decide) (by omega) (by omega) (fun c_18 => ?_) (fun c_18 => ?_)
      · skip
        exact hret 86 ls _ _ riv1 dX0_lookAt_86 (by have e9 : r = nr v := (by omega); subst e9; exact hk) hH hS
      · skip
        refine lv_aload_n S.1 S.2.1 dX0_lookAt_21 rfl (lv_at hl 1 rfl) ?_
        refine zv_get (v := .ref (Qc 0)) S hAM hH nX0_lookAt_X0 0 rfl rfl 1 (by decide) mX0_lookAt_4 rfl rfl dX0_lookAt_22 ?_
        refine lv_iload_n S.1 S.2.1 dX0_lookAt_25 rfl (lv_at hl 0 rfl) ?_
        refine lv_iconst (v := iI (((0 : Nat) : Int))) S.1 S.2.1 dX0_lookAt_26 (by decide) ?_
        refine zv_iast (z := ((0 : Nat) : Int)) (w2 := [caW qc Qc ((nr v : Nat) : Int), aW X (Qc 0) 8 (uI riv1 r (((0 : Nat) : Int))), tbW X qT Qs T, slW qs q qT, poW q Qp ((ns v : Nat) : Int) ((nr v : Nat) : Int) ((na v : Nat) : Int), aW X (Qp 0) 10 sl, aW X (Qp 1) 8 vo, aW X (Qp 2) 8 ou, aW X (Qp 3) 8 inn, aW X (Qp 4) 8 ac, aW X (Qp 5) 20 ag, aW X (Qp 6) 20 ai, aW X (Qp 7) 20 et, aW X (Qp 8) 20 xt].flatten) S hAM hH hS 1 rfl (r) rfl (by omega) (by decide) rfl dX0_lookAt_27 (fun H locs hH hS => ?_)
        refine lv_iconst (v := iI (((0 : Nat) : Int))) S.1 S.2.1 dX0_lookAt_28 (by decide) ?_
        refine lv_istore (lv' := [(4, .int (iI ((0 : Nat) : Int))), (3, .int (iI ((r : Nat) : Int))), (0, .ref (qc)), (1, .ref (qs)), (2, .int (iI (f)))]) S.1 S.2.1 dX0_lookAt_29 hl (by decide) rfl (fun ls hl => ?_)
        have lp31 : ∀ (fu_ : Nat) (o : Nat) (riv1 : Nat → Int), r - o < fu_ → (o ≤ r) → (lkI v f r o riv1) → ∀ (H : Heap) (locs : List Loc), Hold X A [caW qc Qc ((nr v : Nat) : Int), aW X (Qc 0) 8 riv1, tbW X qT Qs T, slW qs q qT, poW q Qp ((ns v : Nat) : Int) ((nr v : Nat) : Int) ((na v : Nat) : Int), aW X (Qp 0) 10 sl, aW X (Qp 1) 8 vo, aW X (Qp 2) 8 ou, aW X (Qp 3) 8 inn, aW X (Qp 4) 8 ac, aW X (Qp 5) 20 ag, aW X (Qp 6) 20 ai, aW X (Qp 7) 20 et, aW X (Qp 8) 20 xt].flatten H → va_S A s_.heap H locs → ∀ ls : Array Slot, lv_has ls 5 [(4, .int (iI ((o : Nat) : Int))), (3, .int (iI ((r : Nat) : Int))), (0, .ref (qc)), (1, .ref (qs)), (2, .int (iI (f)))] → W p_ l e_ (rmD 2) s_ m_ (List.toArray [.ref (qc), .ref (qs), .int (iI (f))]) below meth c_ H locs 0 0 Q_ (F0 m_ 31 ls []) := by
          intro fu_
          induction fu_ with
          | zero => intro o riv1 hmu ho hL H locs hH hS ls hl; exact absurd hmu (Nat.not_lt_zero _)
          | succ fu_ ih31 => 
            intro o riv1 hmu ho hL H locs hH hS ls hl
            refine lv_iload S.1 S.2.1 dX0_lookAt_31 (lv_at hl 0 rfl) ?_
            refine lv_iload_n S.1 S.2.1 dX0_lookAt_33 rfl (lv_at hl 1 rfl) ?_
            refine zv_icmp_ge (tgt := 80) S dX0_lookAt_34 (by decide) (by omega) (by omega) (fun c_34 => ?_) (fun c_34 => ?_)
            · skip
              refine zv_iinc (z := (((r + 1) : Nat) : Int)) (lv' := [(3, .int (iI (((r + 1) : Nat) : Int))), (4, .int (iI ((o : Nat) : Int))), (0, .ref (qc)), (1, .ref (qs)), (2, .int (iI (f)))]) S dX0_lookAt_80 hl (k := 1) rfl (by omega) (by decide) rfl (fun ls hl => ?_)
              refine lv_goto (tgt := 13) S.1 S.2.1 dX0_lookAt_83 (by decide) ?_
              exact ih13  ((r + 1)) (riv1) (by omega) (by omega) (lk_out hL (by omega)) _ _ hH hS ls (lv_sub hl [0, 2, 3, 4] rfl)
            · skip
              refine lv_aload_n S.1 S.2.1 dX0_lookAt_37 rfl (lv_at hl 3 rfl) ?_
              refine lv_iload_n S.1 S.2.1 dX0_lookAt_38 rfl (lv_at hl 1 rfl) ?_
              refine lv_iload S.1 S.2.1 dX0_lookAt_39 (lv_at hl 0 rfl) ?_
              refine lv_iload_n S.1 S.2.1 dX0_lookAt_41 rfl (lv_at hl 4 rfl) ?_
              refine zc_Vi (n := 3) (As := [.int (iI ((r : Nat) : Int)), .int (iI ((o : Nat) : Int)), .int (iI (f))]) (rest := []) S hAM hA (kX4_reason l X qs qT Qs T q Qp v sl vo ou inn ac ag ai et xt r o f hv hP hT (by omega) (by omega) (by omega) (by omega)) rfl gX0_lookAt_X4_reason  (by decide +kernel) ⟨Nat.le_of_ble_eq_true rfl, Nat.le_of_ble_eq_true rfl⟩ hH hS [2, 3, 4, 5, 6, 7, 8, 9, 10, 11, 12, 13, 0, 1] rfl 14 rfl (by decide) 4 9 rfl rfl rfl hl.1 rfl (Nat.le_of_ble_eq_true rfl) dX0_lookAt_42 ⟨Nat.le_of_ble_eq_true rfl, Nat.le_of_ble_eq_true rfl⟩ (fun z2 _ H locs hp3 hH hS => ?_)
              have hH : Hold X A [tbW X qT Qs T, slW qs q qT, poW q Qp ((ns v : Nat) : Int) ((nr v : Nat) : Int) ((na v : Nat) : Int), aW X (Qp 0) 10 sl, aW X (Qp 1) 8 vo, aW X (Qp 2) 8 ou, aW X (Qp 3) 8 inn, aW X (Qp 4) 8 ac, aW X (Qp 5) 20 ag, aW X (Qp 6) 20 ai, aW X (Qp 7) 20 et, aW X (Qp 8) 20 xt, caW qc Qc ((nr v : Nat) : Int), aW X (Qc 0) 8 riv1].flatten H := hH
              obtain rfl := hp3
              refine zv_if_eq (tgt := 74) S dX0_lookAt_45 (by decide) (by have := rsn3 v r o f; omega) (fun c_45 => ?_) (fun c_45 => ?_)
              · skip
                refine zv_iinc (z := (((o + 1) : Nat) : Int)) (lv' := [(4, .int (iI (((o + 1) : Nat) : Int))), (3, .int (iI ((r : Nat) : Int))), (0, .ref (qc)), (1, .ref (qs)), (2, .int (iI (f)))]) S dX0_lookAt_74 hl (k := 0) rfl (by omega) (by decide) rfl (fun ls hl => ?_)
                refine lv_goto (tgt := 31) S.1 S.2.1 dX0_lookAt_77 (by decide) ?_
                have hH : Hold X A [caW qc Qc ((nr v : Nat) : Int), aW X (Qc 0) 8 riv1, tbW X qT Qs T, slW qs q qT, poW q Qp ((ns v : Nat) : Int) ((nr v : Nat) : Int) ((na v : Nat) : Int), aW X (Qp 0) 10 sl, aW X (Qp 1) 8 vo, aW X (Qp 2) 8 ou, aW X (Qp 3) 8 inn, aW X (Qp 4) 8 ac, aW X (Qp 5) 20 ag, aW X (Qp 6) 20 ai, aW X (Qp 7) 20 et, aW X (Qp 8) 20 xt].flatten _ := hH.pick [12, 13, 0, 1, 2, 3, 4, 5, 6, 7, 8, 9, 10, 11] rfl 14 rfl (by decide)
                exact ih31  ((o + 1)) (riv1) (by omega) (by omega) (lk_no hv hf hL (by omega) (by omega)) _ _ hH hS ls (lv_sub hl [0, 1, 2, 3, 4] rfl)
              · skip
                refine lv_aload_n S.1 S.2.1 dX0_lookAt_48 rfl (lv_at hl 2 rfl) ?_
                refine zv_get (v := .ref (Qc 0)) S hAM hH nX0_lookAt_X0 20 rfl rfl 1 (by decide) mX0_lookAt_4 rfl rfl dX0_lookAt_49 ?_
                refine lv_iload_n S.1 S.2.1 dX0_lookAt_52 rfl (lv_at hl 1 rfl) ?_
                refine lv_dup2_11 S.1 S.2.1 dX0_lookAt_53 rfl rfl ?_
                refine zv_iald S hAM hH 21 rfl (r) rfl (by omega) (by decide) dX0_lookAt_54 ?_
                refine zv_top (z := riv1 r) (z2 := ((mk v f r o : Nat) : Int)) hL.2 ?_
                refine lv_iconst (v := iI (((1 : Nat) : Int))) S.1 S.2.1 dX0_lookAt_55 (by decide) ?_
                refine lv_iload S.1 S.2.1 dX0_lookAt_56 (lv_at hl 0 rfl) ?_
                refine zv_ishl (z := (((2 ^ o) : Nat) : Int)) S dX0_lookAt_58 (iI_shl1 _ (by omega)) ?_
                refine zv_ior (z := (((mk v f r o ||| (2 ^ o)) : Nat) : Int)) S dX0_lookAt_59 (iI_or _ _) ?_
                refine zv_iast (z := (((mk v f r o ||| (2 ^ o)) : Nat) : Int)) (w2 := [tbW X qT Qs T, slW qs q qT, poW q Qp ((ns v : Nat) : Int) ((nr v : Nat) : Int) ((na v : Nat) : Int), aW X (Qp 0) 10 sl, aW X (Qp 1) 8 vo, aW X (Qp 2) 8 ou, aW X (Qp 3) 8 inn, aW X (Qp 4) 8 ac, aW X (Qp 5) 20 ag, aW X (Qp 6) 20 ai, aW X (Qp 7) 20 et, aW X (Qp 8) 20 xt, caW qc Qc ((nr v : Nat) : Int), aW X (Qc 0) 8 (uI riv1 r ((((mk v f r o ||| (2 ^ o)) : Nat) : Int)))].flatten) S hAM hH hS 21 rfl (r) rfl (by omega) (by decide) rfl dX0_lookAt_60 (fun H locs hH hS => ?_)
                refine lv_aload_n S.1 S.2.1 dX0_lookAt_61 rfl (lv_at hl 2 rfl) ?_
                refine zv_get (v := .ref (Qc 0)) S hAM hH nX0_lookAt_X0 20 rfl rfl 1 (by decide) mX0_lookAt_4 rfl rfl dX0_lookAt_62 ?_
                refine lv_iload S.1 S.2.1 dX0_lookAt_65 (lv_at hl 0 rfl) ?_
                refine lv_dup2_11 S.1 S.2.1 dX0_lookAt_67 rfl rfl ?_
                refine zv_iald S hAM hH 21 rfl (o) rfl (by omega) (by decide) dX0_lookAt_68 ?_
                refine zv_top (z := (uI riv1 r ((((mk v f r o ||| (2 ^ o)) : Nat) : Int))) o) (z2 := ((mk v f o r : Nat) : Int)) ((uI_n (by omega)).trans ((hL.1 o (by omega)).trans (by rw [if_neg (by omega)]))) ?_
                refine lv_iconst (v := iI (((1 : Nat) : Int))) S.1 S.2.1 dX0_lookAt_69 (by decide) ?_
                refine lv_iload_n S.1 S.2.1 dX0_lookAt_70 rfl (lv_at hl 1 rfl) ?_
                refine zv_ishl (z := (((2 ^ r) : Nat) : Int)) S dX0_lookAt_71 (iI_shl1 _ (by omega)) ?_
                refine zv_ior (z := (((mk v f o r ||| (2 ^ r)) : Nat) : Int)) S dX0_lookAt_72 (iI_or _ _) ?_
                refine zv_iast (z := (((mk v f o r ||| (2 ^ r)) : Nat) : Int)) (w2 := [tbW X qT Qs T, slW qs q qT, poW q Qp ((ns v : Nat) : Int) ((nr v : Nat) : Int) ((na v : Nat) : Int), aW X (Qp 0) 10 sl, aW X (Qp 1) 8 vo, aW X (Qp 2) 8 ou, aW X (Qp 3) 8 inn, aW X (Qp 4) 8 ac, aW X (Qp 5) 20 ag, aW X (Qp 6) 20 ai, aW X (Qp 7) 20 et, aW X (Qp 8) 20 xt, caW qc Qc ((nr v : Nat) : Int), aW X (Qc 0) 8 (uI (uI riv1 r ((((mk v f r o ||| (2 ^ o)) : Nat) : Int))) o ((((mk v f o r ||| (2 ^ r)) : Nat) : Int)))].flatten) S hAM hH hS 21 rfl (o) rfl (by omega) (by decide) rfl dX0_lookAt_73 (fun H locs hH hS => ?_)
                refine zv_iinc (z := (((o + 1) : Nat) : Int)) (lv' := [(4, .int (iI (((o + 1) : Nat) : Int))), (3, .int (iI ((r : Nat) : Int))), (0, .ref (qc)), (1, .ref (qs)), (2, .int (iI (f)))]) S dX0_lookAt_74 hl (k := 0) rfl (by omega) (by decide) rfl (fun ls hl => ?_)
                refine lv_goto (tgt := 31) S.1 S.2.1 dX0_lookAt_77 (by decide) ?_
                have hH : Hold X A [caW qc Qc ((nr v : Nat) : Int), aW X (Qc 0) 8 (uI (uI riv1 r ((((mk v f r o ||| (2 ^ o)) : Nat) : Int))) o ((((mk v f o r ||| (2 ^ r)) : Nat) : Int))), tbW X qT Qs T, slW qs q qT, poW q Qp ((ns v : Nat) : Int) ((nr v : Nat) : Int) ((na v : Nat) : Int), aW X (Qp 0) 10 sl, aW X (Qp 1) 8 vo, aW X (Qp 2) 8 ou, aW X (Qp 3) 8 inn, aW X (Qp 4) 8 ac, aW X (Qp 5) 20 ag, aW X (Qp 6) 20 ai, aW X (Qp 7) 20 et, aW X (Qp 8) 20 xt].flatten _ := hH.pick [12, 13, 0, 1, 2, 3, 4, 5, 6, 7, 8, 9, 10, 11] rfl 14 rfl (by decide)
                exact ih31  ((o + 1)) (uI (uI riv1 r ((((mk v f r o ||| (2 ^ o)) : Nat) : Int))) o ((((mk v f o r ||| (2 ^ r)) : Nat) : Int))) (by omega) (by omega) (lk_yes hv hf hL (by omega) (by omega)) _ _ hH hS ls (lv_sub hl [0, 1, 2, 3, 4] rfl)
        exact lp31 (r - (0) + 1) (0) (uI riv1 r (((0 : Nat) : Int))) (Nat.lt_succ_self _) (Nat.zero_le _) (lk_0 hk) _ _ hH hS ls (lv_sub hl [0, 1, 2, 3, 4] rfl)
  exact lp13 (nr v - (0) + 1) (0) (riv) (Nat.lt_succ_self _) (Nat.zero_le _) (fun k hk => absurd hk (Nat.not_lt_zero _)) _ _ hH hS ls (lv_sub hl [0, 1, 2, 3] rfl)
