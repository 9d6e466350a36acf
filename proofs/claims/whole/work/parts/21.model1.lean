set_option maxHeartbeats 4000000 in
set_option maxRecDepth 100000 in
theorem kX6_in (l : Launch) (X : XT) (v : Int) (lo : Int) (hi : Int) (h1 : inR v) (h2 : inR lo) (h3 : inR hi) : Ci l yX6_in wsX6_in (rmD 1) X [.long (lI (v)), .long (lI (lo)), .long (lI (hi))] [] (fun (z : Int) (_ : Unit) => (z = 1 ∧ (lo ≤ v ∧ v ≤ hi)) ∨ (z = 0 ∧ ¬ (lo ≤ v ∧ v ≤ hi))) (fun (_ : Unit) => []) := by
  refine Ci.ofW (cc := cX6_in) (maxL := 6) (by decide) rfl (Nat.le_of_ble_eq_true rfl) ?_
  intro p_ e_ s_ m_ below meth c_ A Q_ S hA hAM hH hS hret ls hl
  have hl : lv_has ls 6 [(0, .long (lI (v))), (2, .long (lI (lo))), (4, .long (lI (hi)))] := hl
  refine lv_lload_n S.1 S.2.1 dX6_in_0 rfl (lv_at hl 0 rfl) ?_
  refine lv_lload_n S.1 S.2.1 dX6_in_1 rfl (lv_at hl 1 rfl) ?_
  refine zv_lcmp S (by omega) (by omega) dX6_in_2 ?_
  refine zv_if_lt (tgt := 17) S dX6_in_3 (by decide) (cmpI_R _ _) (fun c_3 => ?_) (fun c_3 => ?_)
  · skip
    refine lv_iconst (v := iI (((0 : Nat) : Int))) S.1 S.2.1 dX6_in_17 (by decide) ?_
    exact hret 18 ls _ _ (((0 : Nat) : Int)) () dX6_in_18 rfl (by (try rw [cmpI_lt] at c_3); (try rw [cmpI_gt] at c_10); first | exact Or.inl ⟨rfl, by omega⟩ | exact Or.inr ⟨rfl, by omega⟩) hH hS
  · skip
    refine lv_lload_n S.1 S.2.1 dX6_in_6 rfl (lv_at hl 0 rfl) ?_
    refine lv_lload S.1 S.2.1 dX6_in_7 (lv_at hl 2 rfl) ?_
    refine zv_lcmp S (by omega) (by omega) dX6_in_9 ?_
    refine zv_if_gt (tgt := 17) S dX6_in_10 (by decide) (cmpI_R _ _) (fun c_10 => ?_) (fun c_10 => ?_)
    · skip
      refine lv_iconst (v := iI (((0 : Nat) : Int))) S.1 S.2.1 dX6_in_17 (by decide) ?_
      exact hret 18 ls _ _ (((0 : Nat) : Int)) () dX6_in_18 rfl (by (try rw [cmpI_lt] at c_3); (try rw [cmpI_gt] at c_10); first | exact Or.inl ⟨rfl, by omega⟩ | exact Or.inr ⟨rfl, by omega⟩) hH hS
    · skip
      refine lv_iconst (v := iI (((1 : Nat) : Int))) S.1 S.2.1 dX6_in_13 (by decide) ?_
      refine lv_goto (tgt := 18) S.1 S.2.1 dX6_in_14 (by decide) ?_
      exact hret 18 ls _ _ (((1 : Nat) : Int)) () dX6_in_18 rfl (by (try rw [cmpI_lt] at c_3); (try rw [cmpI_gt] at c_10); first | exact Or.inl ⟨rfl, by omega⟩ | exact Or.inr ⟨rfl, by omega⟩) hH hS

theorem mX6_isRole_1 : Cond.fieldLink RX6 7 "RoleDoublingPlannerModel" "s" "[I" ∈ wsX6_isRole := List.mem_of_getElem? (i := 1) rfl
theorem nX6_isRole_X6 : ∀ w ∈ wsX60, w ∈ wsX6_isRole := fun _ h => List.mem_cons_of_mem _ (List.mem_append_right _ h)
set_option maxHeartbeats 4000000 in
set_option maxRecDepth 100000 in
theorem kX6_isRole (l : Launch) (X : XT) (h : Nat) (Q : Nat → Nat) (s : Nat → Int) (rd : Nat → Int) (kp : Nat → Int) (km : Int) (tx : Nat → Int) (ln : Int) (sp : Int) (rs : Int) (wi : Nat → Int) (gi : Nat → Int) (r : Int) (hs : okR s) (hr : inR r) : Ci l yX6_isRole wsX6_isRole (rmD 2) X [.ref h, .int (iI (r))] [mO h Q km ln sp rs, aW X (Q 0) 125 s, aW X (Q 1) 125 rd, aW X (Q 2) 625 kp, aW X (Q 3) 400 tx, aW X (Q 4) 8 wi, aW X (Q 5) 8 gi] (fun (z : Int) (_ : Unit) => (z = 1 ∧ (0 ≤ r ∧ r < ((nr s : Nat) : Int))) ∨ (z = 0 ∧ ¬ (0 ≤ r ∧ r < ((nr s : Nat) : Int)))) (fun (_ : Unit) => [mO h Q km ln sp rs, aW X (Q 0) 125 s, aW X (Q 1) 125 rd, aW X (Q 2) 625 kp, aW X (Q 3) 400 tx, aW X (Q 4) 8 wi, aW X (Q 5) 8 gi]) := by
  refine Ci.ofW (cc := cX6_isRole) (maxL := 2) (by decide) rfl (Nat.le_of_ble_eq_true rfl) ?_
  intro p_ e_ s_ m_ below meth c_ A Q_ S hA hAM hH hS hret ls hl
  have hl : lv_has ls 2 [(0, .ref (h)), (1, .int (iI (r)))] := hl
  have hk1 := hs.nr8
  have hk2 := hs.na20
  have hk3 := hs.ns10
  refine lv_iload_n S.1 S.2.1 dX6_isRole_0 rfl (lv_at hl 1 rfl) ?_
  refine lv_i2l (v := lI (r)) S.1 S.2.1 dX6_isRole_1 (lI_i (by omega)) ?_
  refine lv_lconst (v := lI (0)) S.1 S.2.1 dX6_isRole_2 (by decide) ?_
  refine lv_aload_n S.1 S.2.1 dX6_isRole_3 rfl (lv_at hl 0 rfl) ?_
  refine zv_get (v := .ref (Q 0)) S hAM hH nX6_isRole_X6 0 rfl rfl 0 (by decide) mX6_isRole_1 rfl rfl dX6_isRole_4 ?_
  refine lv_bipush (v := iI (((11 : Nat) : Int))) S.1 S.2.1 dX6_isRole_7 (by decide) ?_
  refine zv_iald S hAM hH 1 rfl (11) rfl (by decide) (by decide) dX6_isRole_9 ?_
  refine zv_top (z := s 11) (z2 := ((nr s : Nat) : Int)) hs.e11 ?_
  refine lv_iconst (v := iI (((1 : Nat) : Int))) S.1 S.2.1 dX6_isRole_10 (by decide) ?_
  refine zv_isub (z := (((nr s : Nat) : Int) - ((1 : Nat) : Int))) S dX6_isRole_11 rfl ?_
  refine lv_i2l (v := lI ((((nr s : Nat) : Int) - ((1 : Nat) : Int)))) S.1 S.2.1 dX6_isRole_12 (lI_i (by omega)) ?_
  refine zc_Si (n := 3) (As := [.long (lI (r)), .long (lI (0)), .long (lI ((((nr s : Nat) : Int) - ((1 : Nat) : Int))))]) (rest := []) S hAM hA (kX6_in l X r 0 (((nr s : Nat) : Int) - ((1 : Nat) : Int)) (by omega) (by omega) (by omega)) rfl gX6_isRole_X6_in  (by decide +kernel) ⟨Nat.le_of_ble_eq_true rfl, Nat.le_of_ble_eq_true rfl⟩ hH hS [0, 1, 2, 3, 4, 5, 6] rfl 7 rfl (List.Perm.refl _)  rfl hl.1 rfl (Nat.le_of_ble_eq_true rfl) dX6_isRole_13 ⟨Nat.le_of_ble_eq_true rfl, Nat.le_of_ble_eq_true rfl⟩ (fun z2 _ H locs hp3 hH hS => ?_)
  have hH : Hold X A [mO h Q km ln sp rs, aW X (Q 0) 125 s, aW X (Q 1) 125 rd, aW X (Q 2) 625 kp, aW X (Q 3) 400 tx, aW X (Q 4) 8 wi, aW X (Q 5) 8 gi].flatten H := hH
  rcases hp3 with ⟨rfl, b_13⟩ | ⟨rfl, b_13⟩
  · refine zv_top (z := 1) (z2 := ((1 : Nat) : Int)) rfl ?_
    exact hret 16 ls _ _ (((1 : Nat) : Int)) () dX6_isRole_16 rfl (by first | exact Or.inl ⟨rfl, by omega⟩ | exact Or.inr ⟨rfl, by omega⟩) hH hS
  · refine zv_top (z := 0) (z2 := ((0 : Nat) : Int)) rfl ?_
    exact hret 16 ls _ _ (((0 : Nat) : Int)) () dX6_isRole_16 rfl (by first | exact Or.inl ⟨rfl, by omega⟩ | exact Or.inr ⟨rfl, by omega⟩) hH hS

theorem mX6_isScene_1 : Cond.fieldLink RX6 7 "RoleDoublingPlannerModel" "s" "[I" ∈ wsX6_isScene := List.mem_of_getElem? (i := 1) rfl
theorem nX6_isScene_X6 : ∀ w ∈ wsX60, w ∈ wsX6_isScene := fun _ h => List.mem_cons_of_mem _ (List.mem_append_right _ h)
set_option maxHeartbeats 4000000 in
set_option maxRecDepth 100000 in
theorem kX6_isScene (l : Launch) (X : XT) (h : Nat) (Q : Nat → Nat) (s : Nat → Int) (rd : Nat → Int) (kp : Nat → Int) (km : Int) (tx : Nat → Int) (ln : Int) (sp : Int) (rs : Int) (wi : Nat → Int) (gi : Nat → Int) (r : Int) (hs : okR s) (hr : inR r) : Ci l yX6_isScene wsX6_isScene (rmD 2) X [.ref h, .int (iI (r))] [mO h Q km ln sp rs, aW X (Q 0) 125 s, aW X (Q 1) 125 rd, aW X (Q 2) 625 kp, aW X (Q 3) 400 tx, aW X (Q 4) 8 wi, aW X (Q 5) 8 gi] (fun (z : Int) (_ : Unit) => (z = 1 ∧ (0 ≤ r ∧ r < ((ns s : Nat) : Int))) ∨ (z = 0 ∧ ¬ (0 ≤ r ∧ r < ((ns s : Nat) : Int)))) (fun (_ : Unit) => [mO h Q km ln sp rs, aW X (Q 0) 125 s, aW X (Q 1) 125 rd, aW X (Q 2) 625 kp, aW X (Q 3) 400 tx, aW X (Q 4) 8 wi, aW X (Q 5) 8 gi]) := by
  refine Ci.ofW (cc := cX6_isScene) (maxL := 2) (by decide) rfl (Nat.le_of_ble_eq_true rfl) ?_
  intro p_ e_ s_ m_ below meth c_ A Q_ S hA hAM hH hS hret ls hl
  have hl : lv_has ls 2 [(0, .ref (h)), (1, .int (iI (r)))] := hl
  have hk1 := hs.nr8
  have hk2 := hs.na20
  have hk3 := hs.ns10
  refine lv_iload_n S.1 S.2.1 dX6_isScene_0 rfl (lv_at hl 1 rfl) ?_
  refine lv_i2l (v := lI (r)) S.1 S.2.1 dX6_isScene_1 (lI_i (by omega)) ?_
  refine lv_lconst (v := lI (0)) S.1 S.2.1 dX6_isScene_2 (by decide) ?_
  refine lv_aload_n S.1 S.2.1 dX6_isScene_3 rfl (lv_at hl 0 rfl) ?_
  refine zv_get (v := .ref (Q 0)) S hAM hH nX6_isScene_X6 0 rfl rfl 0 (by decide) mX6_isScene_1 rfl rfl dX6_isScene_4 ?_
  refine lv_iconst (v := iI (((0 : Nat) : Int))) S.1 S.2.1 dX6_isScene_7 (by decide) ?_
  refine zv_iald S hAM hH 1 rfl (0) rfl (by decide) (by decide) dX6_isScene_8 ?_
  refine zv_top (z := s 0) (z2 := ((ns s : Nat) : Int)) hs.e0 ?_
  refine lv_iconst (v := iI (((1 : Nat) : Int))) S.1 S.2.1 dX6_isScene_9 (by decide) ?_
  refine zv_isub (z := (((ns s : Nat) : Int) - ((1 : Nat) : Int))) S dX6_isScene_10 rfl ?_
  refine lv_i2l (v := lI ((((ns s : Nat) : Int) - ((1 : Nat) : Int)))) S.1 S.2.1 dX6_isScene_11 (lI_i (by omega)) ?_
  refine zc_Si (n := 3) (As := [.long (lI (r)), .long (lI (0)), .long (lI ((((ns s : Nat) : Int) - ((1 : Nat) : Int))))]) (rest := []) S hAM hA (kX6_in l X r 0 (((ns s : Nat) : Int) - ((1 : Nat) : Int)) (by omega) (by omega) (by omega)) rfl gX6_isScene_X6_in  (by decide +kernel) ⟨Nat.le_of_ble_eq_true rfl, Nat.le_of_ble_eq_true rfl⟩ hH hS [0, 1, 2, 3, 4, 5, 6] rfl 7 rfl (List.Perm.refl _)  rfl hl.1 rfl (Nat.le_of_ble_eq_true rfl) dX6_isScene_12 ⟨Nat.le_of_ble_eq_true rfl, Nat.le_of_ble_eq_true rfl⟩ (fun z2 _ H locs hp3 hH hS => ?_)
  have hH : Hold X A [mO h Q km ln sp rs, aW X (Q 0) 125 s, aW X (Q 1) 125 rd, aW X (Q 2) 625 kp, aW X (Q 3) 400 tx, aW X (Q 4) 8 wi, aW X (Q 5) 8 gi].flatten H := hH
  rcases hp3 with ⟨rfl, b_12⟩ | ⟨rfl, b_12⟩
  · refine zv_top (z := 1) (z2 := ((1 : Nat) : Int)) rfl ?_
    exact hret 15 ls _ _ (((1 : Nat) : Int)) () dX6_isScene_15 rfl (by first | exact Or.inl ⟨rfl, by omega⟩ | exact Or.inr ⟨rfl, by omega⟩) hH hS
  · refine zv_top (z := 0) (z2 := ((0 : Nat) : Int)) rfl ?_
    exact hret 15 ls _ _ (((0 : Nat) : Int)) () dX6_isScene_15 rfl (by first | exact Or.inl ⟨rfl, by omega⟩ | exact Or.inr ⟨rfl, by omega⟩) hH hS

theorem mX6_isActor_1 : Cond.constantLong RX6 104 (7) ∈ wsX6_isActor := List.mem_of_getElem? (i := 1) rfl
set_option maxHeartbeats 4000000 in
set_option maxRecDepth 100000 in
theorem kX6_isActor (l : Launch) (X : XT) (r : Int) (hr : inR r) : Ci l yX6_isActor wsX6_isActor (rmD 2) X [.int (iI (r))] [] (fun (z : Int) (_ : Unit) => (z = 1 ∧ (0 ≤ r ∧ r ≤ 7)) ∨ (z = 0 ∧ ¬ (0 ≤ r ∧ r ≤ 7))) (fun (_ : Unit) => []) := by
  refine Ci.ofW (cc := cX6_isActor) (maxL := 1) (by decide) rfl (Nat.le_of_ble_eq_true rfl) ?_
  intro p_ e_ s_ m_ below meth c_ A Q_ S hA hAM hH hS hret ls hl
  have hl : lv_has ls 1 [(0, .int (iI (r)))] := hl
  refine lv_iload_n S.1 S.2.1 dX6_isActor_0 rfl (lv_at hl 0 rfl) ?_
  refine lv_i2l (v := lI (r)) S.1 S.2.1 dX6_isActor_1 (lI_i (by omega)) ?_
  refine lv_lconst (v := lI (0)) S.1 S.2.1 dX6_isActor_2 (by decide) ?_
  refine lv_ldc2 (v := lI (7)) S.1 S.2.1 S.2.2.2.1 (zv_constL S mX6_isActor_1 (by decide)) dX6_isActor_3 ?_
  refine zc_Si (n := 3) (As := [.long (lI (r)), .long (lI (0)), .long (lI (7))]) (rest := []) S hAM hA (kX6_in l X r 0 7 (by omega) (by omega) (by omega)) rfl gX6_isActor_X6_in  (by decide +kernel) ⟨Nat.le_of_ble_eq_true rfl, Nat.le_of_ble_eq_true rfl⟩ hH hS [] rfl 0 rfl (List.Perm.refl _)  rfl hl.1 rfl (Nat.le_of_ble_eq_true rfl) dX6_isActor_6 ⟨Nat.le_of_ble_eq_true rfl, Nat.le_of_ble_eq_true rfl⟩ (fun z2 _ H locs hp3 hH hS => ?_)
  rcases hp3 with ⟨rfl, b_6⟩ | ⟨rfl, b_6⟩
  · refine zv_top (z := 1) (z2 := ((1 : Nat) : Int)) rfl ?_
    exact hret 9 ls _ _ (((1 : Nat) : Int)) () dX6_isActor_9 rfl (by first | exact Or.inl ⟨rfl, by omega⟩ | exact Or.inr ⟨rfl, by omega⟩) hH hS
  · refine zv_top (z := 0) (z2 := ((0 : Nat) : Int)) rfl ?_
    exact hret 9 ls _ _ (((0 : Nat) : Int)) () dX6_isActor_9 rfl (by first | exact Or.inl ⟨rfl, by omega⟩ | exact Or.inr ⟨rfl, by omega⟩) hH hS

theorem mX6_roleCount_1 : Cond.fieldLink RX6 7 "RoleDoublingPlannerModel" "s" "[I" ∈ wsX6_roleCount := List.mem_of_getElem? (i := 1) rfl
theorem nX6_roleCount_X6 : ∀ w ∈ wsX60, w ∈ wsX6_roleCount := fun _ h => List.mem_cons_of_mem _ (List.mem_append_right _ h)
set_option maxHeartbeats 4000000 in
set_option maxRecDepth 100000 in
theorem kX6_roleCount (l : Launch) (X : XT) (h : Nat) (Q : Nat → Nat) (s : Nat → Int) (rd : Nat → Int) (kp : Nat → Int) (km : Int) (tx : Nat → Int) (ln : Int) (sp : Int) (rs : Int) (wi : Nat → Int) (gi : Nat → Int) (hs : okR s) : Ci l yX6_roleCount wsX6_roleCount (rmD 1) X [.ref h] [mO h Q km ln sp rs, aW X (Q 0) 125 s, aW X (Q 1) 125 rd, aW X (Q 2) 625 kp, aW X (Q 3) 400 tx, aW X (Q 4) 8 wi, aW X (Q 5) 8 gi] (fun (z : Int) (_ : Unit) => z = ((nr s : Nat) : Int)) (fun (_ : Unit) => [mO h Q km ln sp rs, aW X (Q 0) 125 s, aW X (Q 1) 125 rd, aW X (Q 2) 625 kp, aW X (Q 3) 400 tx, aW X (Q 4) 8 wi, aW X (Q 5) 8 gi]) := by
  refine Ci.ofW (cc := cX6_roleCount) (maxL := 1) (by decide) rfl (Nat.le_of_ble_eq_true rfl) ?_
  intro p_ e_ s_ m_ below meth c_ A Q_ S hA hAM hH hS hret ls hl
  have hl : lv_has ls 1 [(0, .ref (h))] := hl
  have hk1 := hs.nr8
  have hk2 := hs.na20
  have hk3 := hs.ns10
  refine lv_aload_n S.1 S.2.1 dX6_roleCount_0 rfl (lv_at hl 0 rfl) ?_
  refine zv_get (v := .ref (Q 0)) S hAM hH nX6_roleCount_X6 0 rfl rfl 0 (by decide) mX6_roleCount_1 rfl rfl dX6_roleCount_1 ?_
  refine lv_bipush (v := iI (((11 : Nat) : Int))) S.1 S.2.1 dX6_roleCount_4 (by decide) ?_
  refine zv_iald S hAM hH 1 rfl (11) rfl (by decide) (by decide) dX6_roleCount_6 ?_
  refine zv_top (z := s 11) (z2 := ((nr s : Nat) : Int)) hs.e11 ?_
  exact hret 7 ls _ _ (((nr s : Nat) : Int)) () dX6_roleCount_7 rfl rfl hH hS

theorem mX6_appearanceCount_1 : Cond.fieldLink RX6 7 "RoleDoublingPlannerModel" "s" "[I" ∈ wsX6_appearanceCount := List.mem_of_getElem? (i := 1) rfl
theorem nX6_appearanceCount_X6 : ∀ w ∈ wsX60, w ∈ wsX6_appearanceCount := fun _ h => List.mem_cons_of_mem _ (List.mem_append_right _ h)
set_option maxHeartbeats 4000000 in
set_option maxRecDepth 100000 in
theorem kX6_appearanceCount (l : Launch) (X : XT) (h : Nat) (Q : Nat → Nat) (s : Nat → Int) (rd : Nat → Int) (kp : Nat → Int) (km : Int) (tx : Nat → Int) (ln : Int) (sp : Int) (rs : Int) (wi : Nat → Int) (gi : Nat → Int) (hs : okR s) : Ci l yX6_appearanceCount wsX6_appearanceCount (rmD 1) X [.ref h] [mO h Q km ln sp rs, aW X (Q 0) 125 s, aW X (Q 1) 125 rd, aW X (Q 2) 625 kp, aW X (Q 3) 400 tx, aW X (Q 4) 8 wi, aW X (Q 5) 8 gi] (fun (z : Int) (_ : Unit) => z = ((na s : Nat) : Int)) (fun (_ : Unit) => [mO h Q km ln sp rs, aW X (Q 0) 125 s, aW X (Q 1) 125 rd, aW X (Q 2) 625 kp, aW X (Q 3) 400 tx, aW X (Q 4) 8 wi, aW X (Q 5) 8 gi]) := by
  refine Ci.ofW (cc := cX6_appearanceCount) (maxL := 1) (by decide) rfl (Nat.le_of_ble_eq_true rfl) ?_
  intro p_ e_ s_ m_ below meth c_ A Q_ S hA hAM hH hS hret ls hl
  have hl : lv_has ls 1 [(0, .ref (h))] := hl
  have hk1 := hs.nr8
  have hk2 := hs.na20
  have hk3 := hs.ns10
  refine lv_aload_n S.1 S.2.1 dX6_appearanceCount_0 rfl (lv_at hl 0 rfl) ?_
  refine zv_get (v := .ref (Q 0)) S hAM hH nX6_appearanceCount_X6 0 rfl rfl 0 (by decide) mX6_appearanceCount_1 rfl rfl dX6_appearanceCount_1 ?_
  refine lv_bipush (v := iI (((44 : Nat) : Int))) S.1 S.2.1 dX6_appearanceCount_4 (by decide) ?_
  refine zv_iald S hAM hH 1 rfl (44) rfl (by decide) (by decide) dX6_appearanceCount_6 ?_
  refine zv_top (z := s 44) (z2 := ((na s : Nat) : Int)) hs.e44 ?_
  exact hret 7 ls _ _ (((na s : Nat) : Int)) () dX6_appearanceCount_7 rfl rfl hH hS

theorem mX6_sceneStart_1 : Cond.fieldLink RX6 7 "RoleDoublingPlannerModel" "s" "[I" ∈ wsX6_sceneStart := List.mem_of_getElem? (i := 1) rfl
theorem nX6_sceneStart_X6 : ∀ w ∈ wsX60, w ∈ wsX6_sceneStart := fun _ h => List.mem_cons_of_mem _ (List.mem_append_right _ h)
set_option maxHeartbeats 4000000 in
set_option maxRecDepth 100000 in
theorem kX6_sceneStart (l : Launch) (X : XT) (h : Nat) (Q : Nat → Nat) (s : Nat → Int) (rd : Nat → Int) (kp : Nat → Int) (km : Int) (tx : Nat → Int) (ln : Int) (sp : Int) (rs : Int) (wi : Nat → Int) (gi : Nat → Int) (k : Nat) (hs : okR s) (hk : k ≤ 10) : Ci l yX6_sceneStart wsX6_sceneStart (rmD 1) X [.ref h, .int (iI ((k : Nat) : Int))] [mO h Q km ln sp rs, aW X (Q 0) 125 s, aW X (Q 1) 125 rd, aW X (Q 2) 625 kp, aW X (Q 3) 400 tx, aW X (Q 4) 8 wi, aW X (Q 5) 8 gi] (fun (z : Int) (_ : Unit) => z = st s k) (fun (_ : Unit) => [mO h Q km ln sp rs, aW X (Q 0) 125 s, aW X (Q 1) 125 rd, aW X (Q 2) 625 kp, aW X (Q 3) 400 tx, aW X (Q 4) 8 wi, aW X (Q 5) 8 gi]) := by
  refine Ci.ofW (cc := cX6_sceneStart) (maxL := 4) (by decide) rfl (Nat.le_of_ble_eq_true rfl) ?_
  intro p_ e_ s_ m_ below meth c_ A Q_ S hA hAM hH hS hret ls hl
  have hl : lv_has ls 4 [(0, .ref (h)), (1, .int (iI ((k : Nat) : Int)))] := hl
  have hk1 := hs.nr8
  have hk2 := hs.na20
  have hk3 := hs.ns10
  refine lv_iconst (v := iI (((0 : Nat) : Int))) S.1 S.2.1 dX6_sceneStart_0 (by decide) ?_
  refine lv_istore_n (lv' := [(2, .int (iI ((0 : Nat) : Int))), (0, .ref (h)), (1, .int (iI ((k : Nat) : Int)))]) S.1 S.2.1 dX6_sceneStart_1 rfl hl (by decide) rfl (fun ls hl => ?_)
  refine lv_iconst (v := iI (((0 : Nat) : Int))) S.1 S.2.1 dX6_sceneStart_2 (by decide) ?_
  refine lv_istore_n (lv' := [(3, .int (iI ((0 : Nat) : Int))), (2, .int (iI ((0 : Nat) : Int))), (0, .ref (h)), (1, .int (iI ((k : Nat) : Int)))]) S.1 S.2.1 dX6_sceneStart_3 rfl hl (by decide) rfl (fun ls hl => ?_)
  have lp4 : ∀ (fu_ : Nat) (i : Nat), k - i < fu_ → (i ≤ k) → ∀ (H : Heap) (locs : List Loc), Hold X A [mO h Q km ln sp rs, aW X (Q 0) 125 s, aW X (Q 1) 125 rd, aW X (Q 2) 625 kp, aW X (Q 3) 400 tx, aW X (Q 4) 8 wi, aW X (Q 5) 8 gi].flatten H → va_S A s_.heap H locs → ∀ ls : Array Slot, lv_has ls 4 [(3, .int (iI ((i : Nat) : Int))), (2, .int (iI (st s i))), (0, .ref (h)), (1, .int (iI ((k : Nat) : Int)))] → W p_ l e_ (rmD 1) s_ m_ (List.toArray [.ref (h), .int (iI ((k : Nat) : Int))]) below meth c_ H locs 0 0 Q_ (F0 m_ 4 ls []) := by
    intro fu_
    induction fu_ with
    | zero => intro i hmu hi H locs hH hS ls hl; exact absurd hmu (Nat.not_lt_zero _)
    | succ fu_ ih4 => 
      intro i hmu hi H locs hH hS ls hl
      refine lv_iload_n S.1 S.2.1 dX6_sceneStart_4 rfl (lv_at hl 0 rfl) ?_
      refine lv_iload_n S.1 S.2.1 dX6_sceneStart_5 rfl (lv_at hl 3 rfl) ?_
      refine zv_icmp_ge (tgt := 26) S dX6_sceneStart_6 (by decide) (by omega) (by omega) (fun c_6 => ?_) (fun c_6 => ?_)
      · skip
        refine lv_iload_n S.1 S.2.1 dX6_sceneStart_26 rfl (lv_at hl 1 rfl) ?_
        exact hret 27 ls _ _ (st s i) () dX6_sceneStart_27 rfl (by have e9 : i = k := (by omega); rw [e9]) hH hS
      · skip
        refine lv_iload_n S.1 S.2.1 dX6_sceneStart_9 rfl (lv_at hl 1 rfl) ?_
        refine lv_aload_n S.1 S.2.1 dX6_sceneStart_10 rfl (lv_at hl 2 rfl) ?_
        refine zv_get (v := .ref (Q 0)) S hAM hH nX6_sceneStart_X6 0 rfl rfl 0 (by decide) mX6_sceneStart_1 rfl rfl dX6_sceneStart_11 ?_
        refine lv_iconst (v := iI (((1 : Nat) : Int))) S.1 S.2.1 dX6_sceneStart_14 (by decide) ?_
        refine lv_iload_n S.1 S.2.1 dX6_sceneStart_15 rfl (lv_at hl 0 rfl) ?_
        refine zv_iadd (z := (((1 + i) : Nat) : Int)) S dX6_sceneStart_16 (by omega) ?_
        refine zv_iald S hAM hH 1 rfl ((1 + i)) rfl (by omega) (by decide) dX6_sceneStart_17 ?_
        refine zv_iadd (z := (st s i + s (1 + i))) S dX6_sceneStart_18 rfl ?_
        refine lv_istore_n (lv' := [(2, .int (iI ((st s i + s (1 + i))))), (3, .int (iI ((i : Nat) : Int))), (0, .ref (h)), (1, .int (iI ((k : Nat) : Int)))]) S.1 S.2.1 dX6_sceneStart_19 rfl hl (by decide) rfl (fun ls hl => ?_)
        refine zv_iinc (z := (((i + 1) : Nat) : Int)) (lv' := [(3, .int (iI (((i + 1) : Nat) : Int))), (2, .int (iI ((st s i + s (1 + i))))), (0, .ref (h)), (1, .int (iI ((k : Nat) : Int)))]) S dX6_sceneStart_20 hl (k := 1) rfl (by omega) (by decide) rfl (fun ls hl => ?_)
        refine lv_goto (tgt := 4) S.1 S.2.1 dX6_sceneStart_23 (by decide) ?_
        exact ih4  ((i + 1)) (by omega) (by omega) _ _ hH hS ls (lv_sub hl [0, 1, 2, 3] rfl)
  exact lp4 (k - (0) + 1) (0) (Nat.lt_succ_self _) (Nat.zero_le _) _ _ hH hS ls (lv_sub hl [0, 1, 2, 3] rfl)

theorem mX6_playLength_1 : Cond.fieldLink RX6 7 "RoleDoublingPlannerModel" "s" "[I" ∈ wsX6_playLength := List.mem_of_getElem? (i := 1) rfl
theorem nX6_playLength_X6 : ∀ w ∈ wsX60, w ∈ wsX6_playLength := fun _ h => List.mem_cons_of_mem _ (List.mem_append_right _ h)
set_option maxHeartbeats 4000000 in
set_option maxRecDepth 100000 in
theorem kX6_playLength (l : Launch) (X : XT) (h : Nat) (Q : Nat → Nat) (s : Nat → Int) (rd : Nat → Int) (kp : Nat → Int) (km : Int) (tx : Nat → Int) (ln : Int) (sp : Int) (rs : Int) (wi : Nat → Int) (gi : Nat → Int) (hs : okR s) : Ci l yX6_playLength wsX6_playLength (rmD 2) X [.ref h] [mO h Q km ln sp rs, aW X (Q 0) 125 s, aW X (Q 1) 125 rd, aW X (Q 2) 625 kp, aW X (Q 3) 400 tx, aW X (Q 4) 8 wi, aW X (Q 5) 8 gi] (fun (z : Int) (_ : Unit) => z = st s (ns s)) (fun (_ : Unit) => [mO h Q km ln sp rs, aW X (Q 0) 125 s, aW X (Q 1) 125 rd, aW X (Q 2) 625 kp, aW X (Q 3) 400 tx, aW X (Q 4) 8 wi, aW X (Q 5) 8 gi]) := by
  refine Ci.ofW (cc := cX6_playLength) (maxL := 1) (by decide) rfl (Nat.le_of_ble_eq_true rfl) ?_
  intro p_ e_ s_ m_ below meth c_ A Q_ S hA hAM hH hS hret ls hl
  have hl : lv_has ls 1 [(0, .ref (h))] := hl
  have hk1 := hs.nr8
  have hk2 := hs.na20
  have hk3 := hs.ns10
  refine lv_aload_n S.1 S.2.1 dX6_playLength_0 rfl (lv_at hl 0 rfl) ?_
  refine lv_aload_n S.1 S.2.1 dX6_playLength_1 rfl (lv_at hl 0 rfl) ?_
  refine zv_get (v := .ref (Q 0)) S hAM hH nX6_playLength_X6 0 rfl rfl 0 (by decide) mX6_playLength_1 rfl rfl dX6_playLength_2 ?_
  refine lv_iconst (v := iI (((0 : Nat) : Int))) S.1 S.2.1 dX6_playLength_5 (by decide) ?_
  refine zv_iald S hAM hH 1 rfl (0) rfl (by decide) (by decide) dX6_playLength_6 ?_
  refine zv_top (z := s 0) (z2 := ((ns s : Nat) : Int)) hs.e0 ?_
  refine zc_Vi (n := 1) (As := [.int (iI ((ns s : Nat) : Int))]) (rest := []) S hAM hA (kX6_sceneStart l X h Q s rd kp km tx ln sp rs wi gi (ns s) hs (by omega)) rfl gX6_playLength_X6_sceneStart  (by decide +kernel) ⟨Nat.le_of_ble_eq_true rfl, Nat.le_of_ble_eq_true rfl⟩ hH hS [0, 1, 2, 3, 4, 5, 6] rfl 7 rfl (List.Perm.refl _) 6 0 rfl rfl rfl hl.1 rfl (Nat.le_of_ble_eq_true rfl) dX6_playLength_7 ⟨Nat.le_of_ble_eq_true rfl, Nat.le_of_ble_eq_true rfl⟩ (fun z2 _ H locs hp3 hH hS => ?_)
  have hH : Hold X A [mO h Q km ln sp rs, aW X (Q 0) 125 s, aW X (Q 1) 125 rd, aW X (Q 2) 625 kp, aW X (Q 3) 400 tx, aW X (Q 4) 8 wi, aW X (Q 5) 8 gi].flatten H := hH
  obtain rfl := hp3
  exact hret 10 ls _ _ (st s (ns s)) () dX6_playLength_10 rfl rfl hH hS

theorem mX6_roleOf_1 : Cond.fieldLink RX6 7 "RoleDoublingPlannerModel" "s" "[I" ∈ wsX6_roleOf := List.mem_of_getElem? (i := 1) rfl
theorem nX6_roleOf_X6 : ∀ w ∈ wsX60, w ∈ wsX6_roleOf := fun _ h => List.mem_cons_of_mem _ (List.mem_append_right _ h)
set_option maxHeartbeats 4000000 in
set_option maxRecDepth 100000 in
theorem kX6_roleOf (l : Launch) (X : XT) (h : Nat) (Q : Nat → Nat) (s : Nat → Int) (rd : Nat → Int) (kp : Nat → Int) (km : Int) (tx : Nat → Int) (ln : Int) (sp : Int) (rs : Int) (wi : Nat → Int) (gi : Nat → Int) (a : Nat) (hs : okR s) (ha : a < 20) : Ci l yX6_roleOf wsX6_roleOf (rmD 1) X [.ref h, .int (iI ((a : Nat) : Int))] [mO h Q km ln sp rs, aW X (Q 0) 125 s, aW X (Q 1) 125 rd, aW X (Q 2) 625 kp, aW X (Q 3) 400 tx, aW X (Q 4) 8 wi, aW X (Q 5) 8 gi] (fun (z : Int) (_ : Unit) => z = ((rl s a : Nat) : Int)) (fun (_ : Unit) => [mO h Q km ln sp rs, aW X (Q 0) 125 s, aW X (Q 1) 125 rd, aW X (Q 2) 625 kp, aW X (Q 3) 400 tx, aW X (Q 4) 8 wi, aW X (Q 5) 8 gi]) := by
  refine Ci.ofW (cc := cX6_roleOf) (maxL := 2) (by decide) rfl (Nat.le_of_ble_eq_true rfl) ?_
  intro p_ e_ s_ m_ below meth c_ A Q_ S hA hAM hH hS hret ls hl
  have hl : lv_has ls 2 [(0, .ref (h)), (1, .int (iI ((a : Nat) : Int)))] := hl
  have hk1 := hs.nr8
  have hk2 := hs.na20
  have hk3 := hs.ns10
  refine lv_aload_n S.1 S.2.1 dX6_roleOf_0 rfl (lv_at hl 0 rfl) ?_
  refine zv_get (v := .ref (Q 0)) S hAM hH nX6_roleOf_X6 0 rfl rfl 0 (by decide) mX6_roleOf_1 rfl rfl dX6_roleOf_1 ?_
  refine lv_bipush (v := iI (((45 : Nat) : Int))) S.1 S.2.1 dX6_roleOf_4 (by decide) ?_
  refine lv_iconst (v := iI (((4 : Nat) : Int))) S.1 S.2.1 dX6_roleOf_6 (by decide) ?_
  refine lv_iload_n S.1 S.2.1 dX6_roleOf_7 rfl (lv_at hl 1 rfl) ?_
  refine zv_imul (z := (((4 * a) : Nat) : Int)) S dX6_roleOf_8 (by omega) ?_
  refine zv_iadd (z := (((45 + (4 * a)) : Nat) : Int)) S dX6_roleOf_9 (by omega) ?_
  refine zv_iald S hAM hH 1 rfl ((45 + (4 * a))) rfl (by omega) (by decide) dX6_roleOf_10 ?_
  refine zv_top (z := s (45 + (4 * a))) (z2 := ((rl s a : Nat) : Int)) (hs.rlE a (by omega)) ?_
  exact hret 11 ls _ _ (((rl s a : Nat) : Int)) () dX6_roleOf_11 rfl rfl hH hS

theorem mX6_enters_1 : Cond.fieldLink RX6 7 "RoleDoublingPlannerModel" "s" "[I" ∈ wsX6_enters := List.mem_of_getElem? (i := 1) rfl
theorem nX6_enters_X6 : ∀ w ∈ wsX60, w ∈ wsX6_enters := fun _ h => List.mem_cons_of_mem _ (List.mem_append_right _ h)
set_option maxHeartbeats 4000000 in
set_option maxRecDepth 100000 in
theorem kX6_enters (l : Launch) (X : XT) (h : Nat) (Q : Nat → Nat) (s : Nat → Int) (rd : Nat → Int) (kp : Nat → Int) (km : Int) (tx : Nat → Int) (ln : Int) (sp : Int) (rs : Int) (wi : Nat → Int) (gi : Nat → Int) (a : Nat) (hs : okR s) (ha : a < 20) : Ci l yX6_enters wsX6_enters (rmD 2) X [.ref h, .int (iI ((a : Nat) : Int))] [mO h Q km ln sp rs, aW X (Q 0) 125 s, aW X (Q 1) 125 rd, aW X (Q 2) 625 kp, aW X (Q 3) 400 tx, aW X (Q 4) 8 wi, aW X (Q 5) 8 gi] (fun (z : Int) (_ : Unit) => z = eT s a) (fun (_ : Unit) => [mO h Q km ln sp rs, aW X (Q 0) 125 s, aW X (Q 1) 125 rd, aW X (Q 2) 625 kp, aW X (Q 3) 400 tx, aW X (Q 4) 8 wi, aW X (Q 5) 8 gi]) := by
  refine Ci.ofW (cc := cX6_enters) (maxL := 2) (by decide) rfl (Nat.le_of_ble_eq_true rfl) ?_
  intro p_ e_ s_ m_ below meth c_ A Q_ S hA hAM hH hS hret ls hl
  have hl : lv_has ls 2 [(0, .ref (h)), (1, .int (iI ((a : Nat) : Int)))] := hl
  have hk1 := hs.nr8
  have hk2 := hs.na20
  have hk3 := hs.ns10
  refine lv_aload_n S.1 S.2.1 dX6_enters_0 rfl (lv_at hl 0 rfl) ?_
  refine lv_aload_n S.1 S.2.1 dX6_enters_1 rfl (lv_at hl 0 rfl) ?_
  refine zv_get (v := .ref (Q 0)) S hAM hH nX6_enters_X6 0 rfl rfl 0 (by decide) mX6_enters_1 rfl rfl dX6_enters_2 ?_
  refine lv_bipush (v := iI (((45 : Nat) : Int))) S.1 S.2.1 dX6_enters_5 (by decide) ?_
  refine lv_iconst (v := iI (((4 : Nat) : Int))) S.1 S.2.1 dX6_enters_7 (by decide) ?_
  refine lv_iload_n S.1 S.2.1 dX6_enters_8 rfl (lv_at hl 1 rfl) ?_
  refine zv_imul (z := (((4 * a) : Nat) : Int)) S dX6_enters_9 (by omega) ?_
  refine zv_iadd (z := (((45 + (4 * a)) : Nat) : Int)) S dX6_enters_10 (by omega) ?_
  refine lv_iconst (v := iI (((1 : Nat) : Int))) S.1 S.2.1 dX6_enters_11 (by decide) ?_
  refine zv_iadd (z := ((((45 + (4 * a)) + 1) : Nat) : Int)) S dX6_enters_12 (by omega) ?_
  refine zv_iald S hAM hH 1 rfl (((45 + (4 * a)) + 1)) rfl (by omega) (by decide) dX6_enters_13 ?_
  refine zv_top (z := s ((45 + (4 * a)) + 1)) (z2 := ((sn s a : Nat) : Int)) (hs.snE a (by omega)) ?_
  refine zc_Vi (n := 1) (As := [.int (iI ((sn s a : Nat) : Int))]) (rest := []) S hAM hA (kX6_sceneStart l X h Q s rd kp km tx ln sp rs wi gi (sn s a) hs (by have := hs.sn10 a (by omega); omega)) rfl gX6_enters_X6_sceneStart  (by decide +kernel) ⟨Nat.le_of_ble_eq_true rfl, Nat.le_of_ble_eq_true rfl⟩ hH hS [0, 1, 2, 3, 4, 5, 6] rfl 7 rfl (List.Perm.refl _) 6 0 rfl rfl rfl hl.1 rfl (Nat.le_of_ble_eq_true rfl) dX6_enters_14 ⟨Nat.le_of_ble_eq_true rfl, Nat.le_of_ble_eq_true rfl⟩ (fun z2 _ H locs hp3 hH hS => ?_)
  have hH : Hold X A [mO h Q km ln sp rs, aW X (Q 0) 125 s, aW X (Q 1) 125 rd, aW X (Q 2) 625 kp, aW X (Q 3) 400 tx, aW X (Q 4) 8 wi, aW X (Q 5) 8 gi].flatten H := hH
  obtain rfl := hp3
  refine lv_aload_n S.1 S.2.1 dX6_enters_17 rfl (lv_at hl 0 rfl) ?_
  refine zv_get (v := .ref (Q 0)) S hAM hH nX6_enters_X6 0 rfl rfl 0 (by decide) mX6_enters_1 rfl rfl dX6_enters_18 ?_
  refine lv_bipush (v := iI (((45 : Nat) : Int))) S.1 S.2.1 dX6_enters_21 (by decide) ?_
  refine lv_iconst (v := iI (((4 : Nat) : Int))) S.1 S.2.1 dX6_enters_23 (by decide) ?_
  refine lv_iload_n S.1 S.2.1 dX6_enters_24 rfl (lv_at hl 1 rfl) ?_
  refine zv_imul (z := (((4 * a) : Nat) : Int)) S dX6_enters_25 (by omega) ?_
  refine zv_iadd (z := (((45 + (4 * a)) : Nat) : Int)) S dX6_enters_26 (by omega) ?_
  refine lv_iconst (v := iI (((2 : Nat) : Int))) S.1 S.2.1 dX6_enters_27 (by decide) ?_
  refine zv_iadd (z := ((((45 + (4 * a)) + 2) : Nat) : Int)) S dX6_enters_28 (by omega) ?_
  refine zv_iald S hAM hH 1 rfl (((45 + (4 * a)) + 2)) rfl (by omega) (by decide) dX6_enters_29 ?_
  refine zv_iadd (z := (st s (sn s a) + s ((45 + (4 * a)) + 2))) S dX6_enters_30 rfl ?_
  exact hret 31 ls _ _ ((st s (sn s a) + s ((45 + (4 * a)) + 2))) () dX6_enters_31 rfl rfl hH hS

theorem mX6_exits_1 : Cond.fieldLink RX6 7 "RoleDoublingPlannerModel" "s" "[I" ∈ wsX6_exits := List.mem_of_getElem? (i := 1) rfl
theorem nX6_exits_X6 : ∀ w ∈ wsX60, w ∈ wsX6_exits := fun _ h => List.mem_cons_of_mem _ (List.mem_append_right _ h)
set_option maxHeartbeats 4000000 in
set_option maxRecDepth 100000 in
theorem kX6_exits (l : Launch) (X : XT) (h : Nat) (Q : Nat → Nat) (s : Nat → Int) (rd : Nat → Int) (kp : Nat → Int) (km : Int) (tx : Nat → Int) (ln : Int) (sp : Int) (rs : Int) (wi : Nat → Int) (gi : Nat → Int) (a : Nat) (hs : okR s) (ha : a < 20) : Ci l yX6_exits wsX6_exits (rmD 2) X [.ref h, .int (iI ((a : Nat) : Int))] [mO h Q km ln sp rs, aW X (Q 0) 125 s, aW X (Q 1) 125 rd, aW X (Q 2) 625 kp, aW X (Q 3) 400 tx, aW X (Q 4) 8 wi, aW X (Q 5) 8 gi] (fun (z : Int) (_ : Unit) => z = xT s a) (fun (_ : Unit) => [mO h Q km ln sp rs, aW X (Q 0) 125 s, aW X (Q 1) 125 rd, aW X (Q 2) 625 kp, aW X (Q 3) 400 tx, aW X (Q 4) 8 wi, aW X (Q 5) 8 gi]) := by
  refine Ci.ofW (cc := cX6_exits) (maxL := 2) (by decide) rfl (Nat.le_of_ble_eq_true rfl) ?_
  intro p_ e_ s_ m_ below meth c_ A Q_ S hA hAM hH hS hret ls hl
  have hl : lv_has ls 2 [(0, .ref (h)), (1, .int (iI ((a : Nat) : Int)))] := hl
  have hk1 := hs.nr8
  have hk2 := hs.na20
  have hk3 := hs.ns10
  refine lv_aload_n S.1 S.2.1 dX6_exits_0 rfl (lv_at hl 0 rfl) ?_
  refine lv_aload_n S.1 S.2.1 dX6_exits_1 rfl (lv_at hl 0 rfl) ?_
  refine zv_get (v := .ref (Q 0)) S hAM hH nX6_exits_X6 0 rfl rfl 0 (by decide) mX6_exits_1 rfl rfl dX6_exits_2 ?_
  refine lv_bipush (v := iI (((45 : Nat) : Int))) S.1 S.2.1 dX6_exits_5 (by decide) ?_
  refine lv_iconst (v := iI (((4 : Nat) : Int))) S.1 S.2.1 dX6_exits_7 (by decide) ?_
  refine lv_iload_n S.1 S.2.1 dX6_exits_8 rfl (lv_at hl 1 rfl) ?_
  refine zv_imul (z := (((4 * a) : Nat) : Int)) S dX6_exits_9 (by omega) ?_
  refine zv_iadd (z := (((45 + (4 * a)) : Nat) : Int)) S dX6_exits_10 (by omega) ?_
  refine lv_iconst (v := iI (((1 : Nat) : Int))) S.1 S.2.1 dX6_exits_11 (by decide) ?_
  refine zv_iadd (z := ((((45 + (4 * a)) + 1) : Nat) : Int)) S dX6_exits_12 (by omega) ?_
  refine zv_iald S hAM hH 1 rfl (((45 + (4 * a)) + 1)) rfl (by omega) (by decide) dX6_exits_13 ?_
  refine zv_top (z := s ((45 + (4 * a)) + 1)) (z2 := ((sn s a : Nat) : Int)) (hs.snE a (by omega)) ?_
  refine zc_Vi (n := 1) (As := [.int (iI ((sn s a : Nat) : Int))]) (rest := []) S hAM hA (kX6_sceneStart l X h Q s rd kp km tx ln sp rs wi gi (sn s a) hs (by have := hs.sn10 a (by omega); omega)) rfl gX6_exits_X6_sceneStart  (by decide +kernel) ⟨Nat.le_of_ble_eq_true rfl, Nat.le_of_ble_eq_true rfl⟩ hH hS [0, 1, 2, 3, 4, 5, 6] rfl 7 rfl (List.Perm.refl _) 6 0 rfl rfl rfl hl.1 rfl (Nat.le_of_ble_eq_true rfl) dX6_exits_14 ⟨Nat.le_of_ble_eq_true rfl, Nat.le_of_ble_eq_true rfl⟩ (fun z2 _ H locs hp3 hH hS => ?_)
  have hH : Hold X A [mO h Q km ln sp rs, aW X (Q 0) 125 s, aW X (Q 1) 125 rd, aW X (Q 2) 625 kp, aW X (Q 3) 400 tx, aW X (Q 4) 8 wi, aW X (Q 5) 8 gi].flatten H := hH
  obtain rfl := hp3
  refine lv_aload_n S.1 S.2.1 dX6_exits_17 rfl (lv_at hl 0 rfl) ?_
  refine zv_get (v := .ref (Q 0)) S hAM hH nX6_exits_X6 0 rfl rfl 0 (by decide) mX6_exits_1 rfl rfl dX6_exits_18 ?_
  refine lv_bipush (v := iI (((45 : Nat) : Int))) S.1 S.2.1 dX6_exits_21 (by decide) ?_
  refine lv_iconst (v := iI (((4 : Nat) : Int))) S.1 S.2.1 dX6_exits_23 (by decide) ?_
  refine lv_iload_n S.1 S.2.1 dX6_exits_24 rfl (lv_at hl 1 rfl) ?_
  refine zv_imul (z := (((4 * a) : Nat) : Int)) S dX6_exits_25 (by omega) ?_
  refine zv_iadd (z := (((45 + (4 * a)) : Nat) : Int)) S dX6_exits_26 (by omega) ?_
  refine lv_iconst (v := iI (((3 : Nat) : Int))) S.1 S.2.1 dX6_exits_27 (by decide) ?_
  refine zv_iadd (z := ((((45 + (4 * a)) + 3) : Nat) : Int)) S dX6_exits_28 (by omega) ?_
  refine zv_iald S hAM hH 1 rfl (((45 + (4 * a)) + 3)) rfl (by omega) (by decide) dX6_exits_29 ?_
  refine zv_iadd (z := (st s (sn s a) + s ((45 + (4 * a)) + 3))) S dX6_exits_30 rfl ?_
  exact hret 31 ls _ _ ((st s (sn s a) + s ((45 + (4 * a)) + 3))) () dX6_exits_31 rfl rfl hH hS

theorem mX6_rolesAt_1 : Cond.fieldLink RX6 7 "RoleDoublingPlannerModel" "s" "[I" ∈ wsX6_rolesAt := List.mem_of_getElem? (i := 1) rfl
theorem nX6_rolesAt_X6 : ∀ w ∈ wsX60, w ∈ wsX6_rolesAt := fun _ h => List.mem_cons_of_mem _ (List.mem_append_right _ h)
set_option maxHeartbeats 4000000 in
set_option maxRecDepth 100000 in
theorem kX6_rolesAt (l : Launch) (X : XT) (h : Nat) (Q : Nat → Nat) (s : Nat → Int) (rd : Nat → Int) (kp : Nat → Int) (km : Int) (tx : Nat → Int) (ln : Int) (sp : Int) (rs : Int) (wi : Nat → Int) (gi : Nat → Int) (t : Int) (hs : okR s) (ht : inR t) : Ci l yX6_rolesAt wsX6_rolesAt (rmD 3) X [.ref h, .int (iI (t))] [mO h Q km ln sp rs, aW X (Q 0) 125 s, aW X (Q 1) 125 rd, aW X (Q 2) 625 kp, aW X (Q 3) 400 tx, aW X (Q 4) 8 wi, aW X (Q 5) 8 gi] (fun (z : Int) (_ : Unit) => z = ((ra s t (na s) : Nat) : Int)) (fun (_ : Unit) => [mO h Q km ln sp rs, aW X (Q 0) 125 s, aW X (Q 1) 125 rd, aW X (Q 2) 625 kp, aW X (Q 3) 400 tx, aW X (Q 4) 8 wi, aW X (Q 5) 8 gi]) := by
  refine Ci.ofW (cc := cX6_rolesAt) (maxL := 4) (by decide) rfl (Nat.le_of_ble_eq_true rfl) ?_
  intro p_ e_ s_ m_ below meth c_ A Q_ S hA hAM hH hS hret ls hl
  have hl : lv_has ls 4 [(0, .ref (h)), (1, .int (iI (t)))] := hl
  have hk1 := hs.nr8
  have hk2 := hs.na20
  have hk3 := hs.ns10
  refine lv_iconst (v := iI (((0 : Nat) : Int))) S.1 S.2.1 dX6_rolesAt_0 (by decide) ?_
  refine lv_istore_n (lv' := [(2, .int (iI ((0 : Nat) : Int))), (0, .ref (h)), (1, .int (iI (t)))]) S.1 S.2.1 dX6_rolesAt_1 rfl hl (by decide) rfl (fun ls hl => ?_)
  refine lv_iconst (v := iI (((0 : Nat) : Int))) S.1 S.2.1 dX6_rolesAt_2 (by decide) ?_
  refine lv_istore_n (lv' := [(3, .int (iI ((0 : Nat) : Int))), (2, .int (iI ((0 : Nat) : Int))), (0, .ref (h)), (1, .int (iI (t)))]) S.1 S.2.1 dX6_rolesAt_3 rfl hl (by decide) rfl (fun ls hl => ?_)
  have lp4 : ∀ (fu_ : Nat) (a : Nat) (set : Nat), na s - a < fu_ → (a ≤ na s) → (set = ra s t a) → ∀ (H : Heap) (locs : List Loc), Hold X A [mO h Q km ln sp rs, aW X (Q 0) 125 s, aW X (Q 1) 125 rd, aW X (Q 2) 625 kp, aW X (Q 3) 400 tx, aW X (Q 4) 8 wi, aW X (Q 5) 8 gi].flatten H → va_S A s_.heap H locs → ∀ ls : Array Slot, lv_has ls 4 [(3, .int (iI ((a : Nat) : Int))), (2, .int (iI ((set : Nat) : Int))), (0, .ref (h)), (1, .int (iI (t)))] → W p_ l e_ (rmD 3) s_ m_ (List.toArray [.ref (h), .int (iI (t))]) below meth c_ H locs 0 0 Q_ (F0 m_ 4 ls []) := by
    intro fu_
    induction fu_ with
    | zero => intro a set hmu hi hset H locs hH hS ls hl; exact absurd hmu (Nat.not_lt_zero _)
    | succ fu_ ih4 => 
      intro a set hmu hi hset H locs hH hS ls hl
      refine lv_iload_n S.1 S.2.1 dX6_rolesAt_4 rfl (lv_at hl 0 rfl) ?_
      refine lv_aload_n S.1 S.2.1 dX6_rolesAt_5 rfl (lv_at hl 2 rfl) ?_
      refine zv_get (v := .ref (Q 0)) S hAM hH nX6_rolesAt_X6 0 rfl rfl 0 (by decide) mX6_rolesAt_1 rfl rfl dX6_rolesAt_6 ?_
      refine lv_bipush (v := iI (((44 : Nat) : Int))) S.1 S.2.1 dX6_rolesAt_9 (by decide) ?_
      refine zv_iald S hAM hH 1 rfl (44) rfl (by decide) (by decide) dX6_rolesAt_11 ?_
      refine zv_top (z := s 44) (z2 := ((na s : Nat) : Int)) hs.e44 ?_
      refine zv_icmp_ge (tgt := 53) S dX6_rolesAt_12 (by decide) (by omega) (by omega) (fun c_12 => ?_) (fun c_12 => ?_)
      · skip
        refine lv_iload_n S.1 S.2.1 dX6_rolesAt_53 rfl (lv_at hl 1 rfl) ?_
        exact hret 54 ls _ _ (((set : Nat) : Int)) () dX6_rolesAt_54 rfl (by have e9 : a = na s := (by omega); rw [hset, e9]) hH hS
      · skip
        refine lv_iload_n S.1 S.2.1 dX6_rolesAt_15 rfl (lv_at hl 1 rfl) ?_
        refine lv_aload_n S.1 S.2.1 dX6_rolesAt_16 rfl (lv_at hl 2 rfl) ?_
        refine lv_iload_n S.1 S.2.1 dX6_rolesAt_17 rfl (lv_at hl 0 rfl) ?_
        refine zc_Vi (n := 1) (As := [.int (iI ((a : Nat) : Int))]) (rest := [.int (iI ((set : Nat) : Int))]) S hAM hA (kX6_enters l X h Q s rd kp km tx ln sp rs wi gi a hs (by omega)) rfl gX6_rolesAt_X6_enters  (by decide +kernel) ⟨Nat.le_of_ble_eq_true rfl, Nat.le_of_ble_eq_true rfl⟩ hH hS [0, 1, 2, 3, 4, 5, 6] rfl 7 rfl (List.Perm.refl _) 6 0 rfl rfl rfl hl.1 rfl (Nat.le_of_ble_eq_true rfl) dX6_rolesAt_18 ⟨Nat.le_of_ble_eq_true rfl, Nat.le_of_ble_eq_true rfl⟩ (fun z2 _ H locs hp3 hH hS => ?_)
        have hH : Hold X A [mO h Q km ln sp rs, aW X (Q 0) 125 s, aW X (Q 1) 125 rd, aW X (Q 2) 625 kp, aW X (Q 3) 400 tx, aW X (Q 4) 8 wi, aW X (Q 5) 8 gi].flatten H := hH
        obtain rfl := hp3
        refine lv_iload_n S.1 S.2.1 dX6_rolesAt_21 rfl (lv_at hl 3 rfl) ?_
        refine zv_icmp_gt (tgt := 44) S dX6_rolesAt_22 (by decide) (hs.eTR _ (by omega)) (by omega) (fun c_22 => ?_) (fun c_22 => ?_)
        · skip
          refine lv_iconst (v := iI (((0 : Nat) : Int))) S.1 S.2.1 dX6_rolesAt_44 (by decide) ?_
          refine zv_ior (z := ((set : Nat) : Int)) S dX6_rolesAt_45 (by rw [iI_or, Nat.or_zero]) ?_
          refine lv_istore_n (lv' := [(2, .int (iI ((set : Nat) : Int))), (3, .int (iI ((a : Nat) : Int))), (0, .ref (h)), (1, .int (iI (t)))]) S.1 S.2.1 dX6_rolesAt_46 rfl hl (by decide) rfl (fun ls hl => ?_)
          refine zv_iinc (z := (((a + 1) : Nat) : Int)) (lv' := [(3, .int (iI (((a + 1) : Nat) : Int))), (2, .int (iI ((set : Nat) : Int))), (0, .ref (h)), (1, .int (iI (t)))]) S dX6_rolesAt_47 hl (k := 1) rfl (by omega) (by decide) rfl (fun ls hl => ?_)
          refine lv_goto (tgt := 4) S.1 S.2.1 dX6_rolesAt_50 (by decide) ?_
          exact ih4  ((a + 1)) (set) (by omega) (by omega) (by rw [ra]; split <;> first | (rw [hset]; done) | (exfalso; omega)) _ _ hH hS ls (lv_sub hl [0, 1, 2, 3] rfl)
        · skip
          refine lv_iload_n S.1 S.2.1 dX6_rolesAt_25 rfl (lv_at hl 3 rfl) ?_
          refine lv_aload_n S.1 S.2.1 dX6_rolesAt_26 rfl (lv_at hl 2 rfl) ?_
          refine lv_iload_n S.1 S.2.1 dX6_rolesAt_27 rfl (lv_at hl 0 rfl) ?_
          refine zc_Vi (n := 1) (As := [.int (iI ((a : Nat) : Int))]) (rest := [.int (iI (t)), .int (iI ((set : Nat) : Int))]) S hAM hA (kX6_exits l X h Q s rd kp km tx ln sp rs wi gi a hs (by omega)) rfl gX6_rolesAt_X6_exits  (by decide +kernel) ⟨Nat.le_of_ble_eq_true rfl, Nat.le_of_ble_eq_true rfl⟩ hH hS [0, 1, 2, 3, 4, 5, 6] rfl 7 rfl (List.Perm.refl _) 6 0 rfl rfl rfl hl.1 rfl (Nat.le_of_ble_eq_true rfl) dX6_rolesAt_28 ⟨Nat.le_of_ble_eq_true rfl, Nat.le_of_ble_eq_true rfl⟩ (fun z5 _ H locs hp6 hH hS => ?_)
          have hH : Hold X A [mO h Q km ln sp rs, aW X (Q 0) 125 s, aW X (Q 1) 125 rd, aW X (Q 2) 625 kp, aW X (Q 3) 400 tx, aW X (Q 4) 8 wi, aW X (Q 5) 8 gi].flatten H := hH
          obtain rfl := hp6
          refine zv_icmp_ge (tgt := 44) S dX6_rolesAt_31 (by decide) (by omega) (hs.xTR _ (by omega)) (fun c_31 => ?_) (fun c_31 => ?_)
          · skip
            refine lv_iconst (v := iI (((0 : Nat) : Int))) S.1 S.2.1 dX6_rolesAt_44 (by decide) ?_
            refine zv_ior (z := ((set : Nat) : Int)) S dX6_rolesAt_45 (by rw [iI_or, Nat.or_zero]) ?_
            refine lv_istore_n (lv' := [(2, .int (iI ((set : Nat) : Int))), (3, .int (iI ((a : Nat) : Int))), (0, .ref (h)), (1, .int (iI (t)))]) S.1 S.2.1 dX6_rolesAt_46 rfl hl (by decide) rfl (fun ls hl => ?_)
            refine zv_iinc (z := (((a + 1) : Nat) : Int)) (lv' := [(3, .int (iI (((a + 1) : Nat) : Int))), (2, .int (iI ((set : Nat) : Int))), (0, .ref (h)), (1, .int (iI (t)))]) S dX6_rolesAt_47 hl (k := 1) rfl (by omega) (by decide) rfl (fun ls hl => ?_)
            refine lv_goto (tgt := 4) S.1 S.2.1 dX6_rolesAt_50 (by decide) ?_
            exact ih4  ((a + 1)) (set) (by omega) (by omega) (by rw [ra]; split <;> first | (rw [hset]; done) | (exfalso; omega)) _ _ hH hS ls (lv_sub hl [0, 1, 2, 3] rfl)
          · skip
            refine lv_iconst (v := iI (((1 : Nat) : Int))) S.1 S.2.1 dX6_rolesAt_34 (by decide) ?_
            refine lv_aload_n S.1 S.2.1 dX6_rolesAt_35 rfl (lv_at hl 2 rfl) ?_
            refine lv_iload_n S.1 S.2.1 dX6_rolesAt_36 rfl (lv_at hl 0 rfl) ?_
            refine zc_Vi (n := 1) (As := [.int (iI ((a : Nat) : Int))]) (rest := [.int (iI ((1 : Nat) : Int)), .int (iI ((set : Nat) : Int))]) S hAM hA (kX6_roleOf l X h Q s rd kp km tx ln sp rs wi gi a hs (by omega)) rfl gX6_rolesAt_X6_roleOf  (by decide +kernel) ⟨Nat.le_of_ble_eq_true rfl, Nat.le_of_ble_eq_true rfl⟩ hH hS [0, 1, 2, 3, 4, 5, 6] rfl 7 rfl (List.Perm.refl _) 6 0 rfl rfl rfl hl.1 rfl (Nat.le_of_ble_eq_true rfl) dX6_rolesAt_37 ⟨Nat.le_of_ble_eq_true rfl, Nat.le_of_ble_eq_true rfl⟩ (fun z8 _ H locs hp9 hH hS => ?_)
            have hH : Hold X A [mO h Q km ln sp rs, aW X (Q 0) 125 s, aW X (Q 1) 125 rd, aW X (Q 2) 625 kp, aW X (Q 3) 400 tx, aW X (Q 4) 8 wi, aW X (Q 5) 8 gi].flatten H := hH
            obtain rfl := hp9
            refine zv_ishl (z := (((2 ^ (rl s a)) : Nat) : Int)) S dX6_rolesAt_40 (iI_shl1 _ (by have := hs.rl8 a (by omega); omega)) ?_
            refine lv_goto (tgt := 45) S.1 S.2.1 dX6_rolesAt_41 (by decide) ?_
            refine zv_ior (z := (((set ||| (2 ^ (rl s a))) : Nat) : Int)) S dX6_rolesAt_45 (iI_or _ _) ?_
            refine lv_istore_n (lv' := [(2, .int (iI (((set ||| (2 ^ (rl s a))) : Nat) : Int))), (3, .int (iI ((a : Nat) : Int))), (0, .ref (h)), (1, .int (iI (t)))]) S.1 S.2.1 dX6_rolesAt_46 rfl hl (by decide) rfl (fun ls hl => ?_)
            refine zv_iinc (z := (((a + 1) : Nat) : Int)) (lv' := [(3, .int (iI (((a + 1) : Nat) : Int))), (2, .int (iI (((set ||| (2 ^ (rl s a))) : Nat) : Int))), (0, .ref (h)), (1, .int (iI (t)))]) S dX6_rolesAt_47 hl (k := 1) rfl (by omega) (by decide) rfl (fun ls hl => ?_)
            refine lv_goto (tgt := 4) S.1 S.2.1 dX6_rolesAt_50 (by decide) ?_
            exact ih4  ((a + 1)) ((set ||| (2 ^ (rl s a)))) (by omega) (by omega) (by rw [ra]; split <;> first | (rw [hset]; done) | (exfalso; omega)) _ _ hH hS ls (lv_sub hl [0, 1, 2, 3] rfl)
  exact lp4 (na s - (0) + 1) (0) (0) (Nat.lt_succ_self _) (Nat.zero_le _) rfl _ _ hH hS ls (lv_sub hl [0, 1, 2, 3] rfl)

theorem mX6_castBy_1 : Cond.fieldLink RX6 7 "RoleDoublingPlannerModel" "s" "[I" ∈ wsX6_castBy := List.mem_of_getElem? (i := 1) rfl
theorem nX6_castBy_X6 : ∀ w ∈ wsX60, w ∈ wsX6_castBy := fun _ h => List.mem_cons_of_mem _ (List.mem_append_right _ h)
set_option maxHeartbeats 4000000 in
set_option maxRecDepth 100000 in
theorem kX6_castBy (l : Launch) (X : XT) (h : Nat) (Q : Nat → Nat) (s : Nat → Int) (rd : Nat → Int) (kp : Nat → Int) (km : Int) (tx : Nat → Int) (ln : Int) (sp : Int) (rs : Int) (wi : Nat → Int) (gi : Nat → Int) (x : Int) (hs : okR s) (hx : inR x) : Ci l yX6_castBy wsX6_castBy (rmD 1) X [.ref h, .int (iI (x))] [mO h Q km ln sp rs, aW X (Q 0) 125 s, aW X (Q 1) 125 rd, aW X (Q 2) 625 kp, aW X (Q 3) 400 tx, aW X (Q 4) 8 wi, aW X (Q 5) 8 gi] (fun (z : Int) (_ : Unit) => z = ((cb s x (nr s) : Nat) : Int)) (fun (_ : Unit) => [mO h Q km ln sp rs, aW X (Q 0) 125 s, aW X (Q 1) 125 rd, aW X (Q 2) 625 kp, aW X (Q 3) 400 tx, aW X (Q 4) 8 wi, aW X (Q 5) 8 gi]) := by
  refine Ci.ofW (cc := cX6_castBy) (maxL := 4) (by decide) rfl (Nat.le_of_ble_eq_true rfl) ?_
  intro p_ e_ s_ m_ below meth c_ A Q_ S hA hAM hH hS hret ls hl
  have hl : lv_has ls 4 [(0, .ref (h)), (1, .int (iI (x)))] := hl
  have hk1 := hs.nr8
  have hk2 := hs.na20
  have hk3 := hs.ns10
  refine lv_iconst (v := iI (((0 : Nat) : Int))) S.1 S.2.1 dX6_castBy_0 (by decide) ?_
  refine lv_istore_n (lv' := [(2, .int (iI ((0 : Nat) : Int))), (0, .ref (h)), (1, .int (iI (x)))]) S.1 S.2.1 dX6_castBy_1 rfl hl (by decide) rfl (fun ls hl => ?_)
  refine lv_iconst (v := iI (((0 : Nat) : Int))) S.1 S.2.1 dX6_castBy_2 (by decide) ?_
  refine lv_istore_n (lv' := [(3, .int (iI ((0 : Nat) : Int))), (2, .int (iI ((0 : Nat) : Int))), (0, .ref (h)), (1, .int (iI (x)))]) S.1 S.2.1 dX6_castBy_3 rfl hl (by decide) rfl (fun ls hl => ?_)
  have lp4 : ∀ (fu_ : Nat) (r : Nat) (set : Nat), nr s - r < fu_ → (r ≤ nr s) → (set = cb s x r) → ∀ (H : Heap) (locs : List Loc), Hold X A [mO h Q km ln sp rs, aW X (Q 0) 125 s, aW X (Q 1) 125 rd, aW X (Q 2) 625 kp, aW X (Q 3) 400 tx, aW X (Q 4) 8 wi, aW X (Q 5) 8 gi].flatten H → va_S A s_.heap H locs → ∀ ls : Array Slot, lv_has ls 4 [(3, .int (iI ((r : Nat) : Int))), (2, .int (iI ((set : Nat) : Int))), (0, .ref (h)), (1, .int (iI (x)))] → W p_ l e_ (rmD 1) s_ m_ (List.toArray [.ref (h), .int (iI (x))]) below meth c_ H locs 0 0 Q_ (F0 m_ 4 ls []) := by
    intro fu_
    induction fu_ with
    | zero => intro r set hmu hi hset H locs hH hS ls hl; exact absurd hmu (Nat.not_lt_zero _)
    | succ fu_ ih4 => 
      intro r set hmu hi hset H locs hH hS ls hl
      refine lv_iload_n S.1 S.2.1 dX6_castBy_4 rfl (lv_at hl 0 rfl) ?_
      refine lv_aload_n S.1 S.2.1 dX6_castBy_5 rfl (lv_at hl 2 rfl) ?_
      refine zv_get (v := .ref (Q 0)) S hAM hH nX6_castBy_X6 0 rfl rfl 0 (by decide) mX6_castBy_1 rfl rfl dX6_castBy_6 ?_
      refine lv_bipush (v := iI (((11 : Nat) : Int))) S.1 S.2.1 dX6_castBy_9 (by decide) ?_
      refine zv_iald S hAM hH 1 rfl (11) rfl (by decide) (by decide) dX6_castBy_11 ?_
      refine zv_top (z := s 11) (z2 := ((nr s : Nat) : Int)) hs.e11 ?_
      refine zv_icmp_ge (tgt := 44) S dX6_castBy_12 (by decide) (by omega) (by omega) (fun c_12 => ?_) (fun c_12 => ?_)
      · skip
        refine lv_iload_n S.1 S.2.1 dX6_castBy_44 rfl (lv_at hl 1 rfl) ?_
        exact hret 45 ls _ _ (((set : Nat) : Int)) () dX6_castBy_45 rfl (by have e9 : r = nr s := (by omega); rw [hset, e9]) hH hS
      · skip
        refine lv_iload_n S.1 S.2.1 dX6_castBy_15 rfl (lv_at hl 1 rfl) ?_
        refine lv_aload_n S.1 S.2.1 dX6_castBy_16 rfl (lv_at hl 2 rfl) ?_
        refine zv_get (v := .ref (Q 0)) S hAM hH nX6_castBy_X6 0 rfl rfl 0 (by decide) mX6_castBy_1 rfl rfl dX6_castBy_17 ?_
        refine lv_bipush (v := iI (((36 : Nat) : Int))) S.1 S.2.1 dX6_castBy_20 (by decide) ?_
        refine lv_iload_n S.1 S.2.1 dX6_castBy_22 rfl (lv_at hl 0 rfl) ?_
        refine zv_iadd (z := (((36 + r) : Nat) : Int)) S dX6_castBy_23 (by omega) ?_
        refine zv_iald S hAM hH 1 rfl ((36 + r)) rfl (by omega) (by decide) dX6_castBy_24 ?_
        refine lv_iload_n S.1 S.2.1 dX6_castBy_25 rfl (lv_at hl 3 rfl) ?_
        refine zv_icmp_ne (tgt := 35) S dX6_castBy_26 (by decide) (hs.inRk _ (by omega)) (by omega) (fun c_26 => ?_) (fun c_26 => ?_)
        · skip
          refine lv_iconst (v := iI (((0 : Nat) : Int))) S.1 S.2.1 dX6_castBy_35 (by decide) ?_
          refine zv_ior (z := ((set : Nat) : Int)) S dX6_castBy_36 (by rw [iI_or, Nat.or_zero]) ?_
          refine lv_istore_n (lv' := [(2, .int (iI ((set : Nat) : Int))), (3, .int (iI ((r : Nat) : Int))), (0, .ref (h)), (1, .int (iI (x)))]) S.1 S.2.1 dX6_castBy_37 rfl hl (by decide) rfl (fun ls hl => ?_)
          refine zv_iinc (z := (((r + 1) : Nat) : Int)) (lv' := [(3, .int (iI (((r + 1) : Nat) : Int))), (2, .int (iI ((set : Nat) : Int))), (0, .ref (h)), (1, .int (iI (x)))]) S dX6_castBy_38 hl (k := 1) rfl (by omega) (by decide) rfl (fun ls hl => ?_)
          refine lv_goto (tgt := 4) S.1 S.2.1 dX6_castBy_41 (by decide) ?_
          exact ih4  ((r + 1)) (set) (by omega) (by omega) (by rw [cb]; split <;> first | (rw [hset]; done) | (exfalso; omega)) _ _ hH hS ls (lv_sub hl [0, 1, 2, 3] rfl)
        · skip
          refine lv_iconst (v := iI (((1 : Nat) : Int))) S.1 S.2.1 dX6_castBy_29 (by decide) ?_
          refine lv_iload_n S.1 S.2.1 dX6_castBy_30 rfl (lv_at hl 0 rfl) ?_
          refine zv_ishl (z := (((2 ^ r) : Nat) : Int)) S dX6_castBy_31 (iI_shl1 _ (by omega)) ?_
          refine lv_goto (tgt := 36) S.1 S.2.1 dX6_castBy_32 (by decide) ?_
          refine zv_ior (z := (((set ||| (2 ^ r)) : Nat) : Int)) S dX6_castBy_36 (iI_or _ _) ?_
          refine lv_istore_n (lv' := [(2, .int (iI (((set ||| (2 ^ r)) : Nat) : Int))), (3, .int (iI ((r : Nat) : Int))), (0, .ref (h)), (1, .int (iI (x)))]) S.1 S.2.1 dX6_castBy_37 rfl hl (by decide) rfl (fun ls hl => ?_)
          refine zv_iinc (z := (((r + 1) : Nat) : Int)) (lv' := [(3, .int (iI (((r + 1) : Nat) : Int))), (2, .int (iI (((set ||| (2 ^ r)) : Nat) : Int))), (0, .ref (h)), (1, .int (iI (x)))]) S dX6_castBy_38 hl (k := 1) rfl (by omega) (by decide) rfl (fun ls hl => ?_)
          refine lv_goto (tgt := 4) S.1 S.2.1 dX6_castBy_41 (by decide) ?_
          exact ih4  ((r + 1)) ((set ||| (2 ^ r))) (by omega) (by omega) (by rw [cb]; split <;> first | (rw [hset]; done) | (exfalso; omega)) _ _ hH hS ls (lv_sub hl [0, 1, 2, 3] rfl)
  exact lp4 (nr s - (0) + 1) (0) (0) (Nat.lt_succ_self _) (Nat.zero_le _) rfl _ _ hH hS ls (lv_sub hl [0, 1, 2, 3] rfl)

set_option maxHeartbeats 4000000 in
set_option maxRecDepth 100000 in
theorem kX6_ones (l : Launch) (X : XT) (n0 : Nat) (hn : n0 < 256) : Ci l yX6_ones wsX6_ones (rmD 1) X [.int (iI ((n0 : Nat) : Int))] [] (fun (z : Int) (_ : Unit) => z = ((pop n0 : Nat) : Int)) (fun (_ : Unit) => []) := by
  refine Ci.ofW (cc := cX6_ones) (maxL := 3) (by decide) rfl (Nat.le_of_ble_eq_true rfl) ?_
  intro p_ e_ s_ m_ below meth c_ A Q_ S hA hAM hH hS hret ls hl
  have hl : lv_has ls 3 [(0, .int (iI ((n0 : Nat) : Int)))] := hl
  refine lv_iconst (v := iI (((0 : Nat) : Int))) S.1 S.2.1 dX6_ones_0 (by decide) ?_
  refine lv_istore_n (lv' := [(1, .int (iI ((0 : Nat) : Int))), (0, .int (iI ((n0 : Nat) : Int)))]) S.1 S.2.1 dX6_ones_1 rfl hl (by decide) rfl (fun ls hl => ?_)
  refine lv_iload_n S.1 S.2.1 dX6_ones_2 rfl (lv_at hl 1 rfl) ?_
  refine lv_istore_n (lv' := [(2, .int (iI ((n0 : Nat) : Int))), (1, .int (iI ((0 : Nat) : Int))), (0, .int (iI ((n0 : Nat) : Int)))]) S.1 S.2.1 dX6_ones_3 rfl hl (by decide) rfl (fun ls hl => ?_)
  have lp4 : ∀ (fu_ : Nat) (cnt : Nat) (left : Nat), left < fu_ → (cnt + pop left = pop n0) → (left < 256) → (cnt ≤ 8) → ∀ (H : Heap) (locs : List Loc), Hold X A [].flatten H → va_S A s_.heap H locs → ∀ ls : Array Slot, lv_has ls 3 [(2, .int (iI ((left : Nat) : Int))), (1, .int (iI ((cnt : Nat) : Int))), (0, .int (iI ((n0 : Nat) : Int)))] → W p_ l e_ (rmD 1) s_ m_ (List.toArray [.int (iI ((n0 : Nat) : Int))]) below meth c_ H locs 0 0 Q_ (F0 m_ 4 ls []) := by
    intro fu_
    induction fu_ with
    | zero => intro cnt left hmu hc hl2 hcnt H locs hH hS ls hl; exact absurd hmu (Nat.not_lt_zero _)
    | succ fu_ ih4 => 
      intro cnt left hmu hc hl2 hcnt H locs hH hS ls hl
      refine lv_iload_n S.1 S.2.1 dX6_ones_4 rfl (lv_at hl 0 rfl) ?_
      refine zv_if_eq (tgt := 20) S dX6_ones_5 (by decide) (by omega) (fun c_5 => ?_) (fun c_5 => ?_)
      · skip
        refine lv_iload_n S.1 S.2.1 dX6_ones_20 rfl (lv_at hl 1 rfl) ?_
        exact hret 21 ls _ _ (((cnt : Nat) : Int)) () dX6_ones_21 rfl (by have hl0 : left = 0 := (by omega); rw [hl0] at hc; rw [← hc]; rfl) hH hS
      · skip
        have hp2 := pop_s left (by omega) (by omega)
        refine zv_iinc (z := (((cnt + 1) : Nat) : Int)) (lv' := [(1, .int (iI (((cnt + 1) : Nat) : Int))), (2, .int (iI ((left : Nat) : Int))), (0, .int (iI ((n0 : Nat) : Int)))]) S dX6_ones_8 hl (k := 1) rfl (by omega) (by decide) rfl (fun ls hl => ?_)
        refine lv_iload_n S.1 S.2.1 dX6_ones_11 rfl (lv_at hl 1 rfl) ?_
        refine lv_iload_n S.1 S.2.1 dX6_ones_12 rfl (lv_at hl 1 rfl) ?_
        refine lv_iconst (v := iI (((1 : Nat) : Int))) S.1 S.2.1 dX6_ones_13 (by decide) ?_
        refine zv_isub (z := (((left - 1) : Nat) : Int)) S dX6_ones_14 (by omega) ?_
        refine zv_iand (z := (((left &&& (left - 1)) : Nat) : Int)) S dX6_ones_15 (iI_and _ _) ?_
        refine lv_istore_n (lv' := [(2, .int (iI (((left &&& (left - 1)) : Nat) : Int))), (1, .int (iI (((cnt + 1) : Nat) : Int))), (0, .int (iI ((n0 : Nat) : Int)))]) S.1 S.2.1 dX6_ones_16 rfl hl (by decide) rfl (fun ls hl => ?_)
        refine lv_goto (tgt := 4) S.1 S.2.1 dX6_ones_17 (by decide) ?_
        exact ih4  ((cnt + 1)) ((left &&& (left - 1))) (by omega) (by omega) (by omega) (by have := pop_8 n0 hn; omega) _ _ hH hS ls (lv_sub hl [0, 1, 2] rfl)
  exact lp4 ((n0) + 1) (0) (n0) (Nat.lt_succ_self _) (Nat.zero_add _) hn (by omega) _ _ hH hS ls (lv_sub hl [0, 1, 2] rfl)

set_option maxHeartbeats 4000000 in
set_option maxRecDepth 100000 in
theorem kX6_onStage (l : Launch) (X : XT) (h : Nat) (Q : Nat → Nat) (s : Nat → Int) (rd : Nat → Int) (kp : Nat → Int) (km : Int) (tx : Nat → Int) (ln : Int) (sp : Int) (rs : Int) (wi : Nat → Int) (gi : Nat → Int) (t : Int) (hs : okR s) (ht : inR t) : Ci l yX6_onStage wsX6_onStage (rmD 4) X [.ref h, .int (iI (t))] [mO h Q km ln sp rs, aW X (Q 0) 125 s, aW X (Q 1) 125 rd, aW X (Q 2) 625 kp, aW X (Q 3) 400 tx, aW X (Q 4) 8 wi, aW X (Q 5) 8 gi] (fun (z : Int) (_ : Unit) => z = (if 0 ≤ t ∧ t < st s (ns s) then ((ra s t (na s) : Nat) : Int) else -1001)) (fun (_ : Unit) => [mO h Q km ln sp rs, aW X (Q 0) 125 s, aW X (Q 1) 125 rd, aW X (Q 2) 625 kp, aW X (Q 3) 400 tx, aW X (Q 4) 8 wi, aW X (Q 5) 8 gi]) := by
  refine Ci.ofW (cc := cX6_onStage) (maxL := 2) (by decide) rfl (Nat.le_of_ble_eq_true rfl) ?_
  intro p_ e_ s_ m_ below meth c_ A Q_ S hA hAM hH hS hret ls hl
  have hl : lv_has ls 2 [(0, .ref (h)), (1, .int (iI (t)))] := hl
  have hk1 := hs.nr8
  have hk2 := hs.na20
  have hk3 := hs.ns10
  have hk4 := hs.stB (ns s) hk3
  refine lv_iload_n S.1 S.2.1 dX6_onStage_0 rfl (lv_at hl 1 rfl) ?_
  refine lv_i2l (v := lI (t)) S.1 S.2.1 dX6_onStage_1 (lI_i (by omega)) ?_
  refine lv_lconst (v := lI (0)) S.1 S.2.1 dX6_onStage_2 (by decide) ?_
  refine lv_aload_n S.1 S.2.1 dX6_onStage_3 rfl (lv_at hl 0 rfl) ?_
  refine zc_Vi (n := 0) (As := []) (rest := [.long (lI (0)), .long (lI (t))]) S hAM hA (kX6_playLength l X h Q s rd kp km tx ln sp rs wi gi hs) rfl gX6_onStage_X6_playLength  (by decide +kernel) ⟨Nat.le_of_ble_eq_true rfl, Nat.le_of_ble_eq_true rfl⟩ hH hS [0, 1, 2, 3, 4, 5, 6] rfl 7 rfl (List.Perm.refl _) 6 0 rfl rfl rfl hl.1 rfl (Nat.le_of_ble_eq_true rfl) dX6_onStage_4 ⟨Nat.le_of_ble_eq_true rfl, Nat.le_of_ble_eq_true rfl⟩ (fun z2 _ H locs hp3 hH hS => ?_)
  have hH : Hold X A [mO h Q km ln sp rs, aW X (Q 0) 125 s, aW X (Q 1) 125 rd, aW X (Q 2) 625 kp, aW X (Q 3) 400 tx, aW X (Q 4) 8 wi, aW X (Q 5) 8 gi].flatten H := hH
  obtain rfl := hp3
  refine lv_iconst (v := iI (((1 : Nat) : Int))) S.1 S.2.1 dX6_onStage_7 (by decide) ?_
  refine zv_isub (z := (st s (ns s) - ((1 : Nat) : Int))) S dX6_onStage_8 rfl ?_
  refine lv_i2l (v := lI ((st s (ns s) - ((1 : Nat) : Int)))) S.1 S.2.1 dX6_onStage_9 (lI_i (by omega)) ?_
  refine zc_Si (n := 3) (As := [.long (lI (t)), .long (lI (0)), .long (lI ((st s (ns s) - ((1 : Nat) : Int))))]) (rest := []) S hAM hA (kX6_in l X t 0 (st s (ns s) - ((1 : Nat) : Int)) (by omega) (by omega) (by omega)) rfl gX6_onStage_X6_in  (by decide +kernel) ⟨Nat.le_of_ble_eq_true rfl, Nat.le_of_ble_eq_true rfl⟩ hH hS [0, 1, 2, 3, 4, 5, 6] rfl 7 rfl (List.Perm.refl _)  rfl hl.1 rfl (Nat.le_of_ble_eq_true rfl) dX6_onStage_10 ⟨Nat.le_of_ble_eq_true rfl, Nat.le_of_ble_eq_true rfl⟩ (fun z5 _ H locs hp6 hH hS => ?_)
  have hH : Hold X A [mO h Q km ln sp rs, aW X (Q 0) 125 s, aW X (Q 1) 125 rd, aW X (Q 2) 625 kp, aW X (Q 3) 400 tx, aW X (Q 4) 8 wi, aW X (Q 5) 8 gi].flatten H := hH
  rcases hp6 with ⟨rfl, b_10⟩ | ⟨rfl, b_10⟩
  · refine zv_top (z := 1) (z2 := ((1 : Nat) : Int)) rfl ?_
    refine zv_if_eq (tgt := 24) S dX6_onStage_13 (by decide) (by decide) (fun c_13 => ?_) (fun c_13 => ?_)
    · exact (show False by omega).elim
    · skip
      refine lv_aload_n S.1 S.2.1 dX6_onStage_16 rfl (lv_at hl 0 rfl) ?_
      refine lv_iload_n S.1 S.2.1 dX6_onStage_17 rfl (lv_at hl 1 rfl) ?_
      refine zc_Vi (n := 1) (As := [.int (iI (t))]) (rest := []) S hAM hA (kX6_rolesAt l X h Q s rd kp km tx ln sp rs wi gi t hs (by omega)) rfl gX6_onStage_X6_rolesAt  (by decide +kernel) ⟨Nat.le_of_ble_eq_true rfl, Nat.le_of_ble_eq_true rfl⟩ hH hS [0, 1, 2, 3, 4, 5, 6] rfl 7 rfl (List.Perm.refl _) 6 0 rfl rfl rfl hl.1 rfl (Nat.le_of_ble_eq_true rfl) dX6_onStage_18 ⟨Nat.le_of_ble_eq_true rfl, Nat.le_of_ble_eq_true rfl⟩ (fun z8 _ H locs hp9 hH hS => ?_)
      have hH : Hold X A [mO h Q km ln sp rs, aW X (Q 0) 125 s, aW X (Q 1) 125 rd, aW X (Q 2) 625 kp, aW X (Q 3) 400 tx, aW X (Q 4) 8 wi, aW X (Q 5) 8 gi].flatten H := hH
      obtain rfl := hp9
      refine lv_goto (tgt := 27) S.1 S.2.1 dX6_onStage_21 (by decide) ?_
      exact hret 27 ls _ _ (((ra s t (na s) : Nat) : Int)) () dX6_onStage_27 rfl (by first | rw [if_pos (by omega)] | rw [if_neg (by omega)]) hH hS
  · refine zv_top (z := 0) (z2 := ((0 : Nat) : Int)) rfl ?_
    refine zv_if_eq (tgt := 24) S dX6_onStage_13 (by decide) (by decide) (fun c_13 => ?_) (fun c_13 => ?_)
    · skip
      refine lv_sipush (v := iI (-1001)) S.1 S.2.1 dX6_onStage_24 (by decide) ?_
      exact hret 27 ls _ _ (-1001) () dX6_onStage_27 rfl (by first | rw [if_pos (by omega)] | rw [if_neg (by omega)]) hH hS
    · exact (show False by omega).elim

theorem mX6_peak_1 : Cond.fieldLink RX6 7 "RoleDoublingPlannerModel" "s" "[I" ∈ wsX6_peak := List.mem_of_getElem? (i := 1) rfl
theorem nX6_peak_X6 : ∀ w ∈ wsX60, w ∈ wsX6_peak := fun _ h => List.mem_cons_of_mem _ (List.mem_append_right _ h)
set_option maxHeartbeats 4000000 in
set_option maxRecDepth 100000 in
theorem kX6_peak (l : Launch) (X : XT) (h : Nat) (Q : Nat → Nat) (s : Nat → Int) (rd : Nat → Int) (kp : Nat → Int) (km : Int) (tx : Nat → Int) (ln : Int) (sp : Int) (rs : Int) (wi : Nat → Int) (gi : Nat → Int) (hs : okR s) : Ci l yX6_peak wsX6_peak (rmD 4) X [.ref h] [mO h Q km ln sp rs, aW X (Q 0) 125 s, aW X (Q 1) 125 rd, aW X (Q 2) 625 kp, aW X (Q 3) 400 tx, aW X (Q 4) 8 wi, aW X (Q 5) 8 gi] (fun (z : Int) (_ : Unit) => z = ((pk s (na s) : Nat) : Int)) (fun (_ : Unit) => [mO h Q km ln sp rs, aW X (Q 0) 125 s, aW X (Q 1) 125 rd, aW X (Q 2) 625 kp, aW X (Q 3) 400 tx, aW X (Q 4) 8 wi, aW X (Q 5) 8 gi]) := by
  refine Ci.ofW (cc := cX6_peak) (maxL := 4) (by decide) rfl (Nat.le_of_ble_eq_true rfl) ?_
  intro p_ e_ s_ m_ below meth c_ A Q_ S hA hAM hH hS hret ls hl
  have hl : lv_has ls 4 [(0, .ref (h))] := hl
  have hk1 := hs.nr8
  have hk2 := hs.na20
  have hk3 := hs.ns10
  refine lv_iconst (v := iI (((0 : Nat) : Int))) S.1 S.2.1 dX6_peak_0 (by decide) ?_
  refine lv_istore_n (lv' := [(1, .int (iI ((0 : Nat) : Int))), (0, .ref (h))]) S.1 S.2.1 dX6_peak_1 rfl hl (by decide) rfl (fun ls hl => ?_)
  refine lv_iconst (v := iI (((0 : Nat) : Int))) S.1 S.2.1 dX6_peak_2 (by decide) ?_
  refine lv_istore_n (lv' := [(2, .int (iI ((0 : Nat) : Int))), (1, .int (iI ((0 : Nat) : Int))), (0, .ref (h))]) S.1 S.2.1 dX6_peak_3 rfl hl (by decide) rfl (fun ls hl => ?_)
  have lp4 : ∀ (fu_ : Nat) (a : Nat) (most : Nat), na s - a < fu_ → (a ≤ na s) → (most = pk s a) → (most ≤ 8) → ∀ (H : Heap) (locs : List Loc), Hold X A [mO h Q km ln sp rs, aW X (Q 0) 125 s, aW X (Q 1) 125 rd, aW X (Q 2) 625 kp, aW X (Q 3) 400 tx, aW X (Q 4) 8 wi, aW X (Q 5) 8 gi].flatten H → va_S A s_.heap H locs → ∀ ls : Array Slot, lv_has ls 4 [(2, .int (iI ((a : Nat) : Int))), (1, .int (iI ((most : Nat) : Int))), (0, .ref (h))] → W p_ l e_ (rmD 4) s_ m_ (List.toArray [.ref (h)]) below meth c_ H locs 0 0 Q_ (F0 m_ 4 ls []) := by
    intro fu_
    induction fu_ with
    | zero => intro a most hmu hi hset hm8 H locs hH hS ls hl; exact absurd hmu (Nat.not_lt_zero _)
    | succ fu_ ih4 => 
      intro a most hmu hi hset hm8 H locs hH hS ls hl
      refine lv_iload_n S.1 S.2.1 dX6_peak_4 rfl (lv_at hl 0 rfl) ?_
      refine lv_aload_n S.1 S.2.1 dX6_peak_5 rfl (lv_at hl 2 rfl) ?_
      refine zv_get (v := .ref (Q 0)) S hAM hH nX6_peak_X6 0 rfl rfl 0 (by decide) mX6_peak_1 rfl rfl dX6_peak_6 ?_
      refine lv_bipush (v := iI (((44 : Nat) : Int))) S.1 S.2.1 dX6_peak_9 (by decide) ?_
      refine zv_iald S hAM hH 1 rfl (44) rfl (by decide) (by decide) dX6_peak_11 ?_
      refine zv_top (z := s 44) (z2 := ((na s : Nat) : Int)) hs.e44 ?_
      refine zv_icmp_ge (tgt := 45) S dX6_peak_12 (by decide) (by omega) (by omega) (fun c_12 => ?_) (fun c_12 => ?_)
      · skip
        refine lv_iload_n S.1 S.2.1 dX6_peak_45 rfl (lv_at hl 1 rfl) ?_
        exact hret 46 ls _ _ (((most : Nat) : Int)) () dX6_peak_46 rfl (by have e9 : a = na s := (by omega); rw [hset, e9]) hH hS
      · skip
        refine lv_aload_n S.1 S.2.1 dX6_peak_15 rfl (lv_at hl 2 rfl) ?_
        refine lv_aload_n S.1 S.2.1 dX6_peak_16 rfl (lv_at hl 2 rfl) ?_
        refine lv_iload_n S.1 S.2.1 dX6_peak_17 rfl (lv_at hl 0 rfl) ?_
        refine zc_Vi (n := 1) (As := [.int (iI ((a : Nat) : Int))]) (rest := [.ref (h)]) S hAM hA (kX6_enters l X h Q s rd kp km tx ln sp rs wi gi a hs (by omega)) rfl gX6_peak_X6_enters  (by decide +kernel) ⟨Nat.le_of_ble_eq_true rfl, Nat.le_of_ble_eq_true rfl⟩ hH hS [0, 1, 2, 3, 4, 5, 6] rfl 7 rfl (List.Perm.refl _) 6 0 rfl rfl rfl hl.1 rfl (Nat.le_of_ble_eq_true rfl) dX6_peak_18 ⟨Nat.le_of_ble_eq_true rfl, Nat.le_of_ble_eq_true rfl⟩ (fun z2 _ H locs hp3 hH hS => ?_)
        have hH : Hold X A [mO h Q km ln sp rs, aW X (Q 0) 125 s, aW X (Q 1) 125 rd, aW X (Q 2) 625 kp, aW X (Q 3) 400 tx, aW X (Q 4) 8 wi, aW X (Q 5) 8 gi].flatten H := hH
        obtain rfl := hp3
        refine zc_Vi (n := 1) (As := [.int (iI (eT s a))]) (rest := []) S hAM hA (kX6_rolesAt l X h Q s rd kp km tx ln sp rs wi gi (eT s a) hs (hs.eTR _ (by omega))) rfl gX6_peak_X6_rolesAt  (by decide +kernel) ⟨Nat.le_of_ble_eq_true rfl, Nat.le_of_ble_eq_true rfl⟩ hH hS [0, 1, 2, 3, 4, 5, 6] rfl 7 rfl (List.Perm.refl _) 6 0 rfl rfl rfl hl.1 rfl (Nat.le_of_ble_eq_true rfl) dX6_peak_21 ⟨Nat.le_of_ble_eq_true rfl, Nat.le_of_ble_eq_true rfl⟩ (fun z5 _ H locs hp6 hH hS => ?_)
        have hH : Hold X A [mO h Q km ln sp rs, aW X (Q 0) 125 s, aW X (Q 1) 125 rd, aW X (Q 2) 625 kp, aW X (Q 3) 400 tx, aW X (Q 4) 8 wi, aW X (Q 5) 8 gi].flatten H := hH
        obtain rfl := hp6
        refine zc_Si (n := 1) (As := [.int (iI ((ra s (eT s a) (na s) : Nat) : Int))]) (rest := []) S hAM hA (kX6_ones l X (ra s (eT s a) (na s)) (ra_lt hs _ _ (by omega))) rfl gX6_peak_X6_ones  (by decide +kernel) ⟨Nat.le_of_ble_eq_true rfl, Nat.le_of_ble_eq_true rfl⟩ hH hS [0, 1, 2, 3, 4, 5, 6] rfl 7 rfl (List.Perm.refl _)  rfl hl.1 rfl (Nat.le_of_ble_eq_true rfl) dX6_peak_24 ⟨Nat.le_of_ble_eq_true rfl, Nat.le_of_ble_eq_true rfl⟩ (fun z8 _ H locs hp9 hH hS => ?_)
        have hH : Hold X A [mO h Q km ln sp rs, aW X (Q 0) 125 s, aW X (Q 1) 125 rd, aW X (Q 2) 625 kp, aW X (Q 3) 400 tx, aW X (Q 4) 8 wi, aW X (Q 5) 8 gi].flatten H := hH
        obtain rfl := hp9
        refine lv_istore_n (lv' := [(3, .int (iI ((pop (ra s (eT s a) (na s)) : Nat) : Int))), (2, .int (iI ((a : Nat) : Int))), (1, .int (iI ((most : Nat) : Int))), (0, .ref (h))]) S.1 S.2.1 dX6_peak_27 rfl hl (by decide) rfl (fun ls hl => ?_)
        have hq : pop (ra s (eT s a) (na s)) ≤ 8 := pop_8 _ (ra_lt hs _ _ (by omega))
        refine lv_iload_n S.1 S.2.1 dX6_peak_28 rfl (lv_at hl 0 rfl) ?_
        refine lv_iload_n S.1 S.2.1 dX6_peak_29 rfl (lv_at hl 2 rfl) ?_
        refine zv_icmp_le (tgt := 37) S dX6_peak_30 (by decide) (by omega) (by omega) (fun c_30 => ?_) (fun c_30 => ?_)
        · skip
          refine lv_iload_n S.1 S.2.1 dX6_peak_37 rfl (lv_at hl 2 rfl) ?_
          refine lv_istore_n (lv' := [(1, .int (iI ((most : Nat) : Int))), (3, .int (iI ((pop (ra s (eT s a) (na s)) : Nat) : Int))), (2, .int (iI ((a : Nat) : Int))), (0, .ref (h))]) S.1 S.2.1 dX6_peak_38 rfl hl (by decide) rfl (fun ls hl => ?_)
          refine zv_iinc (z := (((a + 1) : Nat) : Int)) (lv' := [(2, .int (iI (((a + 1) : Nat) : Int))), (1, .int (iI ((most : Nat) : Int))), (3, .int (iI ((pop (ra s (eT s a) (na s)) : Nat) : Int))), (0, .ref (h))]) S dX6_peak_39 hl (k := 2) rfl (by omega) (by decide) rfl (fun ls hl => ?_)
          refine lv_goto (tgt := 4) S.1 S.2.1 dX6_peak_42 (by decide) ?_
          exact ih4  ((a + 1)) (most) (by omega) (by omega) (by rw [pk]; split <;> first | rfl | (rw [hset]; done) | (exfalso; omega)) (by omega) _ _ hH hS ls (lv_sub hl [0, 1, 3] rfl)
        · skip
          refine lv_iload_n S.1 S.2.1 dX6_peak_33 rfl (lv_at hl 0 rfl) ?_
          refine lv_goto (tgt := 38) S.1 S.2.1 dX6_peak_34 (by decide) ?_
          refine lv_istore_n (lv' := [(1, .int (iI ((pop (ra s (eT s a) (na s)) : Nat) : Int))), (3, .int (iI ((pop (ra s (eT s a) (na s)) : Nat) : Int))), (2, .int (iI ((a : Nat) : Int))), (0, .ref (h))]) S.1 S.2.1 dX6_peak_38 rfl hl (by decide) rfl (fun ls hl => ?_)
          refine zv_iinc (z := (((a + 1) : Nat) : Int)) (lv' := [(2, .int (iI (((a + 1) : Nat) : Int))), (1, .int (iI ((pop (ra s (eT s a) (na s)) : Nat) : Int))), (3, .int (iI ((pop (ra s (eT s a) (na s)) : Nat) : Int))), (0, .ref (h))]) S dX6_peak_39 hl (k := 2) rfl (by omega) (by decide) rfl (fun ls hl => ?_)
          refine lv_goto (tgt := 4) S.1 S.2.1 dX6_peak_42 (by decide) ?_
          exact ih4  ((a + 1)) (pop (ra s (eT s a) (na s))) (by omega) (by omega) (by rw [pk]; split <;> first | rfl | (rw [hset]; done) | (exfalso; omega)) (by omega) _ _ hH hS ls (lv_sub hl [0, 1, 3] rfl)
  exact lp4 (na s - (0) + 1) (0) (0) (Nat.lt_succ_self _) (Nat.zero_le _) rfl (by omega) _ _ hH hS ls (lv_sub hl [0, 1, 2] rfl)

theorem mX6_rolesInScene_1 : Cond.fieldLink RX6 7 "RoleDoublingPlannerModel" "s" "[I" ∈ wsX6_rolesInScene := List.mem_of_getElem? (i := 1) rfl
theorem nX6_rolesInScene_X6 : ∀ w ∈ wsX60, w ∈ wsX6_rolesInScene := fun _ h => List.mem_cons_of_mem _ (List.mem_append_right _ h)
set_option maxHeartbeats 4000000 in
set_option maxRecDepth 100000 in
theorem kX6_rolesInScene (l : Launch) (X : XT) (h : Nat) (Q : Nat → Nat) (s : Nat → Int) (rd : Nat → Int) (kp : Nat → Int) (km : Int) (tx : Nat → Int) (ln : Int) (sp : Int) (rs : Int) (wi : Nat → Int) (gi : Nat → Int) (c0 : Int) (hs : okR s) (hc0 : inR c0) : Ci l yX6_rolesInScene wsX6_rolesInScene (rmD 3) X [.ref h, .int (iI (c0))] [mO h Q km ln sp rs, aW X (Q 0) 125 s, aW X (Q 1) 125 rd, aW X (Q 2) 625 kp, aW X (Q 3) 400 tx, aW X (Q 4) 8 wi, aW X (Q 5) 8 gi] (fun (z : Int) (_ : Unit) => z = (if 0 ≤ c0 ∧ c0 < ((ns s : Nat) : Int) then ((ris s c0 (na s) : Nat) : Int) else -1001)) (fun (_ : Unit) => [mO h Q km ln sp rs, aW X (Q 0) 125 s, aW X (Q 1) 125 rd, aW X (Q 2) 625 kp, aW X (Q 3) 400 tx, aW X (Q 4) 8 wi, aW X (Q 5) 8 gi]) := by
  refine Ci.ofW (cc := cX6_rolesInScene) (maxL := 4) (by decide) rfl (Nat.le_of_ble_eq_true rfl) ?_
  intro p_ e_ s_ m_ below meth c_ A Q_ S hA hAM hH hS hret ls hl
  have hl : lv_has ls 4 [(0, .ref (h)), (1, .int (iI (c0)))] := hl
  have hk1 := hs.nr8
  have hk2 := hs.na20
  have hk3 := hs.ns10
  refine lv_aload_n S.1 S.2.1 dX6_rolesInScene_0 rfl (lv_at hl 0 rfl) ?_
  refine lv_iload_n S.1 S.2.1 dX6_rolesInScene_1 rfl (lv_at hl 1 rfl) ?_
  refine zc_Vi (n := 1) (As := [.int (iI (c0))]) (rest := []) S hAM hA (kX6_isScene l X h Q s rd kp km tx ln sp rs wi gi c0 hs (by omega)) rfl gX6_rolesInScene_X6_isScene  (by decide +kernel) ⟨Nat.le_of_ble_eq_true rfl, Nat.le_of_ble_eq_true rfl⟩ hH hS [0, 1, 2, 3, 4, 5, 6] rfl 7 rfl (List.Perm.refl _) 6 0 rfl rfl rfl hl.1 rfl (Nat.le_of_ble_eq_true rfl) dX6_rolesInScene_2 ⟨Nat.le_of_ble_eq_true rfl, Nat.le_of_ble_eq_true rfl⟩ (fun z2 _ H locs hp3 hH hS => ?_)
  have hH : Hold X A [mO h Q km ln sp rs, aW X (Q 0) 125 s, aW X (Q 1) 125 rd, aW X (Q 2) 625 kp, aW X (Q 3) 400 tx, aW X (Q 4) 8 wi, aW X (Q 5) 8 gi].flatten H := hH
  rcases hp3 with ⟨rfl, b_2⟩ | ⟨rfl, b_2⟩
  · refine zv_top (z := 1) (z2 := ((1 : Nat) : Int)) rfl ?_
    refine zv_if_ne (tgt := 12) S dX6_rolesInScene_5 (by decide) (by decide) (fun c_5 => ?_) (fun c_5 => ?_)
    · skip
      refine lv_iconst (v := iI (((0 : Nat) : Int))) S.1 S.2.1 dX6_rolesInScene_12 (by decide) ?_
      refine lv_istore_n (lv' := [(2, .int (iI ((0 : Nat) : Int))), (0, .ref (h)), (1, .int (iI (c0)))]) S.1 S.2.1 dX6_rolesInScene_13 rfl hl (by decide) rfl (fun ls hl => ?_)
      refine lv_iconst (v := iI (((0 : Nat) : Int))) S.1 S.2.1 dX6_rolesInScene_14 (by decide) ?_
      refine lv_istore_n (lv' := [(3, .int (iI ((0 : Nat) : Int))), (2, .int (iI ((0 : Nat) : Int))), (0, .ref (h)), (1, .int (iI (c0)))]) S.1 S.2.1 dX6_rolesInScene_15 rfl hl (by decide) rfl (fun ls hl => ?_)
      have lp16 : ∀ (fu_ : Nat) (a : Nat) (set : Nat), na s - a < fu_ → (a ≤ na s) → (set = ris s c0 a) → ∀ (H : Heap) (locs : List Loc), Hold X A [mO h Q km ln sp rs, aW X (Q 0) 125 s, aW X (Q 1) 125 rd, aW X (Q 2) 625 kp, aW X (Q 3) 400 tx, aW X (Q 4) 8 wi, aW X (Q 5) 8 gi].flatten H → va_S A s_.heap H locs → ∀ ls : Array Slot, lv_has ls 4 [(3, .int (iI ((a : Nat) : Int))), (2, .int (iI ((set : Nat) : Int))), (0, .ref (h)), (1, .int (iI (c0)))] → W p_ l e_ (rmD 3) s_ m_ (List.toArray [.ref (h), .int (iI (c0))]) below meth c_ H locs 0 0 Q_ (F0 m_ 16 ls []) := by
        intro fu_
        induction fu_ with
        | zero => intro a set hmu hi hset H locs hH hS ls hl; exact absurd hmu (Nat.not_lt_zero _)
        | succ fu_ ih16 => 
          intro a set hmu hi hset H locs hH hS ls hl
          refine lv_iload_n S.1 S.2.1 dX6_rolesInScene_16 rfl (lv_at hl 0 rfl) ?_
          refine lv_aload_n S.1 S.2.1 dX6_rolesInScene_17 rfl (lv_at hl 2 rfl) ?_
          refine zv_get (v := .ref (Q 0)) S hAM hH nX6_rolesInScene_X6 0 rfl rfl 0 (by decide) mX6_rolesInScene_1 rfl rfl dX6_rolesInScene_18 ?_
          refine lv_bipush (v := iI (((44 : Nat) : Int))) S.1 S.2.1 dX6_rolesInScene_21 (by decide) ?_
          refine zv_iald S hAM hH 1 rfl (44) rfl (by decide) (by decide) dX6_rolesInScene_23 ?_
          refine zv_top (z := s 44) (z2 := ((na s : Nat) : Int)) hs.e44 ?_
          refine zv_icmp_ge (tgt := 64) S dX6_rolesInScene_24 (by decide) (by omega) (by omega) (fun c_24 => ?_) (fun c_24 => ?_)
          · skip
            refine lv_iload_n S.1 S.2.1 dX6_rolesInScene_64 rfl (lv_at hl 1 rfl) ?_
            exact hret 65 ls _ _ (((set : Nat) : Int)) () dX6_rolesInScene_65 rfl (by have e9 : a = na s := (by omega); rw [hset, e9, if_pos (by omega)]) hH hS
          · skip
            refine lv_iload_n S.1 S.2.1 dX6_rolesInScene_27 rfl (lv_at hl 1 rfl) ?_
            refine lv_aload_n S.1 S.2.1 dX6_rolesInScene_28 rfl (lv_at hl 2 rfl) ?_
            refine zv_get (v := .ref (Q 0)) S hAM hH nX6_rolesInScene_X6 0 rfl rfl 0 (by decide) mX6_rolesInScene_1 rfl rfl dX6_rolesInScene_29 ?_
            refine lv_bipush (v := iI (((45 : Nat) : Int))) S.1 S.2.1 dX6_rolesInScene_32 (by decide) ?_
            refine lv_iconst (v := iI (((4 : Nat) : Int))) S.1 S.2.1 dX6_rolesInScene_34 (by decide) ?_
            refine lv_iload_n S.1 S.2.1 dX6_rolesInScene_35 rfl (lv_at hl 0 rfl) ?_
            refine zv_imul (z := (((4 * a) : Nat) : Int)) S dX6_rolesInScene_36 (by omega) ?_
            refine zv_iadd (z := (((45 + (4 * a)) : Nat) : Int)) S dX6_rolesInScene_37 (by omega) ?_
            refine lv_iconst (v := iI (((1 : Nat) : Int))) S.1 S.2.1 dX6_rolesInScene_38 (by decide) ?_
            refine zv_iadd (z := ((((45 + (4 * a)) + 1) : Nat) : Int)) S dX6_rolesInScene_39 (by omega) ?_
            refine zv_iald S hAM hH 1 rfl (((45 + (4 * a)) + 1)) rfl (by omega) (by decide) dX6_rolesInScene_40 ?_
            refine lv_iload_n S.1 S.2.1 dX6_rolesInScene_41 rfl (lv_at hl 3 rfl) ?_
            refine zv_icmp_ne (tgt := 55) S dX6_rolesInScene_42 (by decide) (hs.inRk _ (by omega)) (by omega) (fun c_42 => ?_) (fun c_42 => ?_)
            · skip
              refine lv_iconst (v := iI (((0 : Nat) : Int))) S.1 S.2.1 dX6_rolesInScene_55 (by decide) ?_
              refine zv_ior (z := ((set : Nat) : Int)) S dX6_rolesInScene_56 (by rw [iI_or, Nat.or_zero]) ?_
              refine lv_istore_n (lv' := [(2, .int (iI ((set : Nat) : Int))), (3, .int (iI ((a : Nat) : Int))), (0, .ref (h)), (1, .int (iI (c0)))]) S.1 S.2.1 dX6_rolesInScene_57 rfl hl (by decide) rfl (fun ls hl => ?_)
              refine zv_iinc (z := (((a + 1) : Nat) : Int)) (lv' := [(3, .int (iI (((a + 1) : Nat) : Int))), (2, .int (iI ((set : Nat) : Int))), (0, .ref (h)), (1, .int (iI (c0)))]) S dX6_rolesInScene_58 hl (k := 1) rfl (by omega) (by decide) rfl (fun ls hl => ?_)
              refine lv_goto (tgt := 16) S.1 S.2.1 dX6_rolesInScene_61 (by decide) ?_
              exact ih16  ((a + 1)) (set) (by omega) (by omega) (by rw [ris]; split <;> first | (rw [hset]; done) | (exfalso; omega)) _ _ hH hS ls (lv_sub hl [0, 1, 2, 3] rfl)
            · skip
              refine lv_iconst (v := iI (((1 : Nat) : Int))) S.1 S.2.1 dX6_rolesInScene_45 (by decide) ?_
              refine lv_aload_n S.1 S.2.1 dX6_rolesInScene_46 rfl (lv_at hl 2 rfl) ?_
              refine lv_iload_n S.1 S.2.1 dX6_rolesInScene_47 rfl (lv_at hl 0 rfl) ?_
              refine zc_Vi (n := 1) (As := [.int (iI ((a : Nat) : Int))]) (rest := [.int (iI ((1 : Nat) : Int)), .int (iI ((set : Nat) : Int))]) S hAM hA (kX6_roleOf l X h Q s rd kp km tx ln sp rs wi gi a hs (by omega)) rfl gX6_rolesInScene_X6_roleOf  (by decide +kernel) ⟨Nat.le_of_ble_eq_true rfl, Nat.le_of_ble_eq_true rfl⟩ hH hS [0, 1, 2, 3, 4, 5, 6] rfl 7 rfl (List.Perm.refl _) 6 0 rfl rfl rfl hl.1 rfl (Nat.le_of_ble_eq_true rfl) dX6_rolesInScene_48 ⟨Nat.le_of_ble_eq_true rfl, Nat.le_of_ble_eq_true rfl⟩ (fun z5 _ H locs hp6 hH hS => ?_)
              have hH : Hold X A [mO h Q km ln sp rs, aW X (Q 0) 125 s, aW X (Q 1) 125 rd, aW X (Q 2) 625 kp, aW X (Q 3) 400 tx, aW X (Q 4) 8 wi, aW X (Q 5) 8 gi].flatten H := hH
              obtain rfl := hp6
              refine zv_ishl (z := (((2 ^ (rl s a)) : Nat) : Int)) S dX6_rolesInScene_51 (iI_shl1 _ (by have := hs.rl8 a (by omega); omega)) ?_
              refine lv_goto (tgt := 56) S.1 S.2.1 dX6_rolesInScene_52 (by decide) ?_
              refine zv_ior (z := (((set ||| (2 ^ (rl s a))) : Nat) : Int)) S dX6_rolesInScene_56 (iI_or _ _) ?_
              refine lv_istore_n (lv' := [(2, .int (iI (((set ||| (2 ^ (rl s a))) : Nat) : Int))), (3, .int (iI ((a : Nat) : Int))), (0, .ref (h)), (1, .int (iI (c0)))]) S.1 S.2.1 dX6_rolesInScene_57 rfl hl (by decide) rfl (fun ls hl => ?_)
              refine zv_iinc (z := (((a + 1) : Nat) : Int)) (lv' := [(3, .int (iI (((a + 1) : Nat) : Int))), (2, .int (iI (((set ||| (2 ^ (rl s a))) : Nat) : Int))), (0, .ref (h)), (1, .int (iI (c0)))]) S dX6_rolesInScene_58 hl (k := 1) rfl (by omega) (by decide) rfl (fun ls hl => ?_)
              refine lv_goto (tgt := 16) S.1 S.2.1 dX6_rolesInScene_61 (by decide) ?_
              exact ih16  ((a + 1)) ((set ||| (2 ^ (rl s a)))) (by omega) (by omega) (by rw [ris]; split <;> first | (rw [hset]; done) | (exfalso; omega)) _ _ hH hS ls (lv_sub hl [0, 1, 2, 3] rfl)
      exact lp16 (na s - (0) + 1) (0) (0) (Nat.lt_succ_self _) (Nat.zero_le _) rfl _ _ hH hS ls (lv_sub hl [0, 1, 2, 3] rfl)
    · exact (show False by omega).elim
  · refine zv_top (z := 0) (z2 := ((0 : Nat) : Int)) rfl ?_
    refine zv_if_ne (tgt := 12) S dX6_rolesInScene_5 (by decide) (by decide) (fun c_5 => ?_) (fun c_5 => ?_)
    · exact (show False by omega).elim
    · skip
      refine lv_sipush (v := iI (-1001)) S.1 S.2.1 dX6_rolesInScene_8 (by decide) ?_
      exact hret 11 ls _ _ (-1001) () dX6_rolesInScene_11 rfl (by rw [if_neg (by omega)]) hH hS
