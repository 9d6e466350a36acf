set_option maxHeartbeats 4000000 in
set_option maxRecDepth 100000 in
theorem kX5_isCostumeTime (l : Launch) (X : XT) (r : Int) (hr : inR r) : Ci l yX5_isCostumeTime wsX5_isCostumeTime (rmD 1) X [.int (iI (r))] [] (fun (z : Int) (_ : Unit) => (z = 1 ∧ (0 ≤ r ∧ r ≤ 60)) ∨ (z = 0 ∧ ¬ (0 ≤ r ∧ r ≤ 60))) (fun (_ : Unit) => []) := by
  refine Ci.ofW (cc := cX5_isCostumeTime) (maxL := 1) (by decide) rfl (Nat.le_of_ble_eq_true rfl) ?_
  intro p_ e_ s_ m_ below meth c_ A Q_ S hA hAM hH hS hret ls hl
  have hl : lv_has ls 1 [(0, .int (iI (r)))] := hl
  refine lv_iload_n S.1 S.2.1 dX5_isCostumeTime_0 rfl (lv_at hl 0 rfl) ?_
  refine zv_if_lt (tgt := 14) S dX5_isCostumeTime_1 (by decide) (by omega) (fun c_1 => ?_) (fun c_1 => ?_)
  · skip
    refine lv_iconst (v := iI (((0 : Nat) : Int))) S.1 S.2.1 dX5_isCostumeTime_14 (by decide) ?_
    exact hret 15 ls _ _ (((0 : Nat) : Int)) () dX5_isCostumeTime_15 rfl (by first | exact Or.inl ⟨rfl, by omega⟩ | exact Or.inr ⟨rfl, by omega⟩) hH hS
  · skip
    refine lv_iload_n S.1 S.2.1 dX5_isCostumeTime_4 rfl (lv_at hl 0 rfl) ?_
    refine lv_bipush (v := iI (((60 : Nat) : Int))) S.1 S.2.1 dX5_isCostumeTime_5 (by decide) ?_
    refine zv_icmp_gt (tgt := 14) S dX5_isCostumeTime_7 (by decide) (by omega) (by decide) (fun c_7 => ?_) (fun c_7 => ?_)
    · skip
      refine lv_iconst (v := iI (((0 : Nat) : Int))) S.1 S.2.1 dX5_isCostumeTime_14 (by decide) ?_
      exact hret 15 ls _ _ (((0 : Nat) : Int)) () dX5_isCostumeTime_15 rfl (by first | exact Or.inl ⟨rfl, by omega⟩ | exact Or.inr ⟨rfl, by omega⟩) hH hS
    · skip
      refine lv_iconst (v := iI (((1 : Nat) : Int))) S.1 S.2.1 dX5_isCostumeTime_10 (by decide) ?_
      refine lv_goto (tgt := 15) S.1 S.2.1 dX5_isCostumeTime_11 (by decide) ?_
      exact hret 15 ls _ _ (((1 : Nat) : Int)) () dX5_isCostumeTime_15 rfl (by first | exact Or.inl ⟨rfl, by omega⟩ | exact Or.inr ⟨rfl, by omega⟩) hH hS

theorem mX2_makeEmpty_1 : Cond.fieldLink RX2 39 "RoleDoublingPlanner$Play" "scenes" "I" ∈ wsX2_makeEmpty := List.mem_of_getElem? (i := 1) rfl
theorem nX2_makeEmpty_X2 : ∀ w ∈ wsX20, w ∈ wsX2_makeEmpty := fun _ h => List.mem_cons_of_mem _ (List.mem_append_right _ h)
theorem mX2_makeEmpty_2 : Cond.fieldLink RX2 43 "RoleDoublingPlanner$Play" "roles" "I" ∈ wsX2_makeEmpty := List.mem_of_getElem? (i := 2) rfl
theorem mX2_makeEmpty_3 : Cond.fieldLink RX2 46 "RoleDoublingPlanner$Play" "appearances" "I" ∈ wsX2_makeEmpty := List.mem_of_getElem? (i := 3) rfl
set_option maxHeartbeats 4000000 in
set_option maxRecDepth 100000 in
theorem kX2_makeEmpty (l : Launch) (X : XT) (q : Nat) (Qp : Nat → Nat) (sc : Int) (ro : Int) (ap : Int)  : Cv l yX2_makeEmpty wsX2_makeEmpty (rmD 1) X [.ref q] [poW q Qp sc ro ap] (fun (_ : Unit) => True) (fun (_ : Unit) => [poW q Qp ((0 : Nat) : Int) ((0 : Nat) : Int) ((0 : Nat) : Int)]) := by
  refine Cv.ofW (cc := cX2_makeEmpty) (maxL := 1) (by decide) rfl (Nat.le_of_ble_eq_true rfl) ?_
  intro p_ e_ s_ m_ below meth c_ A Q_ S hA hAM hH hS hmn hret ls hl
  have hl : lv_has ls 1 [(0, .ref (q))] := hl
  refine lv_aload_n S.1 S.2.1 dX2_makeEmpty_0 rfl (lv_at hl 0 rfl) ?_
  refine lv_iconst (v := iI (((0 : Nat) : Int))) S.1 S.2.1 dX2_makeEmpty_1 (by decide) ?_
  refine zv_put (v := .int (iI ((0 : Nat) : Int))) (w2 := [poW q Qp ((0 : Nat) : Int) ro ap].flatten) S hAM hH hS nX2_makeEmpty_X2 tyX2 tyX2_ok nmX2 0 rfl rfl 0 (by decide) mX2_makeEmpty_1 rfl rfl rfl rfl (Nat.le_of_ble_eq_true rfl) rfl dX2_makeEmpty_2 (fun H locs hH hS => ?_)
  refine lv_aload_n S.1 S.2.1 dX2_makeEmpty_5 rfl (lv_at hl 0 rfl) ?_
  refine lv_iconst (v := iI (((0 : Nat) : Int))) S.1 S.2.1 dX2_makeEmpty_6 (by decide) ?_
  refine zv_put (v := .int (iI ((0 : Nat) : Int))) (w2 := [poW q Qp ((0 : Nat) : Int) ((0 : Nat) : Int) ap].flatten) S hAM hH hS nX2_makeEmpty_X2 tyX2 tyX2_ok nmX2 0 rfl rfl 1 (by decide) mX2_makeEmpty_2 rfl rfl rfl rfl (Nat.le_of_ble_eq_true rfl) rfl dX2_makeEmpty_7 (fun H locs hH hS => ?_)
  refine lv_aload_n S.1 S.2.1 dX2_makeEmpty_10 rfl (lv_at hl 0 rfl) ?_
  refine lv_iconst (v := iI (((0 : Nat) : Int))) S.1 S.2.1 dX2_makeEmpty_11 (by decide) ?_
  refine zv_put (v := .int (iI ((0 : Nat) : Int))) (w2 := [poW q Qp ((0 : Nat) : Int) ((0 : Nat) : Int) ((0 : Nat) : Int)].flatten) S hAM hH hS nX2_makeEmpty_X2 tyX2 tyX2_ok nmX2 0 rfl rfl 2 (by decide) mX2_makeEmpty_3 rfl rfl rfl rfl (Nat.le_of_ble_eq_true rfl) rfl dX2_makeEmpty_12 (fun H locs hH hS => ?_)
  exact hret 15 ls _ _ () dX2_makeEmpty_15 trivial hH hS

theorem mX2_hasRole_1 : Cond.fieldLink RX2 43 "RoleDoublingPlanner$Play" "roles" "I" ∈ wsX2_hasRole := List.mem_of_getElem? (i := 1) rfl
theorem nX2_hasRole_X2 : ∀ w ∈ wsX20, w ∈ wsX2_hasRole := fun _ h => List.mem_cons_of_mem _ (List.mem_append_right _ h)
set_option maxHeartbeats 4000000 in
set_option maxRecDepth 100000 in
theorem kX2_hasRole (l : Launch) (X : XT) (q : Nat) (Qp : Nat → Nat) (v : Nat → Int) (sl : Nat → Int) (vo : Nat → Int) (ou : Nat → Int) (inn : Nat → Int) (ac : Nat → Int) (ag : Nat → Int) (ai : Nat → Int) (et : Nat → Int) (xt : Nat → Int) (r : Int) (hv : okR v) (hP : PA v sl vo ou inn ac ag ai et xt) (hr : inR r) : Ci l yX2_hasRole wsX2_hasRole (rmD 1) X [.ref q, .int (iI (r))] [poW q Qp ((ns v : Nat) : Int) ((nr v : Nat) : Int) ((na v : Nat) : Int), aW X (Qp 0) 10 sl, aW X (Qp 1) 8 vo, aW X (Qp 2) 8 ou, aW X (Qp 3) 8 inn, aW X (Qp 4) 8 ac, aW X (Qp 5) 20 ag, aW X (Qp 6) 20 ai, aW X (Qp 7) 20 et, aW X (Qp 8) 20 xt] (fun (z : Int) (_ : Unit) => (z = 1 ∧ (0 ≤ r ∧ r < ((nr v : Nat) : Int))) ∨ (z = 0 ∧ ¬ (0 ≤ r ∧ r < ((nr v : Nat) : Int)))) (fun (_ : Unit) => [poW q Qp ((ns v : Nat) : Int) ((nr v : Nat) : Int) ((na v : Nat) : Int), aW X (Qp 0) 10 sl, aW X (Qp 1) 8 vo, aW X (Qp 2) 8 ou, aW X (Qp 3) 8 inn, aW X (Qp 4) 8 ac, aW X (Qp 5) 20 ag, aW X (Qp 6) 20 ai, aW X (Qp 7) 20 et, aW X (Qp 8) 20 xt]) := by
  refine Ci.ofW (cc := cX2_hasRole) (maxL := 2) (by decide) rfl (Nat.le_of_ble_eq_true rfl) ?_
  intro p_ e_ s_ m_ below meth c_ A Q_ S hA hAM hH hS hret ls hl
  have hl : lv_has ls 2 [(0, .ref (q)), (1, .int (iI (r)))] := hl
  have hk1 := hv.nr8
  have hk2 := hv.na20
  have hk3 := hv.ns10
  refine lv_iload_n S.1 S.2.1 dX2_hasRole_0 rfl (lv_at hl 1 rfl) ?_
  refine zv_if_lt (tgt := 16) S dX2_hasRole_1 (by decide) (by omega) (fun c_1 => ?_) (fun c_1 => ?_)
  · skip
    refine lv_iconst (v := iI (((0 : Nat) : Int))) S.1 S.2.1 dX2_hasRole_16 (by decide) ?_
    exact hret 17 ls _ _ (((0 : Nat) : Int)) () dX2_hasRole_17 rfl (by first | exact Or.inl ⟨rfl, by omega⟩ | exact Or.inr ⟨rfl, by omega⟩) hH hS
  · skip
    refine lv_iload_n S.1 S.2.1 dX2_hasRole_4 rfl (lv_at hl 1 rfl) ?_
    refine lv_aload_n S.1 S.2.1 dX2_hasRole_5 rfl (lv_at hl 0 rfl) ?_
    refine zv_get (v := .int (iI ((nr v : Nat) : Int))) S hAM hH nX2_hasRole_X2 0 rfl rfl 1 (by decide) mX2_hasRole_1 rfl rfl dX2_hasRole_6 ?_
    refine zv_icmp_ge (tgt := 16) S dX2_hasRole_9 (by decide) (by omega) (by omega) (fun c_9 => ?_) (fun c_9 => ?_)
    · skip
      refine lv_iconst (v := iI (((0 : Nat) : Int))) S.1 S.2.1 dX2_hasRole_16 (by decide) ?_
      exact hret 17 ls _ _ (((0 : Nat) : Int)) () dX2_hasRole_17 rfl (by first | exact Or.inl ⟨rfl, by omega⟩ | exact Or.inr ⟨rfl, by omega⟩) hH hS
    · skip
      refine lv_iconst (v := iI (((1 : Nat) : Int))) S.1 S.2.1 dX2_hasRole_12 (by decide) ?_
      refine lv_goto (tgt := 17) S.1 S.2.1 dX2_hasRole_13 (by decide) ?_
      exact hret 17 ls _ _ (((1 : Nat) : Int)) () dX2_hasRole_17 rfl (by first | exact Or.inl ⟨rfl, by omega⟩ | exact Or.inr ⟨rfl, by omega⟩) hH hS

theorem mX2_hasScene_1 : Cond.fieldLink RX2 39 "RoleDoublingPlanner$Play" "scenes" "I" ∈ wsX2_hasScene := List.mem_of_getElem? (i := 1) rfl
theorem nX2_hasScene_X2 : ∀ w ∈ wsX20, w ∈ wsX2_hasScene := fun _ h => List.mem_cons_of_mem _ (List.mem_append_right _ h)
set_option maxHeartbeats 4000000 in
set_option maxRecDepth 100000 in
theorem kX2_hasScene (l : Launch) (X : XT) (q : Nat) (Qp : Nat → Nat) (v : Nat → Int) (sl : Nat → Int) (vo : Nat → Int) (ou : Nat → Int) (inn : Nat → Int) (ac : Nat → Int) (ag : Nat → Int) (ai : Nat → Int) (et : Nat → Int) (xt : Nat → Int) (r : Int) (hv : okR v) (hP : PA v sl vo ou inn ac ag ai et xt) (hr : inR r) : Ci l yX2_hasScene wsX2_hasScene (rmD 1) X [.ref q, .int (iI (r))] [poW q Qp ((ns v : Nat) : Int) ((nr v : Nat) : Int) ((na v : Nat) : Int), aW X (Qp 0) 10 sl, aW X (Qp 1) 8 vo, aW X (Qp 2) 8 ou, aW X (Qp 3) 8 inn, aW X (Qp 4) 8 ac, aW X (Qp 5) 20 ag, aW X (Qp 6) 20 ai, aW X (Qp 7) 20 et, aW X (Qp 8) 20 xt] (fun (z : Int) (_ : Unit) => (z = 1 ∧ (0 ≤ r ∧ r < ((ns v : Nat) : Int))) ∨ (z = 0 ∧ ¬ (0 ≤ r ∧ r < ((ns v : Nat) : Int)))) (fun (_ : Unit) => [poW q Qp ((ns v : Nat) : Int) ((nr v : Nat) : Int) ((na v : Nat) : Int), aW X (Qp 0) 10 sl, aW X (Qp 1) 8 vo, aW X (Qp 2) 8 ou, aW X (Qp 3) 8 inn, aW X (Qp 4) 8 ac, aW X (Qp 5) 20 ag, aW X (Qp 6) 20 ai, aW X (Qp 7) 20 et, aW X (Qp 8) 20 xt]) := by
  refine Ci.ofW (cc := cX2_hasScene) (maxL := 2) (by decide) rfl (Nat.le_of_ble_eq_true rfl) ?_
  intro p_ e_ s_ m_ below meth c_ A Q_ S hA hAM hH hS hret ls hl
  have hl : lv_has ls 2 [(0, .ref (q)), (1, .int (iI (r)))] := hl
  have hk1 := hv.nr8
  have hk2 := hv.na20
  have hk3 := hv.ns10
  refine lv_iload_n S.1 S.2.1 dX2_hasScene_0 rfl (lv_at hl 1 rfl) ?_
  refine zv_if_lt (tgt := 16) S dX2_hasScene_1 (by decide) (by omega) (fun c_1 => ?_) (fun c_1 => ?_)
  · skip
    refine lv_iconst (v := iI (((0 : Nat) : Int))) S.1 S.2.1 dX2_hasScene_16 (by decide) ?_
    exact hret 17 ls _ _ (((0 : Nat) : Int)) () dX2_hasScene_17 rfl (by first | exact Or.inl ⟨rfl, by omega⟩ | exact Or.inr ⟨rfl, by omega⟩) hH hS
  · skip
    refine lv_iload_n S.1 S.2.1 dX2_hasScene_4 rfl (lv_at hl 1 rfl) ?_
    refine lv_aload_n S.1 S.2.1 dX2_hasScene_5 rfl (lv_at hl 0 rfl) ?_
    refine zv_get (v := .int (iI ((ns v : Nat) : Int))) S hAM hH nX2_hasScene_X2 0 rfl rfl 0 (by decide) mX2_hasScene_1 rfl rfl dX2_hasScene_6 ?_
    refine zv_icmp_ge (tgt := 16) S dX2_hasScene_9 (by decide) (by omega) (by omega) (fun c_9 => ?_) (fun c_9 => ?_)
    · skip
      refine lv_iconst (v := iI (((0 : Nat) : Int))) S.1 S.2.1 dX2_hasScene_16 (by decide) ?_
      exact hret 17 ls _ _ (((0 : Nat) : Int)) () dX2_hasScene_17 rfl (by first | exact Or.inl ⟨rfl, by omega⟩ | exact Or.inr ⟨rfl, by omega⟩) hH hS
    · skip
      refine lv_iconst (v := iI (((1 : Nat) : Int))) S.1 S.2.1 dX2_hasScene_12 (by decide) ?_
      refine lv_goto (tgt := 17) S.1 S.2.1 dX2_hasScene_13 (by decide) ?_
      exact hret 17 ls _ _ (((1 : Nat) : Int)) () dX2_hasScene_17 rfl (by first | exact Or.inl ⟨rfl, by omega⟩ | exact Or.inr ⟨rfl, by omega⟩) hH hS

theorem mX2_admits_1 : Cond.fieldLink RX2 9 "RoleDoublingPlanner$Play" "sceneLength" "[I" ∈ wsX2_admits := List.mem_of_getElem? (i := 1) rfl
theorem nX2_admits_X2 : ∀ w ∈ wsX20, w ∈ wsX2_admits := fun _ h => List.mem_cons_of_mem _ (List.mem_append_right _ h)
set_option maxHeartbeats 4000000 in
set_option maxRecDepth 100000 in
theorem kX2_admits (l : Launch) (X : XT) (q : Nat) (Qp : Nat → Nat) (v : Nat → Int) (sl : Nat → Int) (vo : Nat → Int) (ou : Nat → Int) (inn : Nat → Int) (ac : Nat → Int) (ag : Nat → Int) (ai : Nat → Int) (et : Nat → Int) (xt : Nat → Int) (r : Int) (c : Int) (e : Int) (x : Int) (hv : okR v) (hP : PA v sl vo ou inn ac ag ai et xt) (hr : inR r) (hc : inR c) (he : inR e) (hx : inR x) : Ci l yX2_admits wsX2_admits (rmD 2) X [.ref q, .int (iI (r)), .int (iI (c)), .int (iI (e)), .int (iI (x))] [poW q Qp ((ns v : Nat) : Int) ((nr v : Nat) : Int) ((na v : Nat) : Int), aW X (Qp 0) 10 sl, aW X (Qp 1) 8 vo, aW X (Qp 2) 8 ou, aW X (Qp 3) 8 inn, aW X (Qp 4) 8 ac, aW X (Qp 5) 20 ag, aW X (Qp 6) 20 ai, aW X (Qp 7) 20 et, aW X (Qp 8) 20 xt] (fun (z : Int) (_ : Unit) => (z = 1 ∧ (((0 ≤ r ∧ r < ((nr v : Nat) : Int)) ∧ (0 ≤ c ∧ c < ((ns v : Nat) : Int))) ∧ (0 ≤ e ∧ e < x ∧ x ≤ v (1 + c.toNat)))) ∨ (z = 0 ∧ ¬ (((0 ≤ r ∧ r < ((nr v : Nat) : Int)) ∧ (0 ≤ c ∧ c < ((ns v : Nat) : Int))) ∧ (0 ≤ e ∧ e < x ∧ x ≤ v (1 + c.toNat))))) (fun (_ : Unit) => [poW q Qp ((ns v : Nat) : Int) ((nr v : Nat) : Int) ((na v : Nat) : Int), aW X (Qp 0) 10 sl, aW X (Qp 1) 8 vo, aW X (Qp 2) 8 ou, aW X (Qp 3) 8 inn, aW X (Qp 4) 8 ac, aW X (Qp 5) 20 ag, aW X (Qp 6) 20 ai, aW X (Qp 7) 20 et, aW X (Qp 8) 20 xt]) := by
  refine Ci.ofW (cc := cX2_admits) (maxL := 5) (by decide) rfl (Nat.le_of_ble_eq_true rfl) ?_
  intro p_ e_ s_ m_ below meth c_ A Q_ S hA hAM hH hS hret ls hl
  have hl : lv_has ls 5 [(0, .ref (q)), (1, .int (iI (r))), (2, .int (iI (c))), (3, .int (iI (e))), (4, .int (iI (x)))] := hl
  have hk1 := hv.nr8
  have hk2 := hv.na20
  have hk3 := hv.ns10
  refine lv_aload_n S.1 S.2.1 dX2_admits_0 rfl (lv_at hl 0 rfl) ?_
  refine lv_iload_n S.1 S.2.1 dX2_admits_1 rfl (lv_at hl 1 rfl) ?_
  refine zc_Vi (n := 1) (As := [.int (iI (r))]) (rest := []) S hAM hA (kX2_hasRole l X q Qp v sl vo ou inn ac ag ai et xt r hv hP (by omega)) rfl gX2_admits_X2_hasRole  (by decide +kernel) ⟨Nat.le_of_ble_eq_true rfl, Nat.le_of_ble_eq_true rfl⟩ hH hS [0, 1, 2, 3, 4, 5, 6, 7, 8, 9] rfl 10 rfl (List.Perm.refl _) 2 0 rfl rfl rfl hl.1 rfl (Nat.le_of_ble_eq_true rfl) dX2_admits_2 ⟨Nat.le_of_ble_eq_true rfl, Nat.le_of_ble_eq_true rfl⟩ (fun z2 _ H locs hp3 hH hS => ?_)
  have hH : Hold X A [poW q Qp ((ns v : Nat) : Int) ((nr v : Nat) : Int) ((na v : Nat) : Int), aW X (Qp 0) 10 sl, aW X (Qp 1) 8 vo, aW X (Qp 2) 8 ou, aW X (Qp 3) 8 inn, aW X (Qp 4) 8 ac, aW X (Qp 5) 20 ag, aW X (Qp 6) 20 ai, aW X (Qp 7) 20 et, aW X (Qp 8) 20 xt].flatten H := hH
  rcases hp3 with ⟨rfl, b_2⟩ | ⟨rfl, b_2⟩
  · refine zv_top (z := 1) (z2 := ((1 : Nat) : Int)) rfl ?_
    refine zv_if_eq (tgt := 41) S dX2_admits_5 (by decide) (by decide) (fun c_5 => ?_) (fun c_5 => ?_)
    · exact (show False by omega).elim
    · skip
      refine lv_aload_n S.1 S.2.1 dX2_admits_8 rfl (lv_at hl 0 rfl) ?_
      refine lv_iload_n S.1 S.2.1 dX2_admits_9 rfl (lv_at hl 2 rfl) ?_
      refine zc_Vi (n := 1) (As := [.int (iI (c))]) (rest := []) S hAM hA (kX2_hasScene l X q Qp v sl vo ou inn ac ag ai et xt c hv hP (by omega)) rfl gX2_admits_X2_hasScene  (by decide +kernel) ⟨Nat.le_of_ble_eq_true rfl, Nat.le_of_ble_eq_true rfl⟩ hH hS [0, 1, 2, 3, 4, 5, 6, 7, 8, 9] rfl 10 rfl (List.Perm.refl _) 2 0 rfl rfl rfl hl.1 rfl (Nat.le_of_ble_eq_true rfl) dX2_admits_10 ⟨Nat.le_of_ble_eq_true rfl, Nat.le_of_ble_eq_true rfl⟩ (fun z5 _ H locs hp6 hH hS => ?_)
      have hH : Hold X A [poW q Qp ((ns v : Nat) : Int) ((nr v : Nat) : Int) ((na v : Nat) : Int), aW X (Qp 0) 10 sl, aW X (Qp 1) 8 vo, aW X (Qp 2) 8 ou, aW X (Qp 3) 8 inn, aW X (Qp 4) 8 ac, aW X (Qp 5) 20 ag, aW X (Qp 6) 20 ai, aW X (Qp 7) 20 et, aW X (Qp 8) 20 xt].flatten H := hH
      rcases hp6 with ⟨rfl, b_10⟩ | ⟨rfl, b_10⟩
      · refine zv_top (z := 1) (z2 := ((1 : Nat) : Int)) rfl ?_
        obtain ⟨cn, rfl⟩ : ∃ cn : Nat, c = ((cn : Nat) : Int) := ⟨c.toNat, by omega⟩
        refine zv_if_eq (tgt := 41) S dX2_admits_13 (by decide) (by decide) (fun c_13 => ?_) (fun c_13 => ?_)
        · exact (show False by omega).elim
        · skip
          refine lv_iload_n S.1 S.2.1 dX2_admits_16 rfl (lv_at hl 3 rfl) ?_
          refine zv_if_lt (tgt := 41) S dX2_admits_17 (by decide) (by omega) (fun c_17 => ?_) (fun c_17 => ?_)
          · skip
            refine lv_iconst (v := iI (((0 : Nat) : Int))) S.1 S.2.1 dX2_admits_41 (by decide) ?_
            exact hret 42 ls _ _ (((0 : Nat) : Int)) () dX2_admits_42 rfl (by (try rw [Int.toNat_natCast]); first | exact Or.inl ⟨rfl, by omega⟩ | exact Or.inr ⟨rfl, by omega⟩) hH hS
          · skip
            refine lv_iload_n S.1 S.2.1 dX2_admits_20 rfl (lv_at hl 3 rfl) ?_
            refine lv_iload S.1 S.2.1 dX2_admits_21 (lv_at hl 4 rfl) ?_
            refine zv_icmp_ge (tgt := 41) S dX2_admits_23 (by decide) (by omega) (by omega) (fun c_23 => ?_) (fun c_23 => ?_)
            · skip
              refine lv_iconst (v := iI (((0 : Nat) : Int))) S.1 S.2.1 dX2_admits_41 (by decide) ?_
              exact hret 42 ls _ _ (((0 : Nat) : Int)) () dX2_admits_42 rfl (by (try rw [Int.toNat_natCast]); first | exact Or.inl ⟨rfl, by omega⟩ | exact Or.inr ⟨rfl, by omega⟩) hH hS
            · skip
              refine lv_iload S.1 S.2.1 dX2_admits_26 (lv_at hl 4 rfl) ?_
              refine lv_aload_n S.1 S.2.1 dX2_admits_28 rfl (lv_at hl 0 rfl) ?_
              refine zv_get (v := .ref (Qp 0)) S hAM hH nX2_admits_X2 0 rfl rfl 3 (by decide) mX2_admits_1 rfl rfl dX2_admits_29 ?_
              refine lv_iload_n S.1 S.2.1 dX2_admits_32 rfl (lv_at hl 2 rfl) ?_
              refine zv_iald S hAM hH 1 rfl (cn) rfl (by omega) (by decide) dX2_admits_33 ?_
              refine zv_top (z := sl cn) (z2 := v (1 + cn)) (hP.1 cn (by omega)) ?_
              refine zv_icmp_gt (tgt := 41) S dX2_admits_34 (by decide) (by omega) (hv.inRk _ (by omega)) (fun c_34 => ?_) (fun c_34 => ?_)
              · skip
                refine lv_iconst (v := iI (((0 : Nat) : Int))) S.1 S.2.1 dX2_admits_41 (by decide) ?_
                exact hret 42 ls _ _ (((0 : Nat) : Int)) () dX2_admits_42 rfl (by (try rw [Int.toNat_natCast]); first | exact Or.inl ⟨rfl, by omega⟩ | exact Or.inr ⟨rfl, by omega⟩) hH hS
              · skip
                refine lv_iconst (v := iI (((1 : Nat) : Int))) S.1 S.2.1 dX2_admits_37 (by decide) ?_
                refine lv_goto (tgt := 42) S.1 S.2.1 dX2_admits_38 (by decide) ?_
                exact hret 42 ls _ _ (((1 : Nat) : Int)) () dX2_admits_42 rfl (by (try rw [Int.toNat_natCast]); first | exact Or.inl ⟨rfl, by omega⟩ | exact Or.inr ⟨rfl, by omega⟩) hH hS
      · refine zv_top (z := 0) (z2 := ((0 : Nat) : Int)) rfl ?_
        refine zv_if_eq (tgt := 41) S dX2_admits_13 (by decide) (by decide) (fun c_13 => ?_) (fun c_13 => ?_)
        · skip
          refine lv_iconst (v := iI (((0 : Nat) : Int))) S.1 S.2.1 dX2_admits_41 (by decide) ?_
          exact hret 42 ls _ _ (((0 : Nat) : Int)) () dX2_admits_42 rfl (by (try rw [Int.toNat_natCast]); first | exact Or.inl ⟨rfl, by omega⟩ | exact Or.inr ⟨rfl, by omega⟩) hH hS
        · exact (show False by omega).elim
  · refine zv_top (z := 0) (z2 := ((0 : Nat) : Int)) rfl ?_
    refine zv_if_eq (tgt := 41) S dX2_admits_5 (by decide) (by decide) (fun c_5 => ?_) (fun c_5 => ?_)
    · skip
      refine lv_iconst (v := iI (((0 : Nat) : Int))) S.1 S.2.1 dX2_admits_41 (by decide) ?_
      exact hret 42 ls _ _ (((0 : Nat) : Int)) () dX2_admits_42 rfl (by (try rw [Int.toNat_natCast]); first | exact Or.inl ⟨rfl, by omega⟩ | exact Or.inr ⟨rfl, by omega⟩) hH hS
    · exact (show False by omega).elim

theorem mX2_startOf_1 : Cond.fieldLink RX2 39 "RoleDoublingPlanner$Play" "scenes" "I" ∈ wsX2_startOf := List.mem_of_getElem? (i := 1) rfl
theorem nX2_startOf_X2 : ∀ w ∈ wsX20, w ∈ wsX2_startOf := fun _ h => List.mem_cons_of_mem _ (List.mem_append_right _ h)
theorem mX2_startOf_2 : Cond.fieldLink RX2 9 "RoleDoublingPlanner$Play" "sceneLength" "[I" ∈ wsX2_startOf := List.mem_of_getElem? (i := 2) rfl
set_option maxHeartbeats 4000000 in
set_option maxRecDepth 100000 in
theorem kX2_startOf (l : Launch) (X : XT) (q : Nat) (Qp : Nat → Nat) (v : Nat → Int) (sl : Nat → Int) (vo : Nat → Int) (ou : Nat → Int) (inn : Nat → Int) (ac : Nat → Int) (ag : Nat → Int) (ai : Nat → Int) (et : Nat → Int) (xt : Nat → Int) (k : Nat) (hv : okR v) (hP : PA v sl vo ou inn ac ag ai et xt) (hk : k ≤ ns v) : Ci l yX2_startOf wsX2_startOf (rmD 1) X [.ref q, .int (iI ((k : Nat) : Int))] [poW q Qp ((ns v : Nat) : Int) ((nr v : Nat) : Int) ((na v : Nat) : Int), aW X (Qp 0) 10 sl, aW X (Qp 1) 8 vo, aW X (Qp 2) 8 ou, aW X (Qp 3) 8 inn, aW X (Qp 4) 8 ac, aW X (Qp 5) 20 ag, aW X (Qp 6) 20 ai, aW X (Qp 7) 20 et, aW X (Qp 8) 20 xt] (fun (z : Int) (_ : Unit) => z = st v k) (fun (_ : Unit) => [poW q Qp ((ns v : Nat) : Int) ((nr v : Nat) : Int) ((na v : Nat) : Int), aW X (Qp 0) 10 sl, aW X (Qp 1) 8 vo, aW X (Qp 2) 8 ou, aW X (Qp 3) 8 inn, aW X (Qp 4) 8 ac, aW X (Qp 5) 20 ag, aW X (Qp 6) 20 ai, aW X (Qp 7) 20 et, aW X (Qp 8) 20 xt]) := by
  refine Ci.ofW (cc := cX2_startOf) (maxL := 4) (by decide) rfl (Nat.le_of_ble_eq_true rfl) ?_
  intro p_ e_ s_ m_ below meth c_ A Q_ S hA hAM hH hS hret ls hl
  have hl : lv_has ls 4 [(0, .ref (q)), (1, .int (iI ((k : Nat) : Int)))] := hl
  have hk1 := hv.nr8
  have hk2 := hv.na20
  have hk3 := hv.ns10
  refine lv_iconst (v := iI (((0 : Nat) : Int))) S.1 S.2.1 dX2_startOf_0 (by decide) ?_
  refine lv_istore_n (lv' := [(2, .int (iI ((0 : Nat) : Int))), (0, .ref (q)), (1, .int (iI ((k : Nat) : Int)))]) S.1 S.2.1 dX2_startOf_1 rfl hl (by decide) rfl (fun ls hl => ?_)
  refine lv_iconst (v := iI (((0 : Nat) : Int))) S.1 S.2.1 dX2_startOf_2 (by decide) ?_
  refine lv_istore_n (lv' := [(3, .int (iI ((0 : Nat) : Int))), (2, .int (iI ((0 : Nat) : Int))), (0, .ref (q)), (1, .int (iI ((k : Nat) : Int)))]) S.1 S.2.1 dX2_startOf_3 rfl hl (by decide) rfl (fun ls hl => ?_)
  have lp4 : ∀ (fu_ : Nat) (i : Nat), k - i < fu_ → (i ≤ k) → ∀ (H : Heap) (locs : List Loc), Hold X A [poW q Qp ((ns v : Nat) : Int) ((nr v : Nat) : Int) ((na v : Nat) : Int), aW X (Qp 0) 10 sl, aW X (Qp 1) 8 vo, aW X (Qp 2) 8 ou, aW X (Qp 3) 8 inn, aW X (Qp 4) 8 ac, aW X (Qp 5) 20 ag, aW X (Qp 6) 20 ai, aW X (Qp 7) 20 et, aW X (Qp 8) 20 xt].flatten H → va_S A s_.heap H locs → ∀ ls : Array Slot, lv_has ls 4 [(3, .int (iI ((i : Nat) : Int))), (2, .int (iI (st v i))), (0, .ref (q)), (1, .int (iI ((k : Nat) : Int)))] → W p_ l e_ (rmD 1) s_ m_ (List.toArray [.ref (q), .int (iI ((k : Nat) : Int))]) below meth c_ H locs 0 0 Q_ (F0 m_ 4 ls []) := by
    intro fu_
    induction fu_ with
    | zero => intro i hmu hi H locs hH hS ls hl; exact absurd hmu (Nat.not_lt_zero _)
    | succ fu_ ih4 => 
      intro i hmu hi H locs hH hS ls hl
      refine lv_iload_n S.1 S.2.1 dX2_startOf_4 rfl (lv_at hl 0 rfl) ?_
      refine lv_iload_n S.1 S.2.1 dX2_startOf_5 rfl (lv_at hl 3 rfl) ?_
      refine zv_icmp_ge (tgt := 32) S dX2_startOf_6 (by decide) (by omega) (by omega) (fun c_6 => ?_) (fun c_6 => ?_)
      · skip
        refine lv_iload_n S.1 S.2.1 dX2_startOf_32 rfl (lv_at hl 1 rfl) ?_
        exact hret 33 ls _ _ (st v i) () dX2_startOf_33 rfl (by have e9 : i = k := (by omega); rw [e9]) hH hS
      · skip
        refine lv_iload_n S.1 S.2.1 dX2_startOf_9 rfl (lv_at hl 0 rfl) ?_
        refine lv_aload_n S.1 S.2.1 dX2_startOf_10 rfl (lv_at hl 2 rfl) ?_
        refine zv_get (v := .int (iI ((ns v : Nat) : Int))) S hAM hH nX2_startOf_X2 0 rfl rfl 0 (by decide) mX2_startOf_1 rfl rfl dX2_startOf_11 ?_
        refine zv_icmp_ge (tgt := 32) S dX2_startOf_14 (by decide) (by omega) (by omega) (fun c_14 => ?_) (fun c_14 => ?_)
        · exact (show False by omega).elim
        · skip
          refine lv_iload_n S.1 S.2.1 dX2_startOf_17 rfl (lv_at hl 1 rfl) ?_
          refine lv_aload_n S.1 S.2.1 dX2_startOf_18 rfl (lv_at hl 2 rfl) ?_
          refine zv_get (v := .ref (Qp 0)) S hAM hH nX2_startOf_X2 0 rfl rfl 3 (by decide) mX2_startOf_2 rfl rfl dX2_startOf_19 ?_
          refine lv_iload_n S.1 S.2.1 dX2_startOf_22 rfl (lv_at hl 0 rfl) ?_
          refine zv_iald S hAM hH 1 rfl (i) rfl (by omega) (by decide) dX2_startOf_23 ?_
          refine zv_top (z := sl i) (z2 := v (1 + i)) (hP.1 i (by omega)) ?_
          refine zv_iadd (z := (st v i + v (1 + i))) S dX2_startOf_24 rfl ?_
          refine lv_istore_n (lv' := [(2, .int (iI ((st v i + v (1 + i))))), (3, .int (iI ((i : Nat) : Int))), (0, .ref (q)), (1, .int (iI ((k : Nat) : Int)))]) S.1 S.2.1 dX2_startOf_25 rfl hl (by decide) rfl (fun ls hl => ?_)
          refine zv_iinc (z := (((i + 1) : Nat) : Int)) (lv' := [(3, .int (iI (((i + 1) : Nat) : Int))), (2, .int (iI ((st v i + v (1 + i))))), (0, .ref (q)), (1, .int (iI ((k : Nat) : Int)))]) S dX2_startOf_26 hl (k := 1) rfl (by omega) (by decide) rfl (fun ls hl => ?_)
          refine lv_goto (tgt := 4) S.1 S.2.1 dX2_startOf_29 (by decide) ?_
          exact ih4  ((i + 1)) (by omega) (by omega) _ _ hH hS ls (lv_sub hl [0, 1, 2, 3] rfl)
  exact lp4 (k - (0) + 1) (0) (Nat.lt_succ_self _) (Nat.zero_le _) _ _ hH hS ls (lv_sub hl [0, 1, 2, 3] rfl)

theorem mX2_rolesAt_1 : Cond.fieldLink RX2 46 "RoleDoublingPlanner$Play" "appearances" "I" ∈ wsX2_rolesAt := List.mem_of_getElem? (i := 1) rfl
theorem nX2_rolesAt_X2 : ∀ w ∈ wsX20, w ∈ wsX2_rolesAt := fun _ h => List.mem_cons_of_mem _ (List.mem_append_right _ h)
theorem mX2_rolesAt_2 : Cond.fieldLink RX2 33 "RoleDoublingPlanner$Play" "enterTime" "[I" ∈ wsX2_rolesAt := List.mem_of_getElem? (i := 2) rfl
theorem mX2_rolesAt_3 : Cond.fieldLink RX2 36 "RoleDoublingPlanner$Play" "exitTime" "[I" ∈ wsX2_rolesAt := List.mem_of_getElem? (i := 3) rfl
theorem mX2_rolesAt_4 : Cond.fieldLink RX2 27 "RoleDoublingPlanner$Play" "appearing" "[I" ∈ wsX2_rolesAt := List.mem_of_getElem? (i := 4) rfl
set_option maxHeartbeats 4000000 in
set_option maxRecDepth 100000 in
theorem kX2_rolesAt (l : Launch) (X : XT) (q : Nat) (Qp : Nat → Nat) (v : Nat → Int) (sl : Nat → Int) (vo : Nat → Int) (ou : Nat → Int) (inn : Nat → Int) (ac : Nat → Int) (ag : Nat → Int) (ai : Nat → Int) (et : Nat → Int) (xt : Nat → Int) (t : Int) (hv : okR v) (hP : PA v sl vo ou inn ac ag ai et xt) (ht : inR t) : Ci l yX2_rolesAt wsX2_rolesAt (rmD 1) X [.ref q, .int (iI (t))] [poW q Qp ((ns v : Nat) : Int) ((nr v : Nat) : Int) ((na v : Nat) : Int), aW X (Qp 0) 10 sl, aW X (Qp 1) 8 vo, aW X (Qp 2) 8 ou, aW X (Qp 3) 8 inn, aW X (Qp 4) 8 ac, aW X (Qp 5) 20 ag, aW X (Qp 6) 20 ai, aW X (Qp 7) 20 et, aW X (Qp 8) 20 xt] (fun (z : Int) (_ : Unit) => z = ((ra v t (na v) : Nat) : Int)) (fun (_ : Unit) => [poW q Qp ((ns v : Nat) : Int) ((nr v : Nat) : Int) ((na v : Nat) : Int), aW X (Qp 0) 10 sl, aW X (Qp 1) 8 vo, aW X (Qp 2) 8 ou, aW X (Qp 3) 8 inn, aW X (Qp 4) 8 ac, aW X (Qp 5) 20 ag, aW X (Qp 6) 20 ai, aW X (Qp 7) 20 et, aW X (Qp 8) 20 xt]) := by
  refine Ci.ofW (cc := cX2_rolesAt) (maxL := 4) (by decide) rfl (Nat.le_of_ble_eq_true rfl) ?_
  intro p_ e_ s_ m_ below meth c_ A Q_ S hA hAM hH hS hret ls hl
  have hl : lv_has ls 4 [(0, .ref (q)), (1, .int (iI (t)))] := hl
  have hk1 := hv.nr8
  have hk2 := hv.na20
  have hk3 := hv.ns10
  refine lv_iconst (v := iI (((0 : Nat) : Int))) S.1 S.2.1 dX2_rolesAt_0 (by decide) ?_
  refine lv_istore_n (lv' := [(2, .int (iI ((0 : Nat) : Int))), (0, .ref (q)), (1, .int (iI (t)))]) S.1 S.2.1 dX2_rolesAt_1 rfl hl (by decide) rfl (fun ls hl => ?_)
  refine lv_iconst (v := iI (((0 : Nat) : Int))) S.1 S.2.1 dX2_rolesAt_2 (by decide) ?_
  refine lv_istore_n (lv' := [(3, .int (iI ((0 : Nat) : Int))), (2, .int (iI ((0 : Nat) : Int))), (0, .ref (q)), (1, .int (iI (t)))]) S.1 S.2.1 dX2_rolesAt_3 rfl hl (by decide) rfl (fun ls hl => ?_)
  have lp4 : ∀ (fu_ : Nat) (a : Nat) (set : Nat), na v - a < fu_ → (a ≤ na v) → (set = ra v t a) → ∀ (H : Heap) (locs : List Loc), Hold X A [poW q Qp ((ns v : Nat) : Int) ((nr v : Nat) : Int) ((na v : Nat) : Int), aW X (Qp 0) 10 sl, aW X (Qp 1) 8 vo, aW X (Qp 2) 8 ou, aW X (Qp 3) 8 inn, aW X (Qp 4) 8 ac, aW X (Qp 5) 20 ag, aW X (Qp 6) 20 ai, aW X (Qp 7) 20 et, aW X (Qp 8) 20 xt].flatten H → va_S A s_.heap H locs → ∀ ls : Array Slot, lv_has ls 4 [(3, .int (iI ((a : Nat) : Int))), (2, .int (iI ((set : Nat) : Int))), (0, .ref (q)), (1, .int (iI (t)))] → W p_ l e_ (rmD 1) s_ m_ (List.toArray [.ref (q), .int (iI (t))]) below meth c_ H locs 0 0 Q_ (F0 m_ 4 ls []) := by
    intro fu_
    induction fu_ with
    | zero => intro a set hmu hi hset H locs hH hS ls hl; exact absurd hmu (Nat.not_lt_zero _)
    | succ fu_ ih4 => 
      intro a set hmu hi hset H locs hH hS ls hl
      refine lv_iload_n S.1 S.2.1 dX2_rolesAt_4 rfl (lv_at hl 0 rfl) ?_
      refine lv_aload_n S.1 S.2.1 dX2_rolesAt_5 rfl (lv_at hl 2 rfl) ?_
      refine zv_get (v := .int (iI ((na v : Nat) : Int))) S hAM hH nX2_rolesAt_X2 0 rfl rfl 2 (by decide) mX2_rolesAt_1 rfl rfl dX2_rolesAt_6 ?_
      refine zv_icmp_ge (tgt := 49) S dX2_rolesAt_9 (by decide) (by omega) (by omega) (fun c_9 => ?_) (fun c_9 => ?_)
      · skip
        refine lv_iload_n S.1 S.2.1 dX2_rolesAt_49 rfl (lv_at hl 1 rfl) ?_
        exact hret 50 ls _ _ (((set : Nat) : Int)) () dX2_rolesAt_50 rfl (by have e9 : a = na v := (by omega); rw [hset, e9]) hH hS
      · skip
        refine lv_aload_n S.1 S.2.1 dX2_rolesAt_12 rfl (lv_at hl 2 rfl) ?_
        refine zv_get (v := .ref (Qp 7)) S hAM hH nX2_rolesAt_X2 0 rfl rfl 10 (by decide) mX2_rolesAt_2 rfl rfl dX2_rolesAt_13 ?_
        refine lv_iload_n S.1 S.2.1 dX2_rolesAt_16 rfl (lv_at hl 0 rfl) ?_
        refine zv_iald S hAM hH 8 rfl (a) rfl (by omega) (by decide) dX2_rolesAt_17 ?_
        refine zv_top (z := et a) (z2 := eT v a) (hP.2.2 a (by omega)).2.2.1 ?_
        refine lv_iload_n S.1 S.2.1 dX2_rolesAt_18 rfl (lv_at hl 3 rfl) ?_
        refine zv_icmp_gt (tgt := 43) S dX2_rolesAt_19 (by decide) (hv.eTR _ (by omega)) (by omega) (fun c_19 => ?_) (fun c_19 => ?_)
        · skip
          refine zv_iinc (z := (((a + 1) : Nat) : Int)) (lv' := [(3, .int (iI (((a + 1) : Nat) : Int))), (2, .int (iI ((set : Nat) : Int))), (0, .ref (q)), (1, .int (iI (t)))]) S dX2_rolesAt_43 hl (k := 0) rfl (by omega) (by decide) rfl (fun ls hl => ?_)
          refine lv_goto (tgt := 4) S.1 S.2.1 dX2_rolesAt_46 (by decide) ?_
          exact ih4  ((a + 1)) (set) (by omega) (by omega) (by rw [ra]; split <;> first | (rw [hset]; done) | (exfalso; omega)) _ _ hH hS ls (lv_sub hl [0, 1, 2, 3] rfl)
        · skip
          refine lv_iload_n S.1 S.2.1 dX2_rolesAt_22 rfl (lv_at hl 3 rfl) ?_
          refine lv_aload_n S.1 S.2.1 dX2_rolesAt_23 rfl (lv_at hl 2 rfl) ?_
          refine zv_get (v := .ref (Qp 8)) S hAM hH nX2_rolesAt_X2 0 rfl rfl 11 (by decide) mX2_rolesAt_3 rfl rfl dX2_rolesAt_24 ?_
          refine lv_iload_n S.1 S.2.1 dX2_rolesAt_27 rfl (lv_at hl 0 rfl) ?_
          refine zv_iald S hAM hH 9 rfl (a) rfl (by omega) (by decide) dX2_rolesAt_28 ?_
          refine zv_top (z := xt a) (z2 := xT v a) (hP.2.2 a (by omega)).2.2.2 ?_
          refine zv_icmp_ge (tgt := 43) S dX2_rolesAt_29 (by decide) (by omega) (hv.xTR _ (by omega)) (fun c_29 => ?_) (fun c_29 => ?_)
          · skip
            refine zv_iinc (z := (((a + 1) : Nat) : Int)) (lv' := [(3, .int (iI (((a + 1) : Nat) : Int))), (2, .int (iI ((set : Nat) : Int))), (0, .ref (q)), (1, .int (iI (t)))]) S dX2_rolesAt_43 hl (k := 0) rfl (by omega) (by decide) rfl (fun ls hl => ?_)
            refine lv_goto (tgt := 4) S.1 S.2.1 dX2_rolesAt_46 (by decide) ?_
            exact ih4  ((a + 1)) (set) (by omega) (by omega) (by rw [ra]; split <;> first | (rw [hset]; done) | (exfalso; omega)) _ _ hH hS ls (lv_sub hl [0, 1, 2, 3] rfl)
          · skip
            refine lv_iload_n S.1 S.2.1 dX2_rolesAt_32 rfl (lv_at hl 1 rfl) ?_
            refine lv_iconst (v := iI (((1 : Nat) : Int))) S.1 S.2.1 dX2_rolesAt_33 (by decide) ?_
            refine lv_aload_n S.1 S.2.1 dX2_rolesAt_34 rfl (lv_at hl 2 rfl) ?_
            refine zv_get (v := .ref (Qp 5)) S hAM hH nX2_rolesAt_X2 0 rfl rfl 8 (by decide) mX2_rolesAt_4 rfl rfl dX2_rolesAt_35 ?_
            refine lv_iload_n S.1 S.2.1 dX2_rolesAt_38 rfl (lv_at hl 0 rfl) ?_
            refine zv_iald S hAM hH 6 rfl (a) rfl (by omega) (by decide) dX2_rolesAt_39 ?_
            refine zv_top (z := ag a) (z2 := ((rl v a : Nat) : Int)) ((hP.2.2 a (by omega)).1.trans (hv.rlE a (by omega))) ?_
            refine zv_ishl (z := (((2 ^ (rl v a)) : Nat) : Int)) S dX2_rolesAt_40 (iI_shl1 _ (by have := hv.rl8 a (by omega); omega)) ?_
            refine zv_ior (z := (((set ||| (2 ^ (rl v a))) : Nat) : Int)) S dX2_rolesAt_41 (iI_or _ _) ?_
            refine lv_istore_n (lv' := [(2, .int (iI (((set ||| (2 ^ (rl v a))) : Nat) : Int))), (3, .int (iI ((a : Nat) : Int))), (0, .ref (q)), (1, .int (iI (t)))]) S.1 S.2.1 dX2_rolesAt_42 rfl hl (by decide) rfl (fun ls hl => ?_)
            refine zv_iinc (z := (((a + 1) : Nat) : Int)) (lv' := [(3, .int (iI (((a + 1) : Nat) : Int))), (2, .int (iI (((set ||| (2 ^ (rl v a))) : Nat) : Int))), (0, .ref (q)), (1, .int (iI (t)))]) S dX2_rolesAt_43 hl (k := 1) rfl (by omega) (by decide) rfl (fun ls hl => ?_)
            refine lv_goto (tgt := 4) S.1 S.2.1 dX2_rolesAt_46 (by decide) ?_
            exact ih4  ((a + 1)) ((set ||| (2 ^ (rl v a)))) (by omega) (by omega) (by rw [ra]; split <;> first | (rw [hset]; done) | (exfalso; omega)) _ _ hH hS ls (lv_sub hl [0, 1, 2, 3] rfl)
  exact lp4 (na v - (0) + 1) (0) (0) (Nat.lt_succ_self _) (Nat.zero_le _) rfl _ _ hH hS ls (lv_sub hl [0, 1, 2, 3] rfl)

theorem mX2_rolesWith_1 : Cond.fieldLink RX2 43 "RoleDoublingPlanner$Play" "roles" "I" ∈ wsX2_rolesWith := List.mem_of_getElem? (i := 1) rfl
theorem nX2_rolesWith_X2 : ∀ w ∈ wsX20, w ∈ wsX2_rolesWith := fun _ h => List.mem_cons_of_mem _ (List.mem_append_right _ h)
theorem mX2_rolesWith_2 : Cond.fieldLink RX2 24 "RoleDoublingPlanner$Play" "actor" "[I" ∈ wsX2_rolesWith := List.mem_of_getElem? (i := 2) rfl
set_option maxHeartbeats 4000000 in
set_option maxRecDepth 100000 in
theorem kX2_rolesWith (l : Launch) (X : XT) (q : Nat) (Qp : Nat → Nat) (v : Nat → Int) (sl : Nat → Int) (vo : Nat → Int) (ou : Nat → Int) (inn : Nat → Int) (ac : Nat → Int) (ag : Nat → Int) (ai : Nat → Int) (et : Nat → Int) (xt : Nat → Int) (x : Int) (hv : okR v) (hP : PA v sl vo ou inn ac ag ai et xt) (hx : inR x) : Ci l yX2_rolesWith wsX2_rolesWith (rmD 1) X [.ref q, .int (iI (x))] [poW q Qp ((ns v : Nat) : Int) ((nr v : Nat) : Int) ((na v : Nat) : Int), aW X (Qp 0) 10 sl, aW X (Qp 1) 8 vo, aW X (Qp 2) 8 ou, aW X (Qp 3) 8 inn, aW X (Qp 4) 8 ac, aW X (Qp 5) 20 ag, aW X (Qp 6) 20 ai, aW X (Qp 7) 20 et, aW X (Qp 8) 20 xt] (fun (z : Int) (_ : Unit) => z = ((cb v x (nr v) : Nat) : Int)) (fun (_ : Unit) => [poW q Qp ((ns v : Nat) : Int) ((nr v : Nat) : Int) ((na v : Nat) : Int), aW X (Qp 0) 10 sl, aW X (Qp 1) 8 vo, aW X (Qp 2) 8 ou, aW X (Qp 3) 8 inn, aW X (Qp 4) 8 ac, aW X (Qp 5) 20 ag, aW X (Qp 6) 20 ai, aW X (Qp 7) 20 et, aW X (Qp 8) 20 xt]) := by
  refine Ci.ofW (cc := cX2_rolesWith) (maxL := 4) (by decide) rfl (Nat.le_of_ble_eq_true rfl) ?_
  intro p_ e_ s_ m_ below meth c_ A Q_ S hA hAM hH hS hret ls hl
  have hl : lv_has ls 4 [(0, .ref (q)), (1, .int (iI (x)))] := hl
  have hk1 := hv.nr8
  have hk2 := hv.na20
  have hk3 := hv.ns10
  refine lv_iconst (v := iI (((0 : Nat) : Int))) S.1 S.2.1 dX2_rolesWith_0 (by decide) ?_
  refine lv_istore_n (lv' := [(2, .int (iI ((0 : Nat) : Int))), (0, .ref (q)), (1, .int (iI (x)))]) S.1 S.2.1 dX2_rolesWith_1 rfl hl (by decide) rfl (fun ls hl => ?_)
  refine lv_iconst (v := iI (((0 : Nat) : Int))) S.1 S.2.1 dX2_rolesWith_2 (by decide) ?_
  refine lv_istore_n (lv' := [(3, .int (iI ((0 : Nat) : Int))), (2, .int (iI ((0 : Nat) : Int))), (0, .ref (q)), (1, .int (iI (x)))]) S.1 S.2.1 dX2_rolesWith_3 rfl hl (by decide) rfl (fun ls hl => ?_)
  have lp4 : ∀ (fu_ : Nat) (r : Nat) (set : Nat), nr v - r < fu_ → (r ≤ nr v) → (set = cb v x r) → ∀ (H : Heap) (locs : List Loc), Hold X A [poW q Qp ((ns v : Nat) : Int) ((nr v : Nat) : Int) ((na v : Nat) : Int), aW X (Qp 0) 10 sl, aW X (Qp 1) 8 vo, aW X (Qp 2) 8 ou, aW X (Qp 3) 8 inn, aW X (Qp 4) 8 ac, aW X (Qp 5) 20 ag, aW X (Qp 6) 20 ai, aW X (Qp 7) 20 et, aW X (Qp 8) 20 xt].flatten H → va_S A s_.heap H locs → ∀ ls : Array Slot, lv_has ls 4 [(3, .int (iI ((r : Nat) : Int))), (2, .int (iI ((set : Nat) : Int))), (0, .ref (q)), (1, .int (iI (x)))] → W p_ l e_ (rmD 1) s_ m_ (List.toArray [.ref (q), .int (iI (x))]) below meth c_ H locs 0 0 Q_ (F0 m_ 4 ls []) := by
    intro fu_
    induction fu_ with
    | zero => intro r set hmu hi hset H locs hH hS ls hl; exact absurd hmu (Nat.not_lt_zero _)
    | succ fu_ ih4 => 
      intro r set hmu hi hset H locs hH hS ls hl
      refine lv_iload_n S.1 S.2.1 dX2_rolesWith_4 rfl (lv_at hl 0 rfl) ?_
      refine lv_aload_n S.1 S.2.1 dX2_rolesWith_5 rfl (lv_at hl 2 rfl) ?_
      refine zv_get (v := .int (iI ((nr v : Nat) : Int))) S hAM hH nX2_rolesWith_X2 0 rfl rfl 1 (by decide) mX2_rolesWith_1 rfl rfl dX2_rolesWith_6 ?_
      refine zv_icmp_ge (tgt := 34) S dX2_rolesWith_9 (by decide) (by omega) (by omega) (fun c_9 => ?_) (fun c_9 => ?_)
      · skip
        refine lv_iload_n S.1 S.2.1 dX2_rolesWith_34 rfl (lv_at hl 1 rfl) ?_
        exact hret 35 ls _ _ (((set : Nat) : Int)) () dX2_rolesWith_35 rfl (by have e9 : r = nr v := (by omega); rw [hset, e9]) hH hS
      · skip
        refine lv_aload_n S.1 S.2.1 dX2_rolesWith_12 rfl (lv_at hl 2 rfl) ?_
        refine zv_get (v := .ref (Qp 4)) S hAM hH nX2_rolesWith_X2 0 rfl rfl 7 (by decide) mX2_rolesWith_2 rfl rfl dX2_rolesWith_13 ?_
        refine lv_iload_n S.1 S.2.1 dX2_rolesWith_16 rfl (lv_at hl 0 rfl) ?_
        refine zv_iald S hAM hH 5 rfl (r) rfl (by omega) (by decide) dX2_rolesWith_17 ?_
        refine zv_top (z := ac r) (z2 := v (36 + r)) (hP.2.1 r (by omega)).2.2.2 ?_
        refine lv_iload_n S.1 S.2.1 dX2_rolesWith_18 rfl (lv_at hl 3 rfl) ?_
        refine zv_icmp_ne (tgt := 28) S dX2_rolesWith_19 (by decide) (hv.inRk _ (by omega)) (by omega) (fun c_19 => ?_) (fun c_19 => ?_)
        · skip
          refine zv_iinc (z := (((r + 1) : Nat) : Int)) (lv' := [(3, .int (iI (((r + 1) : Nat) : Int))), (2, .int (iI ((set : Nat) : Int))), (0, .ref (q)), (1, .int (iI (x)))]) S dX2_rolesWith_28 hl (k := 0) rfl (by omega) (by decide) rfl (fun ls hl => ?_)
          refine lv_goto (tgt := 4) S.1 S.2.1 dX2_rolesWith_31 (by decide) ?_
          exact ih4  ((r + 1)) (set) (by omega) (by omega) (by rw [cb]; split <;> first | (rw [hset]; done) | (exfalso; omega)) _ _ hH hS ls (lv_sub hl [0, 1, 2, 3] rfl)
        · skip
          refine lv_iload_n S.1 S.2.1 dX2_rolesWith_22 rfl (lv_at hl 1 rfl) ?_
          refine lv_iconst (v := iI (((1 : Nat) : Int))) S.1 S.2.1 dX2_rolesWith_23 (by decide) ?_
          refine lv_iload_n S.1 S.2.1 dX2_rolesWith_24 rfl (lv_at hl 0 rfl) ?_
          refine zv_ishl (z := (((2 ^ r) : Nat) : Int)) S dX2_rolesWith_25 (iI_shl1 _ (by omega)) ?_
          refine zv_ior (z := (((set ||| (2 ^ r)) : Nat) : Int)) S dX2_rolesWith_26 (iI_or _ _) ?_
          refine lv_istore_n (lv' := [(2, .int (iI (((set ||| (2 ^ r)) : Nat) : Int))), (3, .int (iI ((r : Nat) : Int))), (0, .ref (q)), (1, .int (iI (x)))]) S.1 S.2.1 dX2_rolesWith_27 rfl hl (by decide) rfl (fun ls hl => ?_)
          refine zv_iinc (z := (((r + 1) : Nat) : Int)) (lv' := [(3, .int (iI (((r + 1) : Nat) : Int))), (2, .int (iI (((set ||| (2 ^ r)) : Nat) : Int))), (0, .ref (q)), (1, .int (iI (x)))]) S dX2_rolesWith_28 hl (k := 1) rfl (by omega) (by decide) rfl (fun ls hl => ?_)
          refine lv_goto (tgt := 4) S.1 S.2.1 dX2_rolesWith_31 (by decide) ?_
          exact ih4  ((r + 1)) ((set ||| (2 ^ r))) (by omega) (by omega) (by rw [cb]; split <;> first | (rw [hset]; done) | (exfalso; omega)) _ _ hH hS ls (lv_sub hl [0, 1, 2, 3] rfl)
  exact lp4 (nr v - (0) + 1) (0) (0) (Nat.lt_succ_self _) (Nat.zero_le _) rfl _ _ hH hS ls (lv_sub hl [0, 1, 2, 3] rfl)

theorem mX2_stateScene_1 : Cond.fieldLink RX2 39 "RoleDoublingPlanner$Play" "scenes" "I" ∈ wsX2_stateScene := List.mem_of_getElem? (i := 1) rfl
theorem nX2_stateScene_X2 : ∀ w ∈ wsX20, w ∈ wsX2_stateScene := fun _ h => List.mem_cons_of_mem _ (List.mem_append_right _ h)
theorem mX2_stateScene_2 : Cond.fieldLink RX2 9 "RoleDoublingPlanner$Play" "sceneLength" "[I" ∈ wsX2_stateScene := List.mem_of_getElem? (i := 2) rfl
set_option maxHeartbeats 4000000 in
set_option maxRecDepth 100000 in
theorem kX2_stateScene (l : Launch) (X : XT) (q : Nat) (Qp : Nat → Nat) (v : Nat → Int) (sl : Nat → Int) (vo : Nat → Int) (ou : Nat → Int) (inn : Nat → Int) (ac : Nat → Int) (ag : Nat → Int) (ai : Nat → Int) (et : Nat → Int) (xt : Nat → Int) (x : Int) (hv : okR v) (hP : PA v sl vo ou inn ac ag ai et xt) (hx : 0 ≤ x ∧ x ≤ 999) : Ci l yX2_stateScene wsX2_stateScene (rmD 1) X [.ref q, .int (iI (x))] [poW q Qp ((ns v : Nat) : Int) ((nr v : Nat) : Int) ((na v : Nat) : Int), aW X (Qp 0) 10 sl, aW X (Qp 1) 8 vo, aW X (Qp 2) 8 ou, aW X (Qp 3) 8 inn, aW X (Qp 4) 8 ac, aW X (Qp 5) 20 ag, aW X (Qp 6) 20 ai, aW X (Qp 7) 20 et, aW X (Qp 8) 20 xt] (fun (z : Int) (sl2 : Nat → Int) => z = (((scR v x).1 : Nat) : Int) ∧ PA (scR v x).2 sl2 vo ou inn ac ag ai et xt) (fun (sl2 : Nat → Int) => [poW q Qp ((ns ((scR v x).2) : Nat) : Int) ((nr ((scR v x).2) : Nat) : Int) ((na ((scR v x).2) : Nat) : Int), aW X (Qp 0) 10 sl2, aW X (Qp 1) 8 vo, aW X (Qp 2) 8 ou, aW X (Qp 3) 8 inn, aW X (Qp 4) 8 ac, aW X (Qp 5) 20 ag, aW X (Qp 6) 20 ai, aW X (Qp 7) 20 et, aW X (Qp 8) 20 xt]) := by
  refine Ci.ofW (cc := cX2_stateScene) (maxL := 2) (by decide) rfl (Nat.le_of_ble_eq_true rfl) ?_
  intro p_ e_ s_ m_ below meth c_ A Q_ S hA hAM hH hS hret ls hl
  have hl : lv_has ls 2 [(0, .ref (q)), (1, .int (iI (x)))] := hl
  have hk1 := hv.nr8
  have hk2 := hv.na20
  have hk3 := hv.ns10
  refine lv_iload_n S.1 S.2.1 dX2_stateScene_0 rfl (lv_at hl 1 rfl) ?_
  refine lv_iconst (v := iI (((1 : Nat) : Int))) S.1 S.2.1 dX2_stateScene_1 (by decide) ?_
  refine zv_icmp_lt (tgt := 11) S dX2_stateScene_2 (by decide) (by omega) (by decide) (fun c_2 => ?_) (fun c_2 => ?_)
  · skip
    refine lv_iconst (v := iI (((3 : Nat) : Int))) S.1 S.2.1 dX2_stateScene_11 (by decide) ?_
    have eO : scR v x = (3, v) := by unfold scR; rw [if_neg (by omega)]
    rw [eO] at hret
    dsimp only at hret
    exact hret 12 ls _ _ (((3 : Nat) : Int)) (sl) dX2_stateScene_12 rfl ⟨rfl, hP⟩ hH hS
  · skip
    refine lv_iload_n S.1 S.2.1 dX2_stateScene_5 rfl (lv_at hl 1 rfl) ?_
    refine lv_bipush (v := iI (((99 : Nat) : Int))) S.1 S.2.1 dX2_stateScene_6 (by decide) ?_
    refine zv_icmp_le (tgt := 13) S dX2_stateScene_8 (by decide) (by omega) (by decide) (fun c_8 => ?_) (fun c_8 => ?_)
    · skip
      refine lv_aload_n S.1 S.2.1 dX2_stateScene_13 rfl (lv_at hl 0 rfl) ?_
      refine zv_get (v := .int (iI ((ns v : Nat) : Int))) S hAM hH nX2_stateScene_X2 0 rfl rfl 0 (by decide) mX2_stateScene_1 rfl rfl dX2_stateScene_14 ?_
      refine lv_bipush (v := iI (((10 : Nat) : Int))) S.1 S.2.1 dX2_stateScene_17 (by decide) ?_
      refine zv_icmp_lt (tgt := 24) S dX2_stateScene_19 (by decide) (by omega) (by decide) (fun c_19 => ?_) (fun c_19 => ?_)
      · skip
        refine lv_aload_n S.1 S.2.1 dX2_stateScene_24 rfl (lv_at hl 0 rfl) ?_
        refine zv_get (v := .ref (Qp 0)) S hAM hH nX2_stateScene_X2 0 rfl rfl 3 (by decide) mX2_stateScene_2 rfl rfl dX2_stateScene_25 ?_
        refine lv_aload_n S.1 S.2.1 dX2_stateScene_28 rfl (lv_at hl 0 rfl) ?_
        refine zv_get (v := .int (iI ((ns v : Nat) : Int))) S hAM hH nX2_stateScene_X2 0 rfl rfl 0 (by decide) mX2_stateScene_1 rfl rfl dX2_stateScene_29 ?_
        refine lv_iload_n S.1 S.2.1 dX2_stateScene_32 rfl (lv_at hl 1 rfl) ?_
        refine zv_iast (z := x) (w2 := [poW q Qp ((ns v : Nat) : Int) ((nr v : Nat) : Int) ((na v : Nat) : Int), aW X (Qp 0) 10 (uI sl (ns v) (x)), aW X (Qp 1) 8 vo, aW X (Qp 2) 8 ou, aW X (Qp 3) 8 inn, aW X (Qp 4) 8 ac, aW X (Qp 5) 20 ag, aW X (Qp 6) 20 ai, aW X (Qp 7) 20 et, aW X (Qp 8) 20 xt].flatten) S hAM hH hS 1 rfl (ns v) rfl (by omega) (by decide) rfl dX2_stateScene_33 (fun H locs hH hS => ?_)
        refine lv_aload_n S.1 S.2.1 dX2_stateScene_34 rfl (lv_at hl 0 rfl) ?_
        refine lv_dup S.1 S.2.1 dX2_stateScene_35 rfl ?_
        refine zv_get (v := .int (iI ((ns v : Nat) : Int))) S hAM hH nX2_stateScene_X2 0 rfl rfl 0 (by decide) mX2_stateScene_1 rfl rfl dX2_stateScene_36 ?_
        refine lv_iconst (v := iI (((1 : Nat) : Int))) S.1 S.2.1 dX2_stateScene_39 (by decide) ?_
        refine zv_iadd (z := (((ns v + 1) : Nat) : Int)) S dX2_stateScene_40 (by omega) ?_
        refine zv_put (v := .int (iI (((ns v + 1) : Nat) : Int))) (w2 := [poW q Qp (((ns v + 1) : Nat) : Int) ((nr v : Nat) : Int) ((na v : Nat) : Int), aW X (Qp 0) 10 (uI sl (ns v) (x)), aW X (Qp 1) 8 vo, aW X (Qp 2) 8 ou, aW X (Qp 3) 8 inn, aW X (Qp 4) 8 ac, aW X (Qp 5) 20 ag, aW X (Qp 6) 20 ai, aW X (Qp 7) 20 et, aW X (Qp 8) 20 xt].flatten) S hAM hH hS nX2_stateScene_X2 tyX2 tyX2_ok nmX2 0 rfl rfl 0 (by decide) mX2_stateScene_1 rfl rfl rfl rfl (Nat.le_of_ble_eq_true rfl) rfl dX2_stateScene_41 (fun H locs hH hS => ?_)
        refine lv_iconst (v := iI (((0 : Nat) : Int))) S.1 S.2.1 dX2_stateScene_44 (by decide) ?_
        have eO : scR v x = (0, addScene v x) := by unfold scR; rw [if_pos (by omega), if_pos (by omega)]
        rw [eO] at hret
        dsimp only at hret
        rw [ns_addScene, nr_addScene v x (by omega), na_addScene v x (by omega)] at hret
        exact hret 45 ls _ _ (((0 : Nat) : Int)) (uI sl (ns v) (x)) dX2_stateScene_45 rfl ⟨rfl, PA_scene hv hP (by omega)⟩ hH hS
      · skip
        refine lv_iconst (v := iI (((4 : Nat) : Int))) S.1 S.2.1 dX2_stateScene_22 (by decide) ?_
        have eO : scR v x = (4, v) := by unfold scR; rw [if_pos (by omega), if_neg (by omega)]
        rw [eO] at hret
        dsimp only at hret
        exact hret 23 ls _ _ (((4 : Nat) : Int)) (sl) dX2_stateScene_23 rfl ⟨rfl, hP⟩ hH hS
    · skip
      refine lv_iconst (v := iI (((3 : Nat) : Int))) S.1 S.2.1 dX2_stateScene_11 (by decide) ?_
      have eO : scR v x = (3, v) := by unfold scR; rw [if_neg (by omega)]
      rw [eO] at hret
      dsimp only at hret
      exact hret 12 ls _ _ (((3 : Nat) : Int)) (sl) dX2_stateScene_12 rfl ⟨rfl, hP⟩ hH hS

theorem mX2_stateRole_7 : Cond.initialized RX5 ∈ wsX2_stateRole := List.mem_of_getElem? (i := 7) rfl
theorem mX2_stateRole_6 : Cond.static yX5_isCostumeTime ∈ wsX2_stateRole := List.mem_of_getElem? (i := 6) rfl
theorem mX2_stateRole_1 : Cond.fieldLink RX2 43 "RoleDoublingPlanner$Play" "roles" "I" ∈ wsX2_stateRole := List.mem_of_getElem? (i := 1) rfl
theorem nX2_stateRole_X2 : ∀ w ∈ wsX20, w ∈ wsX2_stateRole := fun _ h => List.mem_cons_of_mem _ (List.mem_append_right _ h)
theorem mX2_stateRole_2 : Cond.fieldLink RX2 15 "RoleDoublingPlanner$Play" "voice" "[I" ∈ wsX2_stateRole := List.mem_of_getElem? (i := 2) rfl
theorem mX2_stateRole_3 : Cond.fieldLink RX2 18 "RoleDoublingPlanner$Play" "out" "[I" ∈ wsX2_stateRole := List.mem_of_getElem? (i := 3) rfl
theorem mX2_stateRole_4 : Cond.fieldLink RX2 21 "RoleDoublingPlanner$Play" "in" "[I" ∈ wsX2_stateRole := List.mem_of_getElem? (i := 4) rfl
theorem mX2_stateRole_5 : Cond.fieldLink RX2 24 "RoleDoublingPlanner$Play" "actor" "[I" ∈ wsX2_stateRole := List.mem_of_getElem? (i := 5) rfl
set_option maxHeartbeats 4000000 in
set_option maxRecDepth 100000 in
theorem kX2_stateRole (l : Launch) (X : XT) (q : Nat) (Qp : Nat → Nat) (v : Nat → Int) (sl : Nat → Int) (vo : Nat → Int) (ou : Nat → Int) (inn : Nat → Int) (ac : Nat → Int) (ag : Nat → Int) (ai : Nat → Int) (et : Nat → Int) (xt : Nat → Int) (k : Int) (o : Int) (i : Int) (hv : okR v) (hP : PA v sl vo ou inn ac ag ai et xt) (ho : 0 ≤ o ∧ o ≤ 999) (hi : 0 ≤ i ∧ i ≤ 999) (hact : nr v < 8 → v (36 + nr v) = -1) : Ci l yX2_stateRole wsX2_stateRole (rmD 2) X [.ref q, .int (iI (k)), .int (iI (o)), .int (iI (i))] [poW q Qp ((ns v : Nat) : Int) ((nr v : Nat) : Int) ((na v : Nat) : Int), aW X (Qp 0) 10 sl, aW X (Qp 1) 8 vo, aW X (Qp 2) 8 ou, aW X (Qp 3) 8 inn, aW X (Qp 4) 8 ac, aW X (Qp 5) 20 ag, aW X (Qp 6) 20 ai, aW X (Qp 7) 20 et, aW X (Qp 8) 20 xt] (fun (z : Int) (u : (Nat → Int) × (Nat → Int) × (Nat → Int) × (Nat → Int)) => match u with | (vo2, ou2, in2, ac2) => z = (((roR v k o i).1 : Nat) : Int) ∧ PA (roR v k o i).2 sl vo2 ou2 in2 ac2 ag ai et xt) (fun (u : (Nat → Int) × (Nat → Int) × (Nat → Int) × (Nat → Int)) => match u with | (vo2, ou2, in2, ac2) => [poW q Qp ((ns ((roR v k o i).2) : Nat) : Int) ((nr ((roR v k o i).2) : Nat) : Int) ((na ((roR v k o i).2) : Nat) : Int), aW X (Qp 0) 10 sl, aW X (Qp 1) 8 vo2, aW X (Qp 2) 8 ou2, aW X (Qp 3) 8 in2, aW X (Qp 4) 8 ac2, aW X (Qp 5) 20 ag, aW X (Qp 6) 20 ai, aW X (Qp 7) 20 et, aW X (Qp 8) 20 xt]) := by
  refine Ci.ofW (cc := cX2_stateRole) (maxL := 4) (by decide) rfl (Nat.le_of_ble_eq_true rfl) ?_
  intro p_ e_ s_ m_ below meth c_ A Q_ S hA hAM hH hS hret ls hl
  have hl : lv_has ls 4 [(0, .ref (q)), (1, .int (iI (k))), (2, .int (iI (o))), (3, .int (iI (i)))] := hl
  have hk1 := hv.nr8
  have hk2 := hv.na20
  have hk3 := hv.ns10
  refine lv_iload_n S.1 S.2.1 dX2_stateRole_0 rfl (lv_at hl 2 rfl) ?_
  refine zc_Ni (n := 1) (As := [.int (iI (o))]) (rest := []) S hAM hA (kX5_isCostumeTime l X o (by omega)) rfl ggX2_stateRole_X5_isCostumeTime hAM.2.1.2.2.2.2.1 mX2_stateRole_7 mX2_stateRole_6 (by decide +kernel) ⟨Nat.le_of_ble_eq_true rfl, Nat.le_of_ble_eq_true rfl⟩ hH hS [0, 1, 2, 3, 4, 5, 6, 7, 8, 9] rfl 10 rfl (List.Perm.refl _)  rfl hl.1 rfl (Nat.le_of_ble_eq_true rfl) dX2_stateRole_1 ⟨Nat.le_of_ble_eq_true rfl, Nat.le_of_ble_eq_true rfl⟩ (fun z2 _ H locs hp3 hH hS => ?_)
  have hH : Hold X A [poW q Qp ((ns v : Nat) : Int) ((nr v : Nat) : Int) ((na v : Nat) : Int), aW X (Qp 0) 10 sl, aW X (Qp 1) 8 vo, aW X (Qp 2) 8 ou, aW X (Qp 3) 8 inn, aW X (Qp 4) 8 ac, aW X (Qp 5) 20 ag, aW X (Qp 6) 20 ai, aW X (Qp 7) 20 et, aW X (Qp 8) 20 xt].flatten H := hH
  rcases hp3 with ⟨rfl, b_1⟩ | ⟨rfl, b_1⟩
  · refine zv_top (z := 1) (z2 := ((1 : Nat) : Int)) rfl ?_
    refine zv_if_eq (tgt := 14) S dX2_stateRole_4 (by decide) (by decide) (fun c_4 => ?_) (fun c_4 => ?_)
    · exact (show False by omega).elim
    · skip
      refine lv_iload_n S.1 S.2.1 dX2_stateRole_7 rfl (lv_at hl 3 rfl) ?_
      refine zc_Ni (n := 1) (As := [.int (iI (i))]) (rest := []) S hAM hA (kX5_isCostumeTime l X i (by omega)) rfl ggX2_stateRole_X5_isCostumeTime hAM.2.1.2.2.2.2.1 mX2_stateRole_7 mX2_stateRole_6 (by decide +kernel) ⟨Nat.le_of_ble_eq_true rfl, Nat.le_of_ble_eq_true rfl⟩ hH hS [0, 1, 2, 3, 4, 5, 6, 7, 8, 9] rfl 10 rfl (List.Perm.refl _)  rfl hl.1 rfl (Nat.le_of_ble_eq_true rfl) dX2_stateRole_8 ⟨Nat.le_of_ble_eq_true rfl, Nat.le_of_ble_eq_true rfl⟩ (fun z5 _ H locs hp6 hH hS => ?_)
      have hH : Hold X A [poW q Qp ((ns v : Nat) : Int) ((nr v : Nat) : Int) ((na v : Nat) : Int), aW X (Qp 0) 10 sl, aW X (Qp 1) 8 vo, aW X (Qp 2) 8 ou, aW X (Qp 3) 8 inn, aW X (Qp 4) 8 ac, aW X (Qp 5) 20 ag, aW X (Qp 6) 20 ai, aW X (Qp 7) 20 et, aW X (Qp 8) 20 xt].flatten H := hH
      rcases hp6 with ⟨rfl, b_8⟩ | ⟨rfl, b_8⟩
      · refine zv_top (z := 1) (z2 := ((1 : Nat) : Int)) rfl ?_
        refine zv_if_ne (tgt := 16) S dX2_stateRole_11 (by decide) (by decide) (fun c_11 => ?_) (fun c_11 => ?_)
        · skip
          refine lv_aload_n S.1 S.2.1 dX2_stateRole_16 rfl (lv_at hl 0 rfl) ?_
          refine zv_get (v := .int (iI ((nr v : Nat) : Int))) S hAM hH nX2_stateRole_X2 0 rfl rfl 1 (by decide) mX2_stateRole_1 rfl rfl dX2_stateRole_17 ?_
          refine lv_bipush (v := iI (((8 : Nat) : Int))) S.1 S.2.1 dX2_stateRole_20 (by decide) ?_
          refine zv_icmp_lt (tgt := 27) S dX2_stateRole_22 (by decide) (by omega) (by decide) (fun c_22 => ?_) (fun c_22 => ?_)
          · skip
            refine lv_aload_n S.1 S.2.1 dX2_stateRole_27 rfl (lv_at hl 0 rfl) ?_
            refine zv_get (v := .ref (Qp 1)) S hAM hH nX2_stateRole_X2 0 rfl rfl 4 (by decide) mX2_stateRole_2 rfl rfl dX2_stateRole_28 ?_
            refine lv_aload_n S.1 S.2.1 dX2_stateRole_31 rfl (lv_at hl 0 rfl) ?_
            refine zv_get (v := .int (iI ((nr v : Nat) : Int))) S hAM hH nX2_stateRole_X2 0 rfl rfl 1 (by decide) mX2_stateRole_1 rfl rfl dX2_stateRole_32 ?_
            refine lv_iload_n S.1 S.2.1 dX2_stateRole_35 rfl (lv_at hl 1 rfl) ?_
            refine zv_iast (z := k) (w2 := [poW q Qp ((ns v : Nat) : Int) ((nr v : Nat) : Int) ((na v : Nat) : Int), aW X (Qp 0) 10 sl, aW X (Qp 1) 8 (uI vo (nr v) (k)), aW X (Qp 2) 8 ou, aW X (Qp 3) 8 inn, aW X (Qp 4) 8 ac, aW X (Qp 5) 20 ag, aW X (Qp 6) 20 ai, aW X (Qp 7) 20 et, aW X (Qp 8) 20 xt].flatten) S hAM hH hS 2 rfl (nr v) rfl (by omega) (by decide) rfl dX2_stateRole_36 (fun H locs hH hS => ?_)
            refine lv_aload_n S.1 S.2.1 dX2_stateRole_37 rfl (lv_at hl 0 rfl) ?_
            refine zv_get (v := .ref (Qp 2)) S hAM hH nX2_stateRole_X2 0 rfl rfl 5 (by decide) mX2_stateRole_3 rfl rfl dX2_stateRole_38 ?_
            refine lv_aload_n S.1 S.2.1 dX2_stateRole_41 rfl (lv_at hl 0 rfl) ?_
            refine zv_get (v := .int (iI ((nr v : Nat) : Int))) S hAM hH nX2_stateRole_X2 0 rfl rfl 1 (by decide) mX2_stateRole_1 rfl rfl dX2_stateRole_42 ?_
            refine lv_iload_n S.1 S.2.1 dX2_stateRole_45 rfl (lv_at hl 2 rfl) ?_
            refine zv_iast (z := o) (w2 := [poW q Qp ((ns v : Nat) : Int) ((nr v : Nat) : Int) ((na v : Nat) : Int), aW X (Qp 0) 10 sl, aW X (Qp 1) 8 (uI vo (nr v) (k)), aW X (Qp 2) 8 (uI ou (nr v) (o)), aW X (Qp 3) 8 inn, aW X (Qp 4) 8 ac, aW X (Qp 5) 20 ag, aW X (Qp 6) 20 ai, aW X (Qp 7) 20 et, aW X (Qp 8) 20 xt].flatten) S hAM hH hS 3 rfl (nr v) rfl (by omega) (by decide) rfl dX2_stateRole_46 (fun H locs hH hS => ?_)
            refine lv_aload_n S.1 S.2.1 dX2_stateRole_47 rfl (lv_at hl 0 rfl) ?_
            refine zv_get (v := .ref (Qp 3)) S hAM hH nX2_stateRole_X2 0 rfl rfl 6 (by decide) mX2_stateRole_4 rfl rfl dX2_stateRole_48 ?_
            refine lv_aload_n S.1 S.2.1 dX2_stateRole_51 rfl (lv_at hl 0 rfl) ?_
            refine zv_get (v := .int (iI ((nr v : Nat) : Int))) S hAM hH nX2_stateRole_X2 0 rfl rfl 1 (by decide) mX2_stateRole_1 rfl rfl dX2_stateRole_52 ?_
            refine lv_iload_n S.1 S.2.1 dX2_stateRole_55 rfl (lv_at hl 3 rfl) ?_
            refine zv_iast (z := i) (w2 := [poW q Qp ((ns v : Nat) : Int) ((nr v : Nat) : Int) ((na v : Nat) : Int), aW X (Qp 0) 10 sl, aW X (Qp 1) 8 (uI vo (nr v) (k)), aW X (Qp 2) 8 (uI ou (nr v) (o)), aW X (Qp 3) 8 (uI inn (nr v) (i)), aW X (Qp 4) 8 ac, aW X (Qp 5) 20 ag, aW X (Qp 6) 20 ai, aW X (Qp 7) 20 et, aW X (Qp 8) 20 xt].flatten) S hAM hH hS 4 rfl (nr v) rfl (by omega) (by decide) rfl dX2_stateRole_56 (fun H locs hH hS => ?_)
            refine lv_aload_n S.1 S.2.1 dX2_stateRole_57 rfl (lv_at hl 0 rfl) ?_
            refine zv_get (v := .ref (Qp 4)) S hAM hH nX2_stateRole_X2 0 rfl rfl 7 (by decide) mX2_stateRole_5 rfl rfl dX2_stateRole_58 ?_
            refine lv_aload_n S.1 S.2.1 dX2_stateRole_61 rfl (lv_at hl 0 rfl) ?_
            refine zv_get (v := .int (iI ((nr v : Nat) : Int))) S hAM hH nX2_stateRole_X2 0 rfl rfl 1 (by decide) mX2_stateRole_1 rfl rfl dX2_stateRole_62 ?_
            refine lv_iconst (v := iI (-1)) S.1 S.2.1 dX2_stateRole_65 (by decide) ?_
            refine zv_iast (z := -1) (w2 := [poW q Qp ((ns v : Nat) : Int) ((nr v : Nat) : Int) ((na v : Nat) : Int), aW X (Qp 0) 10 sl, aW X (Qp 1) 8 (uI vo (nr v) (k)), aW X (Qp 2) 8 (uI ou (nr v) (o)), aW X (Qp 3) 8 (uI inn (nr v) (i)), aW X (Qp 4) 8 (uI ac (nr v) (-1)), aW X (Qp 5) 20 ag, aW X (Qp 6) 20 ai, aW X (Qp 7) 20 et, aW X (Qp 8) 20 xt].flatten) S hAM hH hS 5 rfl (nr v) rfl (by omega) (by decide) rfl dX2_stateRole_66 (fun H locs hH hS => ?_)
            refine lv_aload_n S.1 S.2.1 dX2_stateRole_67 rfl (lv_at hl 0 rfl) ?_
            refine lv_dup S.1 S.2.1 dX2_stateRole_68 rfl ?_
            refine zv_get (v := .int (iI ((nr v : Nat) : Int))) S hAM hH nX2_stateRole_X2 0 rfl rfl 1 (by decide) mX2_stateRole_1 rfl rfl dX2_stateRole_69 ?_
            refine lv_iconst (v := iI (((1 : Nat) : Int))) S.1 S.2.1 dX2_stateRole_72 (by decide) ?_
            refine zv_iadd (z := (((nr v + 1) : Nat) : Int)) S dX2_stateRole_73 (by omega) ?_
            refine zv_put (v := .int (iI (((nr v + 1) : Nat) : Int))) (w2 := [poW q Qp ((ns v : Nat) : Int) (((nr v + 1) : Nat) : Int) ((na v : Nat) : Int), aW X (Qp 0) 10 sl, aW X (Qp 1) 8 (uI vo (nr v) (k)), aW X (Qp 2) 8 (uI ou (nr v) (o)), aW X (Qp 3) 8 (uI inn (nr v) (i)), aW X (Qp 4) 8 (uI ac (nr v) (-1)), aW X (Qp 5) 20 ag, aW X (Qp 6) 20 ai, aW X (Qp 7) 20 et, aW X (Qp 8) 20 xt].flatten) S hAM hH hS nX2_stateRole_X2 tyX2 tyX2_ok nmX2 0 rfl rfl 1 (by decide) mX2_stateRole_1 rfl rfl rfl rfl (Nat.le_of_ble_eq_true rfl) rfl dX2_stateRole_74 (fun H locs hH hS => ?_)
            refine lv_iconst (v := iI (((0 : Nat) : Int))) S.1 S.2.1 dX2_stateRole_77 (by decide) ?_
            have eO : roR v k o i = (0, addRole v k o i) := by unfold roR; rw [if_pos (by omega), if_pos (by omega)]
            rw [eO] at hret
            dsimp only at hret
            rw [ns_addRole v k o i (by omega), nr_addRole, na_addRole v k o i (by omega)] at hret
            exact hret 78 ls _ _ (((0 : Nat) : Int)) (uI vo (nr v) (k), uI ou (nr v) (o), uI inn (nr v) (i), uI ac (nr v) (-1)) dX2_stateRole_78 rfl ⟨rfl, PA_role hv hP (by omega) (hact (by omega))⟩ hH hS
          · skip
            refine lv_iconst (v := iI (((4 : Nat) : Int))) S.1 S.2.1 dX2_stateRole_25 (by decide) ?_
            have eO : roR v k o i = (4, v) := by unfold roR; rw [if_pos (by omega), if_neg (by omega)]
            rw [eO] at hret
            dsimp only at hret
            exact hret 26 ls _ _ (((4 : Nat) : Int)) (vo, ou, inn, ac) dX2_stateRole_26 rfl ⟨rfl, hP⟩ hH hS
        · exact (show False by omega).elim
      · refine zv_top (z := 0) (z2 := ((0 : Nat) : Int)) rfl ?_
        refine zv_if_ne (tgt := 16) S dX2_stateRole_11 (by decide) (by decide) (fun c_11 => ?_) (fun c_11 => ?_)
        · exact (show False by omega).elim
        · skip
          refine lv_iconst (v := iI (((3 : Nat) : Int))) S.1 S.2.1 dX2_stateRole_14 (by decide) ?_
          have eO : roR v k o i = (3, v) := by unfold roR; rw [if_neg (by omega)]
          rw [eO] at hret
          dsimp only at hret
          exact hret 15 ls _ _ (((3 : Nat) : Int)) (vo, ou, inn, ac) dX2_stateRole_15 rfl ⟨rfl, hP⟩ hH hS
  · refine zv_top (z := 0) (z2 := ((0 : Nat) : Int)) rfl ?_
    refine zv_if_eq (tgt := 14) S dX2_stateRole_4 (by decide) (by decide) (fun c_4 => ?_) (fun c_4 => ?_)
    · skip
      refine lv_iconst (v := iI (((3 : Nat) : Int))) S.1 S.2.1 dX2_stateRole_14 (by decide) ?_
      have eO : roR v k o i = (3, v) := by unfold roR; rw [if_neg (by omega)]
      rw [eO] at hret
      dsimp only at hret
      exact hret 15 ls _ _ (((3 : Nat) : Int)) (vo, ou, inn, ac) dX2_stateRole_15 rfl ⟨rfl, hP⟩ hH hS
    · exact (show False by omega).elim

theorem mX2_putAppearance_1 : Cond.fieldLink RX2 27 "RoleDoublingPlanner$Play" "appearing" "[I" ∈ wsX2_putAppearance := List.mem_of_getElem? (i := 1) rfl
theorem nX2_putAppearance_X2 : ∀ w ∈ wsX20, w ∈ wsX2_putAppearance := fun _ h => List.mem_cons_of_mem _ (List.mem_append_right _ h)
theorem mX2_putAppearance_2 : Cond.fieldLink RX2 46 "RoleDoublingPlanner$Play" "appearances" "I" ∈ wsX2_putAppearance := List.mem_of_getElem? (i := 2) rfl
theorem mX2_putAppearance_3 : Cond.fieldLink RX2 30 "RoleDoublingPlanner$Play" "appearingIn" "[I" ∈ wsX2_putAppearance := List.mem_of_getElem? (i := 3) rfl
theorem mX2_putAppearance_4 : Cond.fieldLink RX2 33 "RoleDoublingPlanner$Play" "enterTime" "[I" ∈ wsX2_putAppearance := List.mem_of_getElem? (i := 4) rfl
theorem mX2_putAppearance_5 : Cond.fieldLink RX2 36 "RoleDoublingPlanner$Play" "exitTime" "[I" ∈ wsX2_putAppearance := List.mem_of_getElem? (i := 5) rfl
set_option maxHeartbeats 4000000 in
set_option maxRecDepth 100000 in
theorem kX2_putAppearance (l : Launch) (X : XT) (q : Nat) (Qp : Nat → Nat) (v : Nat → Int) (sl : Nat → Int) (vo : Nat → Int) (ou : Nat → Int) (inn : Nat → Int) (ac : Nat → Int) (ag : Nat → Int) (ai : Nat → Int) (et : Nat → Int) (xt : Nat → Int) (r : Int) (c : Nat) (e : Int) (x : Int) (hv : okR v) (hP : PA v sl vo ou inn ac ag ai et xt) (hn : na v < 20) (hc : c < ns v) : Cv l yX2_putAppearance wsX2_putAppearance (rmD 2) X [.ref q, .int (iI (r)), .int (iI ((c : Nat) : Int)), .int (iI (e)), .int (iI (x))] [poW q Qp ((ns v : Nat) : Int) ((nr v : Nat) : Int) ((na v : Nat) : Int), aW X (Qp 0) 10 sl, aW X (Qp 1) 8 vo, aW X (Qp 2) 8 ou, aW X (Qp 3) 8 inn, aW X (Qp 4) 8 ac, aW X (Qp 5) 20 ag, aW X (Qp 6) 20 ai, aW X (Qp 7) 20 et, aW X (Qp 8) 20 xt] (fun (u : (Nat → Int) × (Nat → Int) × (Nat → Int) × (Nat → Int)) => match u with | (ag2, ai2, et2, xt2) => PA (addApp v r ((c : Nat) : Int) e x) sl vo ou inn ac ag2 ai2 et2 xt2) (fun (u : (Nat → Int) × (Nat → Int) × (Nat → Int) × (Nat → Int)) => match u with | (ag2, ai2, et2, xt2) => [poW q Qp ((ns (addApp v r ((c : Nat) : Int) e x) : Nat) : Int) ((nr (addApp v r ((c : Nat) : Int) e x) : Nat) : Int) ((na (addApp v r ((c : Nat) : Int) e x) : Nat) : Int), aW X (Qp 0) 10 sl, aW X (Qp 1) 8 vo, aW X (Qp 2) 8 ou, aW X (Qp 3) 8 inn, aW X (Qp 4) 8 ac, aW X (Qp 5) 20 ag2, aW X (Qp 6) 20 ai2, aW X (Qp 7) 20 et2, aW X (Qp 8) 20 xt2]) := by
  refine Cv.ofW (cc := cX2_putAppearance) (maxL := 6) (by decide) rfl (Nat.le_of_ble_eq_true rfl) ?_
  intro p_ e_ s_ m_ below meth c_ A Q_ S hA hAM hH hS hmn hret ls hl
  have hl : lv_has ls 6 [(0, .ref (q)), (1, .int (iI (r))), (2, .int (iI ((c : Nat) : Int))), (3, .int (iI (e))), (4, .int (iI (x)))] := hl
  have hk1 := hv.nr8
  have hk2 := hv.na20
  have hk3 := hv.ns10
  refine lv_aload_n S.1 S.2.1 dX2_putAppearance_0 rfl (lv_at hl 0 rfl) ?_
  refine lv_iload_n S.1 S.2.1 dX2_putAppearance_1 rfl (lv_at hl 2 rfl) ?_
  refine zc_Vi (n := 1) (As := [.int (iI ((c : Nat) : Int))]) (rest := []) S hAM hA (kX2_startOf l X q Qp v sl vo ou inn ac ag ai et xt c hv hP (by omega)) rfl gX2_putAppearance_X2_startOf  (by decide +kernel) ⟨Nat.le_of_ble_eq_true rfl, Nat.le_of_ble_eq_true rfl⟩ hH hS [0, 1, 2, 3, 4, 5, 6, 7, 8, 9] rfl 10 rfl (List.Perm.refl _) 2 0 rfl rfl rfl hl.1 rfl (Nat.le_of_ble_eq_true rfl) dX2_putAppearance_2 ⟨Nat.le_of_ble_eq_true rfl, Nat.le_of_ble_eq_true rfl⟩ (fun z2 _ H locs hp3 hH hS => ?_)
  have hH : Hold X A [poW q Qp ((ns v : Nat) : Int) ((nr v : Nat) : Int) ((na v : Nat) : Int), aW X (Qp 0) 10 sl, aW X (Qp 1) 8 vo, aW X (Qp 2) 8 ou, aW X (Qp 3) 8 inn, aW X (Qp 4) 8 ac, aW X (Qp 5) 20 ag, aW X (Qp 6) 20 ai, aW X (Qp 7) 20 et, aW X (Qp 8) 20 xt].flatten H := hH
  obtain rfl := hp3
  refine lv_istore (lv' := [(5, .int (iI (st v c))), (0, .ref (q)), (1, .int (iI (r))), (2, .int (iI ((c : Nat) : Int))), (3, .int (iI (e))), (4, .int (iI (x)))]) S.1 S.2.1 dX2_putAppearance_5 hl (by decide) rfl (fun ls hl => ?_)
  refine lv_aload_n S.1 S.2.1 dX2_putAppearance_7 rfl (lv_at hl 1 rfl) ?_
  refine zv_get (v := .ref (Qp 5)) S hAM hH nX2_putAppearance_X2 0 rfl rfl 8 (by decide) mX2_putAppearance_1 rfl rfl dX2_putAppearance_8 ?_
  refine lv_aload_n S.1 S.2.1 dX2_putAppearance_11 rfl (lv_at hl 1 rfl) ?_
  refine zv_get (v := .int (iI ((na v : Nat) : Int))) S hAM hH nX2_putAppearance_X2 0 rfl rfl 2 (by decide) mX2_putAppearance_2 rfl rfl dX2_putAppearance_12 ?_
  refine lv_iload_n S.1 S.2.1 dX2_putAppearance_15 rfl (lv_at hl 2 rfl) ?_
  refine zv_iast (z := r) (w2 := [poW q Qp ((ns v : Nat) : Int) ((nr v : Nat) : Int) ((na v : Nat) : Int), aW X (Qp 0) 10 sl, aW X (Qp 1) 8 vo, aW X (Qp 2) 8 ou, aW X (Qp 3) 8 inn, aW X (Qp 4) 8 ac, aW X (Qp 5) 20 (uI ag (na v) (r)), aW X (Qp 6) 20 ai, aW X (Qp 7) 20 et, aW X (Qp 8) 20 xt].flatten) S hAM hH hS 6 rfl (na v) rfl (by omega) (by decide) rfl dX2_putAppearance_16 (fun H locs hH hS => ?_)
  refine lv_aload_n S.1 S.2.1 dX2_putAppearance_17 rfl (lv_at hl 1 rfl) ?_
  refine zv_get (v := .ref (Qp 6)) S hAM hH nX2_putAppearance_X2 0 rfl rfl 9 (by decide) mX2_putAppearance_3 rfl rfl dX2_putAppearance_18 ?_
  refine lv_aload_n S.1 S.2.1 dX2_putAppearance_21 rfl (lv_at hl 1 rfl) ?_
  refine zv_get (v := .int (iI ((na v : Nat) : Int))) S hAM hH nX2_putAppearance_X2 0 rfl rfl 2 (by decide) mX2_putAppearance_2 rfl rfl dX2_putAppearance_22 ?_
  refine lv_iload_n S.1 S.2.1 dX2_putAppearance_25 rfl (lv_at hl 3 rfl) ?_
  refine zv_iast (z := ((c : Nat) : Int)) (w2 := [poW q Qp ((ns v : Nat) : Int) ((nr v : Nat) : Int) ((na v : Nat) : Int), aW X (Qp 0) 10 sl, aW X (Qp 1) 8 vo, aW X (Qp 2) 8 ou, aW X (Qp 3) 8 inn, aW X (Qp 4) 8 ac, aW X (Qp 5) 20 (uI ag (na v) (r)), aW X (Qp 6) 20 (uI ai (na v) (((c : Nat) : Int))), aW X (Qp 7) 20 et, aW X (Qp 8) 20 xt].flatten) S hAM hH hS 7 rfl (na v) rfl (by omega) (by decide) rfl dX2_putAppearance_26 (fun H locs hH hS => ?_)
  refine lv_aload_n S.1 S.2.1 dX2_putAppearance_27 rfl (lv_at hl 1 rfl) ?_
  refine zv_get (v := .ref (Qp 7)) S hAM hH nX2_putAppearance_X2 0 rfl rfl 10 (by decide) mX2_putAppearance_4 rfl rfl dX2_putAppearance_28 ?_
  refine lv_aload_n S.1 S.2.1 dX2_putAppearance_31 rfl (lv_at hl 1 rfl) ?_
  refine zv_get (v := .int (iI ((na v : Nat) : Int))) S hAM hH nX2_putAppearance_X2 0 rfl rfl 2 (by decide) mX2_putAppearance_2 rfl rfl dX2_putAppearance_32 ?_
  refine lv_iload S.1 S.2.1 dX2_putAppearance_35 (lv_at hl 0 rfl) ?_
  refine lv_iload_n S.1 S.2.1 dX2_putAppearance_37 rfl (lv_at hl 4 rfl) ?_
  refine zv_iadd (z := (st v c + e)) S dX2_putAppearance_38 rfl ?_
  refine zv_iast (z := (st v c + e)) (w2 := [poW q Qp ((ns v : Nat) : Int) ((nr v : Nat) : Int) ((na v : Nat) : Int), aW X (Qp 0) 10 sl, aW X (Qp 1) 8 vo, aW X (Qp 2) 8 ou, aW X (Qp 3) 8 inn, aW X (Qp 4) 8 ac, aW X (Qp 5) 20 (uI ag (na v) (r)), aW X (Qp 6) 20 (uI ai (na v) (((c : Nat) : Int))), aW X (Qp 7) 20 (uI et (na v) ((st v c + e))), aW X (Qp 8) 20 xt].flatten) S hAM hH hS 8 rfl (na v) rfl (by omega) (by decide) rfl dX2_putAppearance_39 (fun H locs hH hS => ?_)
  refine lv_aload_n S.1 S.2.1 dX2_putAppearance_40 rfl (lv_at hl 1 rfl) ?_
  refine zv_get (v := .ref (Qp 8)) S hAM hH nX2_putAppearance_X2 0 rfl rfl 11 (by decide) mX2_putAppearance_5 rfl rfl dX2_putAppearance_41 ?_
  refine lv_aload_n S.1 S.2.1 dX2_putAppearance_44 rfl (lv_at hl 1 rfl) ?_
  refine zv_get (v := .int (iI ((na v : Nat) : Int))) S hAM hH nX2_putAppearance_X2 0 rfl rfl 2 (by decide) mX2_putAppearance_2 rfl rfl dX2_putAppearance_45 ?_
  refine lv_iload S.1 S.2.1 dX2_putAppearance_48 (lv_at hl 0 rfl) ?_
  refine lv_iload S.1 S.2.1 dX2_putAppearance_50 (lv_at hl 5 rfl) ?_
  refine zv_iadd (z := (st v c + x)) S dX2_putAppearance_52 rfl ?_
  refine zv_iast (z := (st v c + x)) (w2 := [poW q Qp ((ns v : Nat) : Int) ((nr v : Nat) : Int) ((na v : Nat) : Int), aW X (Qp 0) 10 sl, aW X (Qp 1) 8 vo, aW X (Qp 2) 8 ou, aW X (Qp 3) 8 inn, aW X (Qp 4) 8 ac, aW X (Qp 5) 20 (uI ag (na v) (r)), aW X (Qp 6) 20 (uI ai (na v) (((c : Nat) : Int))), aW X (Qp 7) 20 (uI et (na v) ((st v c + e))), aW X (Qp 8) 20 (uI xt (na v) ((st v c + x)))].flatten) S hAM hH hS 9 rfl (na v) rfl (by omega) (by decide) rfl dX2_putAppearance_53 (fun H locs hH hS => ?_)
  refine lv_aload_n S.1 S.2.1 dX2_putAppearance_54 rfl (lv_at hl 1 rfl) ?_
  refine lv_dup S.1 S.2.1 dX2_putAppearance_55 rfl ?_
  refine zv_get (v := .int (iI ((na v : Nat) : Int))) S hAM hH nX2_putAppearance_X2 0 rfl rfl 2 (by decide) mX2_putAppearance_2 rfl rfl dX2_putAppearance_56 ?_
  refine lv_iconst (v := iI (((1 : Nat) : Int))) S.1 S.2.1 dX2_putAppearance_59 (by decide) ?_
  refine zv_iadd (z := (((na v + 1) : Nat) : Int)) S dX2_putAppearance_60 (by omega) ?_
  refine zv_put (v := .int (iI (((na v + 1) : Nat) : Int))) (w2 := [poW q Qp ((ns v : Nat) : Int) ((nr v : Nat) : Int) (((na v + 1) : Nat) : Int), aW X (Qp 0) 10 sl, aW X (Qp 1) 8 vo, aW X (Qp 2) 8 ou, aW X (Qp 3) 8 inn, aW X (Qp 4) 8 ac, aW X (Qp 5) 20 (uI ag (na v) (r)), aW X (Qp 6) 20 (uI ai (na v) (((c : Nat) : Int))), aW X (Qp 7) 20 (uI et (na v) ((st v c + e))), aW X (Qp 8) 20 (uI xt (na v) ((st v c + x)))].flatten) S hAM hH hS nX2_putAppearance_X2 tyX2 tyX2_ok nmX2 0 rfl rfl 2 (by decide) mX2_putAppearance_2 rfl rfl rfl rfl (Nat.le_of_ble_eq_true rfl) rfl dX2_putAppearance_61 (fun H locs hH hS => ?_)
  rw [ns_addApp, nr_addApp, na_addApp] at hret
  exact hret 64 ls _ _ (uI ag (na v) (r), uI ai (na v) (((c : Nat) : Int)), uI et (na v) ((st v c + e)), uI xt (na v) ((st v c + x))) dX2_putAppearance_64 (PA_app hv hP hn hc) hH hS

theorem mX2_stateAppearance_1 : Cond.fieldLink RX2 46 "RoleDoublingPlanner$Play" "appearances" "I" ∈ wsX2_stateAppearance := List.mem_of_getElem? (i := 1) rfl
theorem nX2_stateAppearance_X2 : ∀ w ∈ wsX20, w ∈ wsX2_stateAppearance := fun _ h => List.mem_cons_of_mem _ (List.mem_append_right _ h)
set_option maxHeartbeats 4000000 in
set_option maxRecDepth 100000 in
theorem kX2_stateAppearance (l : Launch) (X : XT) (q : Nat) (Qp : Nat → Nat) (v : Nat → Int) (sl : Nat → Int) (vo : Nat → Int) (ou : Nat → Int) (inn : Nat → Int) (ac : Nat → Int) (ag : Nat → Int) (ai : Nat → Int) (et : Nat → Int) (xt : Nat → Int) (r : Int) (c : Nat) (e : Int) (x : Int) (hv : okR v) (hP : PA v sl vo ou inn ac ag ai et xt) (hr : 0 ≤ r ∧ r ≤ 999) (hc : c ≤ 999) (he : 0 ≤ e ∧ e ≤ 999) (hx : 0 ≤ x ∧ x ≤ 999) : Ci l yX2_stateAppearance wsX2_stateAppearance (rmD 3) X [.ref q, .int (iI (r)), .int (iI ((c : Nat) : Int)), .int (iI (e)), .int (iI (x))] [poW q Qp ((ns v : Nat) : Int) ((nr v : Nat) : Int) ((na v : Nat) : Int), aW X (Qp 0) 10 sl, aW X (Qp 1) 8 vo, aW X (Qp 2) 8 ou, aW X (Qp 3) 8 inn, aW X (Qp 4) 8 ac, aW X (Qp 5) 20 ag, aW X (Qp 6) 20 ai, aW X (Qp 7) 20 et, aW X (Qp 8) 20 xt] (fun (z : Int) (u : (Nat → Int) × (Nat → Int) × (Nat → Int) × (Nat → Int)) => match u with | (ag2, ai2, et2, xt2) => z = (((apR v r ((c : Nat) : Int) e x).1 : Nat) : Int) ∧ PA (apR v r ((c : Nat) : Int) e x).2 sl vo ou inn ac ag2 ai2 et2 xt2) (fun (u : (Nat → Int) × (Nat → Int) × (Nat → Int) × (Nat → Int)) => match u with | (ag2, ai2, et2, xt2) => [poW q Qp ((ns ((apR v r ((c : Nat) : Int) e x).2) : Nat) : Int) ((nr ((apR v r ((c : Nat) : Int) e x).2) : Nat) : Int) ((na ((apR v r ((c : Nat) : Int) e x).2) : Nat) : Int), aW X (Qp 0) 10 sl, aW X (Qp 1) 8 vo, aW X (Qp 2) 8 ou, aW X (Qp 3) 8 inn, aW X (Qp 4) 8 ac, aW X (Qp 5) 20 ag2, aW X (Qp 6) 20 ai2, aW X (Qp 7) 20 et2, aW X (Qp 8) 20 xt2]) := by
  refine Ci.ofW (cc := cX2_stateAppearance) (maxL := 5) (by decide) rfl (Nat.le_of_ble_eq_true rfl) ?_
  intro p_ e_ s_ m_ below meth c_ A Q_ S hA hAM hH hS hret ls hl
  have hl : lv_has ls 5 [(0, .ref (q)), (1, .int (iI (r))), (2, .int (iI ((c : Nat) : Int))), (3, .int (iI (e))), (4, .int (iI (x)))] := hl
  have hk1 := hv.nr8
  have hk2 := hv.na20
  have hk3 := hv.ns10
  refine lv_aload_n S.1 S.2.1 dX2_stateAppearance_0 rfl (lv_at hl 0 rfl) ?_
  refine lv_iload_n S.1 S.2.1 dX2_stateAppearance_1 rfl (lv_at hl 1 rfl) ?_
  refine lv_iload_n S.1 S.2.1 dX2_stateAppearance_2 rfl (lv_at hl 2 rfl) ?_
  refine lv_iload_n S.1 S.2.1 dX2_stateAppearance_3 rfl (lv_at hl 3 rfl) ?_
  refine lv_iload S.1 S.2.1 dX2_stateAppearance_4 (lv_at hl 4 rfl) ?_
  refine zc_Vi (n := 4) (As := [.int (iI (r)), .int (iI ((c : Nat) : Int)), .int (iI (e)), .int (iI (x))]) (rest := []) S hAM hA (kX2_admits l X q Qp v sl vo ou inn ac ag ai et xt r ((c : Nat) : Int) e x hv hP (by omega) (by omega) (by omega) (by omega)) rfl gX2_stateAppearance_X2_admits  (by decide +kernel) ⟨Nat.le_of_ble_eq_true rfl, Nat.le_of_ble_eq_true rfl⟩ hH hS [0, 1, 2, 3, 4, 5, 6, 7, 8, 9] rfl 10 rfl (List.Perm.refl _) 2 0 rfl rfl rfl hl.1 rfl (Nat.le_of_ble_eq_true rfl) dX2_stateAppearance_6 ⟨Nat.le_of_ble_eq_true rfl, Nat.le_of_ble_eq_true rfl⟩ (fun z2 _ H locs hp3 hH hS => ?_)
  have hH : Hold X A [poW q Qp ((ns v : Nat) : Int) ((nr v : Nat) : Int) ((na v : Nat) : Int), aW X (Qp 0) 10 sl, aW X (Qp 1) 8 vo, aW X (Qp 2) 8 ou, aW X (Qp 3) 8 inn, aW X (Qp 4) 8 ac, aW X (Qp 5) 20 ag, aW X (Qp 6) 20 ai, aW X (Qp 7) 20 et, aW X (Qp 8) 20 xt].flatten H := hH
  rcases hp3 with ⟨rfl, b_6⟩ | ⟨rfl, b_6⟩
  · refine zv_top (z := 1) (z2 := ((1 : Nat) : Int)) rfl ?_
    rw [Int.toNat_natCast] at b_6
    refine zv_if_ne (tgt := 14) S dX2_stateAppearance_9 (by decide) (by decide) (fun c_9 => ?_) (fun c_9 => ?_)
    · skip
      refine lv_aload_n S.1 S.2.1 dX2_stateAppearance_14 rfl (lv_at hl 0 rfl) ?_
      refine zv_get (v := .int (iI ((na v : Nat) : Int))) S hAM hH nX2_stateAppearance_X2 0 rfl rfl 2 (by decide) mX2_stateAppearance_1 rfl rfl dX2_stateAppearance_15 ?_
      refine lv_bipush (v := iI (((20 : Nat) : Int))) S.1 S.2.1 dX2_stateAppearance_18 (by decide) ?_
      refine zv_icmp_lt (tgt := 25) S dX2_stateAppearance_20 (by decide) (by omega) (by decide) (fun c_20 => ?_) (fun c_20 => ?_)
      · skip
        refine lv_aload_n S.1 S.2.1 dX2_stateAppearance_25 rfl (lv_at hl 0 rfl) ?_
        refine lv_iload_n S.1 S.2.1 dX2_stateAppearance_26 rfl (lv_at hl 1 rfl) ?_
        refine lv_iload_n S.1 S.2.1 dX2_stateAppearance_27 rfl (lv_at hl 2 rfl) ?_
        refine lv_iload_n S.1 S.2.1 dX2_stateAppearance_28 rfl (lv_at hl 3 rfl) ?_
        refine lv_iload S.1 S.2.1 dX2_stateAppearance_29 (lv_at hl 4 rfl) ?_
        refine zc_Vv (n := 4) (As := [.int (iI (r)), .int (iI ((c : Nat) : Int)), .int (iI (e)), .int (iI (x))]) (rest := []) S hAM hA (kX2_putAppearance l X q Qp v sl vo ou inn ac ag ai et xt r c e x hv hP (by omega) (by omega)) rfl gX2_stateAppearance_X2_putAppearance  (by decide +kernel) ⟨Nat.le_of_ble_eq_true rfl, Nat.le_of_ble_eq_true rfl⟩ hH hS [0, 1, 2, 3, 4, 5, 6, 7, 8, 9] rfl 10 rfl (List.Perm.refl _) 2 0 rfl rfl rfl hl.1 rfl (Nat.le_of_ble_eq_true rfl) dX2_stateAppearance_31 ⟨Nat.le_of_ble_eq_true rfl, Nat.le_of_ble_eq_true rfl⟩ (fun u8 H locs hp10 hH hS => ?_)
        obtain ⟨ag2_4, ai2_5, et2_6, xt2_7⟩ := u8
        have hH : Hold X A [poW q Qp ((ns (addApp v r ((c : Nat) : Int) e x) : Nat) : Int) ((nr (addApp v r ((c : Nat) : Int) e x) : Nat) : Int) ((na (addApp v r ((c : Nat) : Int) e x) : Nat) : Int), aW X (Qp 0) 10 sl, aW X (Qp 1) 8 vo, aW X (Qp 2) 8 ou, aW X (Qp 3) 8 inn, aW X (Qp 4) 8 ac, aW X (Qp 5) 20 ag2_4, aW X (Qp 6) 20 ai2_5, aW X (Qp 7) 20 et2_6, aW X (Qp 8) 20 xt2_7].flatten H := hH
        have hPA_31 := hp10
        refine lv_iconst (v := iI (((0 : Nat) : Int))) S.1 S.2.1 dX2_stateAppearance_34 (by decide) ?_
        have eO : apR v r ((c : Nat) : Int) e x = (0, addApp v r ((c : Nat) : Int) e x) := by unfold apR; rw [Int.toNat_natCast, if_pos (by omega), if_pos (by omega)]
        rw [eO] at hret
        dsimp only at hret
        exact hret 35 ls _ _ (((0 : Nat) : Int)) (ag2_4, ai2_5, et2_6, xt2_7) dX2_stateAppearance_35 rfl ⟨rfl, hPA_31⟩ hH hS
      · skip
        refine lv_iconst (v := iI (((4 : Nat) : Int))) S.1 S.2.1 dX2_stateAppearance_23 (by decide) ?_
        have eO : apR v r ((c : Nat) : Int) e x = (4, v) := by unfold apR; rw [Int.toNat_natCast, if_pos (by omega), if_neg (by omega)]
        rw [eO] at hret
        dsimp only at hret
        exact hret 24 ls _ _ (((4 : Nat) : Int)) (ag, ai, et, xt) dX2_stateAppearance_24 rfl ⟨rfl, hP⟩ hH hS
    · exact (show False by omega).elim
  · refine zv_top (z := 0) (z2 := ((0 : Nat) : Int)) rfl ?_
    rw [Int.toNat_natCast] at b_6
    refine zv_if_ne (tgt := 14) S dX2_stateAppearance_9 (by decide) (by decide) (fun c_9 => ?_) (fun c_9 => ?_)
    · exact (show False by omega).elim
    · skip
      refine lv_iconst (v := iI (((3 : Nat) : Int))) S.1 S.2.1 dX2_stateAppearance_12 (by decide) ?_
      have eO : apR v r ((c : Nat) : Int) e x = (3, v) := by unfold apR; rw [Int.toNat_natCast, if_neg (by omega)]
      rw [eO] at hret
      dsimp only at hret
      exact hret 13 ls _ _ (((3 : Nat) : Int)) (ag, ai, et, xt) dX2_stateAppearance_13 rfl ⟨rfl, hP⟩ hH hS
