set_option maxHeartbeats 4000000 in
set_option maxRecDepth 100000 in
theorem kX5_isActor (l : Launch) (X : XT) (r : Int) (hr : inR r) : Ci l yX5_isActor wsX5_isActor (rmD 1) X [.int (iI (r))] [] (fun (z : Int) (_ : Unit) => (z = 1 ∧ (0 ≤ r ∧ r ≤ 7)) ∨ (z = 0 ∧ ¬ (0 ≤ r ∧ r ≤ 7))) (fun (_ : Unit) => []) := by
  refine Ci.ofW (cc := cX5_isActor) (maxL := 1) (by decide) rfl (Nat.le_of_ble_eq_true rfl) ?_
  intro p_ e_ s_ m_ below meth c_ A Q_ S hA hAM hH hS hret ls hl
  have hl : lv_has ls 1 [(0, .int (iI (r)))] := hl
  refine lv_iload_n S.1 S.2.1 dX5_isActor_0 rfl (lv_at hl 0 rfl) ?_
  refine zv_if_lt (tgt := 14) S dX5_isActor_1 (by decide) (by omega) (fun c_1 => ?_) (fun c_1 => ?_)
  · skip
    refine lv_iconst (v := iI (((0 : Nat) : Int))) S.1 S.2.1 dX5_isActor_14 (by decide) ?_
    exact hret 15 ls _ _ (((0 : Nat) : Int)) () dX5_isActor_15 rfl (by first | exact Or.inl ⟨rfl, by omega⟩ | exact Or.inr ⟨rfl, by omega⟩) hH hS
  · skip
    refine lv_iload_n S.1 S.2.1 dX5_isActor_4 rfl (lv_at hl 0 rfl) ?_
    refine lv_bipush (v := iI (((8 : Nat) : Int))) S.1 S.2.1 dX5_isActor_5 (by decide) ?_
    refine zv_icmp_ge (tgt := 14) S dX5_isActor_7 (by decide) (by omega) (by decide) (fun c_7 => ?_) (fun c_7 => ?_)
    · skip
      refine lv_iconst (v := iI (((0 : Nat) : Int))) S.1 S.2.1 dX5_isActor_14 (by decide) ?_
      exact hret 15 ls _ _ (((0 : Nat) : Int)) () dX5_isActor_15 rfl (by first | exact Or.inl ⟨rfl, by omega⟩ | exact Or.inr ⟨rfl, by omega⟩) hH hS
    · skip
      refine lv_iconst (v := iI (((1 : Nat) : Int))) S.1 S.2.1 dX5_isActor_10 (by decide) ?_
      refine lv_goto (tgt := 15) S.1 S.2.1 dX5_isActor_11 (by decide) ?_
      exact hret 15 ls _ _ (((1 : Nat) : Int)) () dX5_isActor_15 rfl (by first | exact Or.inl ⟨rfl, by omega⟩ | exact Or.inr ⟨rfl, by omega⟩) hH hS

theorem mX5_roleCount_1 : Cond.fieldLink RX5 23 "RoleDoublingPlanner" "play" "LRoleDoublingPlanner$Play;" ∈ wsX5_roleCount := List.mem_of_getElem? (i := 1) rfl
theorem nX5_roleCount_X5 : ∀ w ∈ wsX50, w ∈ wsX5_roleCount := fun _ h => List.mem_cons_of_mem _ (List.mem_append_left _ (List.mem_append_right _ h))
theorem mX5_roleCount_2 : Cond.fieldLink RX5 86 "RoleDoublingPlanner$Play" "roles" "I" ∈ wsX5_roleCount := List.mem_of_getElem? (i := 2) rfl
theorem nX5_roleCount_X2 : ∀ w ∈ wsX20, w ∈ wsX5_roleCount := fun _ h => List.mem_cons_of_mem _ (List.mem_append_right _ h)
set_option maxHeartbeats 4000000 in
set_option maxRecDepth 100000 in
theorem kX5_roleCount (l : Launch) (X : XT) (h : Nat) (qt : Nat) (q1 : Nat) (q : Nat) (qs : Nat) (qc : Nat) (qh : Nat) (Qp : Nat → Nat) (v : Nat → Int) (sl : Nat → Int) (vo : Nat → Int) (ou : Nat → Int) (inn : Nat → Int) (ac : Nat → Int) (ag : Nat → Int) (ai : Nat → Int) (et : Nat → Int) (xt : Nat → Int) (hv : okR v) (hP : PA v sl vo ou inn ac ag ai et xt) : Ci l yX5_roleCount wsX5_roleCount (rmD 1) X [.ref h] [pnW h qt q1 q qs qc qh, poW q Qp ((ns v : Nat) : Int) ((nr v : Nat) : Int) ((na v : Nat) : Int), aW X (Qp 0) 10 sl, aW X (Qp 1) 8 vo, aW X (Qp 2) 8 ou, aW X (Qp 3) 8 inn, aW X (Qp 4) 8 ac, aW X (Qp 5) 20 ag, aW X (Qp 6) 20 ai, aW X (Qp 7) 20 et, aW X (Qp 8) 20 xt] (fun (z : Int) (_ : Unit) => z = ((nr v : Nat) : Int)) (fun (_ : Unit) => [pnW h qt q1 q qs qc qh, poW q Qp ((ns v : Nat) : Int) ((nr v : Nat) : Int) ((na v : Nat) : Int), aW X (Qp 0) 10 sl, aW X (Qp 1) 8 vo, aW X (Qp 2) 8 ou, aW X (Qp 3) 8 inn, aW X (Qp 4) 8 ac, aW X (Qp 5) 20 ag, aW X (Qp 6) 20 ai, aW X (Qp 7) 20 et, aW X (Qp 8) 20 xt]) := by
  refine Ci.ofW (cc := cX5_roleCount) (maxL := 1) (by decide) rfl (Nat.le_of_ble_eq_true rfl) ?_
  intro p_ e_ s_ m_ below meth c_ A Q_ S hA hAM hH hS hret ls hl
  have hl : lv_has ls 1 [(0, .ref (h))] := hl
  have hk1 := hv.nr8
  have hk2 := hv.na20
  have hk3 := hv.ns10
  refine lv_aload_n S.1 S.2.1 dX5_roleCount_0 rfl (lv_at hl 0 rfl) ?_
  refine zv_get (v := .ref (q)) S hAM hH nX5_roleCount_X5 0 rfl rfl 2 (by decide) mX5_roleCount_1 rfl rfl dX5_roleCount_1 ?_
  refine zv_get (v := .int (iI ((nr v : Nat) : Int))) S hAM hH nX5_roleCount_X2 1 rfl rfl 1 (by decide) mX5_roleCount_2 rfl rfl dX5_roleCount_4 ?_
  exact hret 7 ls _ _ (((nr v : Nat) : Int)) () dX5_roleCount_7 rfl rfl hH hS

theorem mX5_appearanceCount_1 : Cond.fieldLink RX5 23 "RoleDoublingPlanner" "play" "LRoleDoublingPlanner$Play;" ∈ wsX5_appearanceCount := List.mem_of_getElem? (i := 1) rfl
theorem nX5_appearanceCount_X5 : ∀ w ∈ wsX50, w ∈ wsX5_appearanceCount := fun _ h => List.mem_cons_of_mem _ (List.mem_append_left _ (List.mem_append_right _ h))
theorem mX5_appearanceCount_2 : Cond.fieldLink RX5 93 "RoleDoublingPlanner$Play" "appearances" "I" ∈ wsX5_appearanceCount := List.mem_of_getElem? (i := 2) rfl
theorem nX5_appearanceCount_X2 : ∀ w ∈ wsX20, w ∈ wsX5_appearanceCount := fun _ h => List.mem_cons_of_mem _ (List.mem_append_right _ h)
set_option maxHeartbeats 4000000 in
set_option maxRecDepth 100000 in
theorem kX5_appearanceCount (l : Launch) (X : XT) (h : Nat) (qt : Nat) (q1 : Nat) (q : Nat) (qs : Nat) (qc : Nat) (qh : Nat) (Qp : Nat → Nat) (v : Nat → Int) (sl : Nat → Int) (vo : Nat → Int) (ou : Nat → Int) (inn : Nat → Int) (ac : Nat → Int) (ag : Nat → Int) (ai : Nat → Int) (et : Nat → Int) (xt : Nat → Int) (hv : okR v) (hP : PA v sl vo ou inn ac ag ai et xt) : Ci l yX5_appearanceCount wsX5_appearanceCount (rmD 1) X [.ref h] [pnW h qt q1 q qs qc qh, poW q Qp ((ns v : Nat) : Int) ((nr v : Nat) : Int) ((na v : Nat) : Int), aW X (Qp 0) 10 sl, aW X (Qp 1) 8 vo, aW X (Qp 2) 8 ou, aW X (Qp 3) 8 inn, aW X (Qp 4) 8 ac, aW X (Qp 5) 20 ag, aW X (Qp 6) 20 ai, aW X (Qp 7) 20 et, aW X (Qp 8) 20 xt] (fun (z : Int) (_ : Unit) => z = ((na v : Nat) : Int)) (fun (_ : Unit) => [pnW h qt q1 q qs qc qh, poW q Qp ((ns v : Nat) : Int) ((nr v : Nat) : Int) ((na v : Nat) : Int), aW X (Qp 0) 10 sl, aW X (Qp 1) 8 vo, aW X (Qp 2) 8 ou, aW X (Qp 3) 8 inn, aW X (Qp 4) 8 ac, aW X (Qp 5) 20 ag, aW X (Qp 6) 20 ai, aW X (Qp 7) 20 et, aW X (Qp 8) 20 xt]) := by
  refine Ci.ofW (cc := cX5_appearanceCount) (maxL := 1) (by decide) rfl (Nat.le_of_ble_eq_true rfl) ?_
  intro p_ e_ s_ m_ below meth c_ A Q_ S hA hAM hH hS hret ls hl
  have hl : lv_has ls 1 [(0, .ref (h))] := hl
  have hk1 := hv.nr8
  have hk2 := hv.na20
  have hk3 := hv.ns10
  refine lv_aload_n S.1 S.2.1 dX5_appearanceCount_0 rfl (lv_at hl 0 rfl) ?_
  refine zv_get (v := .ref (q)) S hAM hH nX5_appearanceCount_X5 0 rfl rfl 2 (by decide) mX5_appearanceCount_1 rfl rfl dX5_appearanceCount_1 ?_
  refine zv_get (v := .int (iI ((na v : Nat) : Int))) S hAM hH nX5_appearanceCount_X2 1 rfl rfl 2 (by decide) mX5_appearanceCount_2 rfl rfl dX5_appearanceCount_4 ?_
  exact hret 7 ls _ _ (((na v : Nat) : Int)) () dX5_appearanceCount_7 rfl rfl hH hS

theorem mX5_playLength_1 : Cond.fieldLink RX5 23 "RoleDoublingPlanner" "play" "LRoleDoublingPlanner$Play;" ∈ wsX5_playLength := List.mem_of_getElem? (i := 1) rfl
theorem nX5_playLength_X5 : ∀ w ∈ wsX50, w ∈ wsX5_playLength := fun _ h => List.mem_cons_of_mem _ (List.mem_append_left _ (List.mem_append_right _ h))
theorem mX5_playLength_2 : Cond.fieldLink RX5 83 "RoleDoublingPlanner$Play" "scenes" "I" ∈ wsX5_playLength := List.mem_of_getElem? (i := 2) rfl
theorem nX5_playLength_X2 : ∀ w ∈ wsX20, w ∈ wsX5_playLength := fun _ h => List.mem_cons_of_mem _ (List.mem_append_right _ h)
set_option maxHeartbeats 4000000 in
set_option maxRecDepth 100000 in
theorem kX5_playLength (l : Launch) (X : XT) (h : Nat) (qt : Nat) (q1 : Nat) (q : Nat) (qs : Nat) (qc : Nat) (qh : Nat) (Qp : Nat → Nat) (v : Nat → Int) (sl : Nat → Int) (vo : Nat → Int) (ou : Nat → Int) (inn : Nat → Int) (ac : Nat → Int) (ag : Nat → Int) (ai : Nat → Int) (et : Nat → Int) (xt : Nat → Int) (hv : okR v) (hP : PA v sl vo ou inn ac ag ai et xt) : Ci l yX5_playLength wsX5_playLength (rmD 2) X [.ref h] [pnW h qt q1 q qs qc qh, poW q Qp ((ns v : Nat) : Int) ((nr v : Nat) : Int) ((na v : Nat) : Int), aW X (Qp 0) 10 sl, aW X (Qp 1) 8 vo, aW X (Qp 2) 8 ou, aW X (Qp 3) 8 inn, aW X (Qp 4) 8 ac, aW X (Qp 5) 20 ag, aW X (Qp 6) 20 ai, aW X (Qp 7) 20 et, aW X (Qp 8) 20 xt] (fun (z : Int) (_ : Unit) => z = st v (ns v)) (fun (_ : Unit) => [pnW h qt q1 q qs qc qh, poW q Qp ((ns v : Nat) : Int) ((nr v : Nat) : Int) ((na v : Nat) : Int), aW X (Qp 0) 10 sl, aW X (Qp 1) 8 vo, aW X (Qp 2) 8 ou, aW X (Qp 3) 8 inn, aW X (Qp 4) 8 ac, aW X (Qp 5) 20 ag, aW X (Qp 6) 20 ai, aW X (Qp 7) 20 et, aW X (Qp 8) 20 xt]) := by
  refine Ci.ofW (cc := cX5_playLength) (maxL := 1) (by decide) rfl (Nat.le_of_ble_eq_true rfl) ?_
  intro p_ e_ s_ m_ below meth c_ A Q_ S hA hAM hH hS hret ls hl
  have hl : lv_has ls 1 [(0, .ref (h))] := hl
  have hk1 := hv.nr8
  have hk2 := hv.na20
  have hk3 := hv.ns10
  refine lv_aload_n S.1 S.2.1 dX5_playLength_0 rfl (lv_at hl 0 rfl) ?_
  refine zv_get (v := .ref (q)) S hAM hH nX5_playLength_X5 0 rfl rfl 2 (by decide) mX5_playLength_1 rfl rfl dX5_playLength_1 ?_
  refine lv_aload_n S.1 S.2.1 dX5_playLength_4 rfl (lv_at hl 0 rfl) ?_
  refine zv_get (v := .ref (q)) S hAM hH nX5_playLength_X5 0 rfl rfl 2 (by decide) mX5_playLength_1 rfl rfl dX5_playLength_5 ?_
  refine zv_get (v := .int (iI ((ns v : Nat) : Int))) S hAM hH nX5_playLength_X2 1 rfl rfl 0 (by decide) mX5_playLength_2 rfl rfl dX5_playLength_8 ?_
  refine zc_Vi (n := 1) (As := [.int (iI ((ns v : Nat) : Int))]) (rest := []) S hAM hA (kX2_startOf l X q Qp v sl vo ou inn ac ag ai et xt (ns v) hv hP (by omega)) rfl gX5_playLength_X2_startOf  (by decide +kernel) ⟨Nat.le_of_ble_eq_true rfl, Nat.le_of_ble_eq_true rfl⟩ hH hS [1, 2, 3, 4, 5, 6, 7, 8, 9, 10, 0] rfl 11 rfl (by decide) 2 0 rfl rfl rfl hl.1 rfl (Nat.le_of_ble_eq_true rfl) dX5_playLength_11 ⟨Nat.le_of_ble_eq_true rfl, Nat.le_of_ble_eq_true rfl⟩ (fun z2 _ H locs hp3 hH hS => ?_)
  have hH : Hold X A [poW q Qp ((ns v : Nat) : Int) ((nr v : Nat) : Int) ((na v : Nat) : Int), aW X (Qp 0) 10 sl, aW X (Qp 1) 8 vo, aW X (Qp 2) 8 ou, aW X (Qp 3) 8 inn, aW X (Qp 4) 8 ac, aW X (Qp 5) 20 ag, aW X (Qp 6) 20 ai, aW X (Qp 7) 20 et, aW X (Qp 8) 20 xt, pnW h qt q1 q qs qc qh].flatten H := hH
  obtain rfl := hp3
  have hH : Hold X A [pnW h qt q1 q qs qc qh, poW q Qp ((ns v : Nat) : Int) ((nr v : Nat) : Int) ((na v : Nat) : Int), aW X (Qp 0) 10 sl, aW X (Qp 1) 8 vo, aW X (Qp 2) 8 ou, aW X (Qp 3) 8 inn, aW X (Qp 4) 8 ac, aW X (Qp 5) 20 ag, aW X (Qp 6) 20 ai, aW X (Qp 7) 20 et, aW X (Qp 8) 20 xt].flatten _ := hH.pick [10, 0, 1, 2, 3, 4, 5, 6, 7, 8, 9] rfl 11 rfl (by decide)
  exact hret 14 ls _ _ (st v (ns v)) () dX5_playLength_14 rfl rfl hH hS

theorem mX5_onStage_1 : Cond.fieldLink RX5 23 "RoleDoublingPlanner" "play" "LRoleDoublingPlanner$Play;" ∈ wsX5_onStage := List.mem_of_getElem? (i := 1) rfl
theorem nX5_onStage_X5 : ∀ w ∈ wsX50, w ∈ wsX5_onStage := fun _ h => List.mem_cons_of_mem _ (List.mem_append_left _ (List.mem_append_right _ h))
theorem mX5_onStage_2 : Cond.fieldLink RX5 83 "RoleDoublingPlanner$Play" "scenes" "I" ∈ wsX5_onStage := List.mem_of_getElem? (i := 2) rfl
theorem nX5_onStage_X2 : ∀ w ∈ wsX20, w ∈ wsX5_onStage := fun _ h => List.mem_cons_of_mem _ (List.mem_append_right _ h)
set_option maxHeartbeats 4000000 in
set_option maxRecDepth 100000 in
theorem kX5_onStage (l : Launch) (X : XT) (h : Nat) (qt : Nat) (q1 : Nat) (q : Nat) (qs : Nat) (qc : Nat) (qh : Nat) (Qp : Nat → Nat) (v : Nat → Int) (sl : Nat → Int) (vo : Nat → Int) (ou : Nat → Int) (inn : Nat → Int) (ac : Nat → Int) (ag : Nat → Int) (ai : Nat → Int) (et : Nat → Int) (xt : Nat → Int) (t : Int) (hv : okR v) (hP : PA v sl vo ou inn ac ag ai et xt) (ht : inR t) : Ci l yX5_onStage wsX5_onStage (rmD 2) X [.ref h, .int (iI (t))] [pnW h qt q1 q qs qc qh, poW q Qp ((ns v : Nat) : Int) ((nr v : Nat) : Int) ((na v : Nat) : Int), aW X (Qp 0) 10 sl, aW X (Qp 1) 8 vo, aW X (Qp 2) 8 ou, aW X (Qp 3) 8 inn, aW X (Qp 4) 8 ac, aW X (Qp 5) 20 ag, aW X (Qp 6) 20 ai, aW X (Qp 7) 20 et, aW X (Qp 8) 20 xt] (fun (z : Int) (_ : Unit) => z = (if 0 ≤ t ∧ t < st v (ns v) then ((ra v t (na v) : Nat) : Int) else -1001)) (fun (_ : Unit) => [pnW h qt q1 q qs qc qh, poW q Qp ((ns v : Nat) : Int) ((nr v : Nat) : Int) ((na v : Nat) : Int), aW X (Qp 0) 10 sl, aW X (Qp 1) 8 vo, aW X (Qp 2) 8 ou, aW X (Qp 3) 8 inn, aW X (Qp 4) 8 ac, aW X (Qp 5) 20 ag, aW X (Qp 6) 20 ai, aW X (Qp 7) 20 et, aW X (Qp 8) 20 xt]) := by
  refine Ci.ofW (cc := cX5_onStage) (maxL := 2) (by decide) rfl (Nat.le_of_ble_eq_true rfl) ?_
  intro p_ e_ s_ m_ below meth c_ A Q_ S hA hAM hH hS hret ls hl
  have hl : lv_has ls 2 [(0, .ref (h)), (1, .int (iI (t)))] := hl
  have hk1 := hv.nr8
  have hk2 := hv.na20
  have hk3 := hv.ns10
  refine lv_iload_n S.1 S.2.1 dX5_onStage_0 rfl (lv_at hl 1 rfl) ?_
  refine zv_if_lt (tgt := 22) S dX5_onStage_1 (by decide) (by omega) (fun c_1 => ?_) (fun c_1 => ?_)
  · skip
    refine lv_sipush (v := iI (-1001)) S.1 S.2.1 dX5_onStage_22 (by decide) ?_
    exact hret 25 ls _ _ (-1001) () dX5_onStage_25 rfl (by split <;> first | rfl | (exfalso; omega)) hH hS
  · skip
    refine lv_iload_n S.1 S.2.1 dX5_onStage_4 rfl (lv_at hl 1 rfl) ?_
    refine lv_aload_n S.1 S.2.1 dX5_onStage_5 rfl (lv_at hl 0 rfl) ?_
    refine zv_get (v := .ref (q)) S hAM hH nX5_onStage_X5 0 rfl rfl 2 (by decide) mX5_onStage_1 rfl rfl dX5_onStage_6 ?_
    refine lv_aload_n S.1 S.2.1 dX5_onStage_9 rfl (lv_at hl 0 rfl) ?_
    refine zv_get (v := .ref (q)) S hAM hH nX5_onStage_X5 0 rfl rfl 2 (by decide) mX5_onStage_1 rfl rfl dX5_onStage_10 ?_
    refine zv_get (v := .int (iI ((ns v : Nat) : Int))) S hAM hH nX5_onStage_X2 1 rfl rfl 0 (by decide) mX5_onStage_2 rfl rfl dX5_onStage_13 ?_
    refine zc_Vi (n := 1) (As := [.int (iI ((ns v : Nat) : Int))]) (rest := [.int (iI (t))]) S hAM hA (kX2_startOf l X q Qp v sl vo ou inn ac ag ai et xt (ns v) hv hP (by omega)) rfl gX5_onStage_X2_startOf  (by decide +kernel) ⟨Nat.le_of_ble_eq_true rfl, Nat.le_of_ble_eq_true rfl⟩ hH hS [1, 2, 3, 4, 5, 6, 7, 8, 9, 10, 0] rfl 11 rfl (by decide) 2 0 rfl rfl rfl hl.1 rfl (Nat.le_of_ble_eq_true rfl) dX5_onStage_16 ⟨Nat.le_of_ble_eq_true rfl, Nat.le_of_ble_eq_true rfl⟩ (fun z2 _ H locs hp3 hH hS => ?_)
    have hH : Hold X A [poW q Qp ((ns v : Nat) : Int) ((nr v : Nat) : Int) ((na v : Nat) : Int), aW X (Qp 0) 10 sl, aW X (Qp 1) 8 vo, aW X (Qp 2) 8 ou, aW X (Qp 3) 8 inn, aW X (Qp 4) 8 ac, aW X (Qp 5) 20 ag, aW X (Qp 6) 20 ai, aW X (Qp 7) 20 et, aW X (Qp 8) 20 xt, pnW h qt q1 q qs qc qh].flatten H := hH
    obtain rfl := hp3
    refine zv_icmp_lt (tgt := 26) S dX5_onStage_19 (by decide) (by omega) (hv.stR _ (by omega)) (fun c_19 => ?_) (fun c_19 => ?_)
    · skip
      refine lv_aload_n S.1 S.2.1 dX5_onStage_26 rfl (lv_at hl 0 rfl) ?_
      refine zv_get (v := .ref (q)) S hAM hH nX5_onStage_X5 10 rfl rfl 2 (by decide) mX5_onStage_1 rfl rfl dX5_onStage_27 ?_
      refine lv_iload_n S.1 S.2.1 dX5_onStage_30 rfl (lv_at hl 1 rfl) ?_
      refine zc_Vi (n := 1) (As := [.int (iI (t))]) (rest := []) S hAM hA (kX2_rolesAt l X q Qp v sl vo ou inn ac ag ai et xt t hv hP (by omega)) rfl gX5_onStage_X2_rolesAt  (by decide +kernel) ⟨Nat.le_of_ble_eq_true rfl, Nat.le_of_ble_eq_true rfl⟩ hH hS [0, 1, 2, 3, 4, 5, 6, 7, 8, 9, 10] rfl 11 rfl (List.Perm.refl _) 2 0 rfl rfl rfl hl.1 rfl (Nat.le_of_ble_eq_true rfl) dX5_onStage_31 ⟨Nat.le_of_ble_eq_true rfl, Nat.le_of_ble_eq_true rfl⟩ (fun z5 _ H locs hp6 hH hS => ?_)
      have hH : Hold X A [poW q Qp ((ns v : Nat) : Int) ((nr v : Nat) : Int) ((na v : Nat) : Int), aW X (Qp 0) 10 sl, aW X (Qp 1) 8 vo, aW X (Qp 2) 8 ou, aW X (Qp 3) 8 inn, aW X (Qp 4) 8 ac, aW X (Qp 5) 20 ag, aW X (Qp 6) 20 ai, aW X (Qp 7) 20 et, aW X (Qp 8) 20 xt, pnW h qt q1 q qs qc qh].flatten H := hH
      obtain rfl := hp6
      have hH : Hold X A [pnW h qt q1 q qs qc qh, poW q Qp ((ns v : Nat) : Int) ((nr v : Nat) : Int) ((na v : Nat) : Int), aW X (Qp 0) 10 sl, aW X (Qp 1) 8 vo, aW X (Qp 2) 8 ou, aW X (Qp 3) 8 inn, aW X (Qp 4) 8 ac, aW X (Qp 5) 20 ag, aW X (Qp 6) 20 ai, aW X (Qp 7) 20 et, aW X (Qp 8) 20 xt].flatten _ := hH.pick [10, 0, 1, 2, 3, 4, 5, 6, 7, 8, 9] rfl 11 rfl (by decide)
      exact hret 34 ls _ _ (((ra v t (na v) : Nat) : Int)) () dX5_onStage_34 rfl (by split <;> first | rfl | (exfalso; omega)) hH hS
    · skip
      refine lv_sipush (v := iI (-1001)) S.1 S.2.1 dX5_onStage_22 (by decide) ?_
      have hH : Hold X A [pnW h qt q1 q qs qc qh, poW q Qp ((ns v : Nat) : Int) ((nr v : Nat) : Int) ((na v : Nat) : Int), aW X (Qp 0) 10 sl, aW X (Qp 1) 8 vo, aW X (Qp 2) 8 ou, aW X (Qp 3) 8 inn, aW X (Qp 4) 8 ac, aW X (Qp 5) 20 ag, aW X (Qp 6) 20 ai, aW X (Qp 7) 20 et, aW X (Qp 8) 20 xt].flatten _ := hH.pick [10, 0, 1, 2, 3, 4, 5, 6, 7, 8, 9] rfl 11 rfl (by decide)
      exact hret 25 ls _ _ (-1001) () dX5_onStage_25 rfl (by split <;> first | rfl | (exfalso; omega)) hH hS

theorem mX5_peak_1 : Cond.fieldLink RX5 23 "RoleDoublingPlanner" "play" "LRoleDoublingPlanner$Play;" ∈ wsX5_peak := List.mem_of_getElem? (i := 1) rfl
theorem nX5_peak_X5 : ∀ w ∈ wsX50, w ∈ wsX5_peak := fun _ h => List.mem_cons_of_mem _ (List.mem_append_left _ (List.mem_append_right _ h))
theorem mX5_peak_2 : Cond.fieldLink RX5 93 "RoleDoublingPlanner$Play" "appearances" "I" ∈ wsX5_peak := List.mem_of_getElem? (i := 2) rfl
theorem nX5_peak_X2 : ∀ w ∈ wsX20, w ∈ wsX5_peak := fun _ h => List.mem_cons_of_mem _ (List.mem_append_right _ h)
theorem mX5_peak_3 : Cond.fieldLink RX5 169 "RoleDoublingPlanner$Play" "enterTime" "[I" ∈ wsX5_peak := List.mem_of_getElem? (i := 3) rfl
theorem mX5_peak_4 : Cond.methodLink RX5 172 Lib.Math.max.name ∈ wsX5_peak := List.mem_of_getElem? (i := 4) rfl
theorem mX5_peak_5 : Cond.static Lib.Math.max.name ∈ wsX5_peak := List.mem_of_getElem? (i := 5) rfl
theorem mX5_peak_6 : Cond.initialized "java/lang/Math" ∈ wsX5_peak := List.mem_of_getElem? (i := 6) rfl
theorem mX5_peak_7 : Cond.code Lib.Math.max.name Lib.Math.max.code 2 (some .int) ∈ wsX5_peak := List.mem_of_getElem? (i := 7) rfl
set_option maxHeartbeats 4000000 in
set_option maxRecDepth 100000 in
theorem kX5_peak (l : Launch) (X : XT) (h : Nat) (qt : Nat) (q1 : Nat) (q : Nat) (qs : Nat) (qc : Nat) (qh : Nat) (Qp : Nat → Nat) (v : Nat → Int) (sl : Nat → Int) (vo : Nat → Int) (ou : Nat → Int) (inn : Nat → Int) (ac : Nat → Int) (ag : Nat → Int) (ai : Nat → Int) (et : Nat → Int) (xt : Nat → Int) (hv : okR v) (hP : PA v sl vo ou inn ac ag ai et xt) : Ci l yX5_peak wsX5_peak (rmD 2) X [.ref h] [pnW h qt q1 q qs qc qh, poW q Qp ((ns v : Nat) : Int) ((nr v : Nat) : Int) ((na v : Nat) : Int), aW X (Qp 0) 10 sl, aW X (Qp 1) 8 vo, aW X (Qp 2) 8 ou, aW X (Qp 3) 8 inn, aW X (Qp 4) 8 ac, aW X (Qp 5) 20 ag, aW X (Qp 6) 20 ai, aW X (Qp 7) 20 et, aW X (Qp 8) 20 xt] (fun (z : Int) (_ : Unit) => z = ((pk v (na v) : Nat) : Int)) (fun (_ : Unit) => [pnW h qt q1 q qs qc qh, poW q Qp ((ns v : Nat) : Int) ((nr v : Nat) : Int) ((na v : Nat) : Int), aW X (Qp 0) 10 sl, aW X (Qp 1) 8 vo, aW X (Qp 2) 8 ou, aW X (Qp 3) 8 inn, aW X (Qp 4) 8 ac, aW X (Qp 5) 20 ag, aW X (Qp 6) 20 ai, aW X (Qp 7) 20 et, aW X (Qp 8) 20 xt]) := by
  refine Ci.ofW (cc := cX5_peak) (maxL := 3) (by decide) rfl (Nat.le_of_ble_eq_true rfl) ?_
  intro p_ e_ s_ m_ below meth c_ A Q_ S hA hAM hH hS hret ls hl
  have hl : lv_has ls 3 [(0, .ref (h))] := hl
  have hk1 := hv.nr8
  have hk2 := hv.na20
  have hk3 := hv.ns10
  refine lv_iconst (v := iI (((0 : Nat) : Int))) S.1 S.2.1 dX5_peak_0 (by decide) ?_
  refine lv_istore_n (lv' := [(1, .int (iI ((0 : Nat) : Int))), (0, .ref (h))]) S.1 S.2.1 dX5_peak_1 rfl hl (by decide) rfl (fun ls hl => ?_)
  refine lv_iconst (v := iI (((0 : Nat) : Int))) S.1 S.2.1 dX5_peak_2 (by decide) ?_
  refine lv_istore_n (lv' := [(2, .int (iI ((0 : Nat) : Int))), (1, .int (iI ((0 : Nat) : Int))), (0, .ref (h))]) S.1 S.2.1 dX5_peak_3 rfl hl (by decide) rfl (fun ls hl => ?_)
  have lp4 : ∀ (fu_ : Nat) (a : Nat) (m : Nat), na v - a < fu_ → (a ≤ na v) → (m = pk v a) → (m ≤ 8) → ∀ (H : Heap) (locs : List Loc), Hold X A [pnW h qt q1 q qs qc qh, poW q Qp ((ns v : Nat) : Int) ((nr v : Nat) : Int) ((na v : Nat) : Int), aW X (Qp 0) 10 sl, aW X (Qp 1) 8 vo, aW X (Qp 2) 8 ou, aW X (Qp 3) 8 inn, aW X (Qp 4) 8 ac, aW X (Qp 5) 20 ag, aW X (Qp 6) 20 ai, aW X (Qp 7) 20 et, aW X (Qp 8) 20 xt].flatten H → va_S A s_.heap H locs → ∀ ls : Array Slot, lv_has ls 3 [(2, .int (iI ((a : Nat) : Int))), (1, .int (iI ((m : Nat) : Int))), (0, .ref (h))] → W p_ l e_ (rmD 2) s_ m_ (List.toArray [.ref (h)]) below meth c_ H locs 0 0 Q_ (F0 m_ 4 ls []) := by
    intro fu_
    induction fu_ with
    | zero => intro a m hmu ha hm hm8 H locs hH hS ls hl; exact absurd hmu (Nat.not_lt_zero _)
    | succ fu_ ih4 => 
      intro a m hmu ha hm hm8 H locs hH hS ls hl
      refine lv_iload_n S.1 S.2.1 dX5_peak_4 rfl (lv_at hl 0 rfl) ?_
      refine lv_aload_n S.1 S.2.1 dX5_peak_5 rfl (lv_at hl 2 rfl) ?_
      refine zv_get (v := .ref (q)) S hAM hH nX5_peak_X5 0 rfl rfl 2 (by decide) mX5_peak_1 rfl rfl dX5_peak_6 ?_
      refine zv_get (v := .int (iI ((na v : Nat) : Int))) S hAM hH nX5_peak_X2 1 rfl rfl 2 (by decide) mX5_peak_2 rfl rfl dX5_peak_9 ?_
      refine zv_icmp_ge (tgt := 45) S dX5_peak_12 (by decide) (by omega) (by omega) (fun c_12 => ?_) (fun c_12 => ?_)
      · skip
        refine lv_iload_n S.1 S.2.1 dX5_peak_45 rfl (lv_at hl 1 rfl) ?_
        exact hret 46 ls _ _ (((m : Nat) : Int)) () dX5_peak_46 rfl (by rw [hm, show a = na v by omega]) hH hS
      · skip
        refine lv_iload_n S.1 S.2.1 dX5_peak_15 rfl (lv_at hl 1 rfl) ?_
        refine lv_aload_n S.1 S.2.1 dX5_peak_16 rfl (lv_at hl 2 rfl) ?_
        refine zv_get (v := .ref (q)) S hAM hH nX5_peak_X5 0 rfl rfl 2 (by decide) mX5_peak_1 rfl rfl dX5_peak_17 ?_
        refine lv_aload_n S.1 S.2.1 dX5_peak_20 rfl (lv_at hl 2 rfl) ?_
        refine zv_get (v := .ref (q)) S hAM hH nX5_peak_X5 0 rfl rfl 2 (by decide) mX5_peak_1 rfl rfl dX5_peak_21 ?_
        refine zv_get (v := .ref (Qp 7)) S hAM hH nX5_peak_X2 1 rfl rfl 10 (by decide) mX5_peak_3 rfl rfl dX5_peak_24 ?_
        refine lv_iload_n S.1 S.2.1 dX5_peak_27 rfl (lv_at hl 0 rfl) ?_
        refine zv_iald S hAM hH 9 rfl (a) rfl (by omega) (by decide) dX5_peak_28 ?_
        refine zv_top (z := et a) (z2 := eT v a) (hP.2.2 a (by omega)).2.2.1 ?_
        refine zc_Vi (n := 1) (As := [.int (iI (eT v a))]) (rest := [.int (iI ((m : Nat) : Int))]) S hAM hA (kX2_rolesAt l X q Qp v sl vo ou inn ac ag ai et xt (eT v a) hv hP (hv.eTR _ (by omega))) rfl gX5_peak_X2_rolesAt  (by decide +kernel) ⟨Nat.le_of_ble_eq_true rfl, Nat.le_of_ble_eq_true rfl⟩ hH hS [1, 2, 3, 4, 5, 6, 7, 8, 9, 10, 0] rfl 11 rfl (by decide) 2 0 rfl rfl rfl hl.1 rfl (Nat.le_of_ble_eq_true rfl) dX5_peak_29 ⟨Nat.le_of_ble_eq_true rfl, Nat.le_of_ble_eq_true rfl⟩ (fun z2 _ H locs hp3 hH hS => ?_)
        have hH : Hold X A [poW q Qp ((ns v : Nat) : Int) ((nr v : Nat) : Int) ((na v : Nat) : Int), aW X (Qp 0) 10 sl, aW X (Qp 1) 8 vo, aW X (Qp 2) 8 ou, aW X (Qp 3) 8 inn, aW X (Qp 4) 8 ac, aW X (Qp 5) 20 ag, aW X (Qp 6) 20 ai, aW X (Qp 7) 20 et, aW X (Qp 8) 20 xt, pnW h qt q1 q qs qc qh].flatten H := hH
        obtain rfl := hp3
        refine zc_Si (n := 1) (As := [.int (iI ((ra v (eT v a) (na v) : Nat) : Int))]) (rest := [.int (iI ((m : Nat) : Int))]) S hAM hA (kJ_bitCount l X (ra v (eT v a) (na v)) (ra_lt hv _ _ (by omega))) rfl gX5_peak_J6_bitCount_0f7a4  (by decide +kernel) ⟨Nat.le_of_ble_eq_true rfl, Nat.le_of_ble_eq_true rfl⟩ hH hS [0, 1, 2, 3, 4, 5, 6, 7, 8, 9, 10] rfl 11 rfl (List.Perm.refl _)  rfl hl.1 rfl (Nat.le_of_ble_eq_true rfl) dX5_peak_32 ⟨Nat.le_of_ble_eq_true rfl, Nat.le_of_ble_eq_true rfl⟩ (fun z5 _ H locs hp6 hH hS => ?_)
        have hH : Hold X A [poW q Qp ((ns v : Nat) : Int) ((nr v : Nat) : Int) ((na v : Nat) : Int), aW X (Qp 0) 10 sl, aW X (Qp 1) 8 vo, aW X (Qp 2) 8 ou, aW X (Qp 3) 8 inn, aW X (Qp 4) 8 ac, aW X (Qp 5) 20 ag, aW X (Qp 6) 20 ai, aW X (Qp 7) 20 et, aW X (Qp 8) 20 xt, pnW h qt q1 q qs qc qh].flatten H := hH
        obtain rfl := hp6
        have hp8 := pop_8 _ (ra_lt hv (eT v a) (na v) (by omega))
        refine zv_mmax (z := (((max m (pop (ra v (eT v a) (na v)))) : Nat) : Int)) S hl.1 mX5_peak_4 mX5_peak_5 mX5_peak_6 mX5_peak_7 (by omega) (by have := pop_8 _ (ra_lt hv (eT v a) (na v) (by omega)); omega) (by omega) (Nat.le_of_ble_eq_true rfl) (Nat.le_of_ble_eq_true rfl) (Nat.le_of_ble_eq_true rfl) (Nat.le_of_ble_eq_true rfl) dX5_peak_35 ?_
        refine lv_istore_n (lv' := [(1, .int (iI (((max m (pop (ra v (eT v a) (na v)))) : Nat) : Int))), (2, .int (iI ((a : Nat) : Int))), (0, .ref (h))]) S.1 S.2.1 dX5_peak_38 rfl hl (by decide) rfl (fun ls hl => ?_)
        refine zv_iinc (z := (((a + 1) : Nat) : Int)) (lv' := [(2, .int (iI (((a + 1) : Nat) : Int))), (1, .int (iI (((max m (pop (ra v (eT v a) (na v)))) : Nat) : Int))), (0, .ref (h))]) S dX5_peak_39 hl (k := 1) rfl (by omega) (by decide) rfl (fun ls hl => ?_)
        refine lv_goto (tgt := 4) S.1 S.2.1 dX5_peak_42 (by decide) ?_
        have hH : Hold X A [pnW h qt q1 q qs qc qh, poW q Qp ((ns v : Nat) : Int) ((nr v : Nat) : Int) ((na v : Nat) : Int), aW X (Qp 0) 10 sl, aW X (Qp 1) 8 vo, aW X (Qp 2) 8 ou, aW X (Qp 3) 8 inn, aW X (Qp 4) 8 ac, aW X (Qp 5) 20 ag, aW X (Qp 6) 20 ai, aW X (Qp 7) 20 et, aW X (Qp 8) 20 xt].flatten _ := hH.pick [10, 0, 1, 2, 3, 4, 5, 6, 7, 8, 9] rfl 11 rfl (by decide)
        exact ih4  ((a + 1)) ((max m (pop (ra v (eT v a) (na v))))) (by omega) (by omega) (by rw [pk, ← hm]; split <;> omega) (by omega) _ _ hH hS ls (lv_sub hl [0, 1, 2] rfl)
  exact lp4 (na v - (0) + 1) (0) (0) (Nat.lt_succ_self _) (Nat.zero_le _) rfl (by omega) _ _ hH hS ls (lv_sub hl [0, 1, 2] rfl)

theorem mX5_rolesInScene_1 : Cond.fieldLink RX5 23 "RoleDoublingPlanner" "play" "LRoleDoublingPlanner$Play;" ∈ wsX5_rolesInScene := List.mem_of_getElem? (i := 1) rfl
theorem nX5_rolesInScene_X5 : ∀ w ∈ wsX50, w ∈ wsX5_rolesInScene := fun _ h => List.mem_cons_of_mem _ (List.mem_append_left _ (List.mem_append_right _ h))
theorem mX5_rolesInScene_2 : Cond.fieldLink RX5 93 "RoleDoublingPlanner$Play" "appearances" "I" ∈ wsX5_rolesInScene := List.mem_of_getElem? (i := 2) rfl
theorem nX5_rolesInScene_X2 : ∀ w ∈ wsX20, w ∈ wsX5_rolesInScene := fun _ h => List.mem_cons_of_mem _ (List.mem_append_right _ h)
theorem mX5_rolesInScene_3 : Cond.fieldLink RX5 181 "RoleDoublingPlanner$Play" "appearingIn" "[I" ∈ wsX5_rolesInScene := List.mem_of_getElem? (i := 3) rfl
theorem mX5_rolesInScene_4 : Cond.fieldLink RX5 184 "RoleDoublingPlanner$Play" "appearing" "[I" ∈ wsX5_rolesInScene := List.mem_of_getElem? (i := 4) rfl
set_option maxHeartbeats 4000000 in
set_option maxRecDepth 100000 in
theorem kX5_rolesInScene (l : Launch) (X : XT) (h : Nat) (qt : Nat) (q1 : Nat) (q : Nat) (qs : Nat) (qc : Nat) (qh : Nat) (Qp : Nat → Nat) (v : Nat → Int) (sl : Nat → Int) (vo : Nat → Int) (ou : Nat → Int) (inn : Nat → Int) (ac : Nat → Int) (ag : Nat → Int) (ai : Nat → Int) (et : Nat → Int) (xt : Nat → Int) (c0 : Int) (hv : okR v) (hP : PA v sl vo ou inn ac ag ai et xt) (hc0 : inR c0) : Ci l yX5_rolesInScene wsX5_rolesInScene (rmD 2) X [.ref h, .int (iI (c0))] [pnW h qt q1 q qs qc qh, poW q Qp ((ns v : Nat) : Int) ((nr v : Nat) : Int) ((na v : Nat) : Int), aW X (Qp 0) 10 sl, aW X (Qp 1) 8 vo, aW X (Qp 2) 8 ou, aW X (Qp 3) 8 inn, aW X (Qp 4) 8 ac, aW X (Qp 5) 20 ag, aW X (Qp 6) 20 ai, aW X (Qp 7) 20 et, aW X (Qp 8) 20 xt] (fun (z : Int) (_ : Unit) => z = (if 0 ≤ c0 ∧ c0 < ((ns v : Nat) : Int) then ((ris v c0 (na v) : Nat) : Int) else -1001)) (fun (_ : Unit) => [pnW h qt q1 q qs qc qh, poW q Qp ((ns v : Nat) : Int) ((nr v : Nat) : Int) ((na v : Nat) : Int), aW X (Qp 0) 10 sl, aW X (Qp 1) 8 vo, aW X (Qp 2) 8 ou, aW X (Qp 3) 8 inn, aW X (Qp 4) 8 ac, aW X (Qp 5) 20 ag, aW X (Qp 6) 20 ai, aW X (Qp 7) 20 et, aW X (Qp 8) 20 xt]) := by
  refine Ci.ofW (cc := cX5_rolesInScene) (maxL := 4) (by decide) rfl (Nat.le_of_ble_eq_true rfl) ?_
  intro p_ e_ s_ m_ below meth c_ A Q_ S hA hAM hH hS hret ls hl
  have hl : lv_has ls 4 [(0, .ref (h)), (1, .int (iI (c0)))] := hl
  have hk1 := hv.nr8
  have hk2 := hv.na20
  have hk3 := hv.ns10
  refine lv_aload_n S.1 S.2.1 dX5_rolesInScene_0 rfl (lv_at hl 0 rfl) ?_
  refine zv_get (v := .ref (q)) S hAM hH nX5_rolesInScene_X5 0 rfl rfl 2 (by decide) mX5_rolesInScene_1 rfl rfl dX5_rolesInScene_1 ?_
  refine lv_iload_n S.1 S.2.1 dX5_rolesInScene_4 rfl (lv_at hl 1 rfl) ?_
  refine zc_Vi (n := 1) (As := [.int (iI (c0))]) (rest := []) S hAM hA (kX2_hasScene l X q Qp v sl vo ou inn ac ag ai et xt c0 hv hP (by omega)) rfl gX5_rolesInScene_X2_hasScene  (by decide +kernel) ⟨Nat.le_of_ble_eq_true rfl, Nat.le_of_ble_eq_true rfl⟩ hH hS [1, 2, 3, 4, 5, 6, 7, 8, 9, 10, 0] rfl 11 rfl (by decide) 2 0 rfl rfl rfl hl.1 rfl (Nat.le_of_ble_eq_true rfl) dX5_rolesInScene_5 ⟨Nat.le_of_ble_eq_true rfl, Nat.le_of_ble_eq_true rfl⟩ (fun z2 _ H locs hp3 hH hS => ?_)
  have hH : Hold X A [poW q Qp ((ns v : Nat) : Int) ((nr v : Nat) : Int) ((na v : Nat) : Int), aW X (Qp 0) 10 sl, aW X (Qp 1) 8 vo, aW X (Qp 2) 8 ou, aW X (Qp 3) 8 inn, aW X (Qp 4) 8 ac, aW X (Qp 5) 20 ag, aW X (Qp 6) 20 ai, aW X (Qp 7) 20 et, aW X (Qp 8) 20 xt, pnW h qt q1 q qs qc qh].flatten H := hH
  rcases hp3 with ⟨rfl, b_5⟩ | ⟨rfl, b_5⟩
  · refine zv_top (z := 1) (z2 := ((1 : Nat) : Int)) rfl ?_
    refine zv_if_ne (tgt := 15) S dX5_rolesInScene_8 (by decide) (by decide) (fun c_8 => ?_) (fun c_8 => ?_)
    · skip
      refine lv_iconst (v := iI (((0 : Nat) : Int))) S.1 S.2.1 dX5_rolesInScene_15 (by decide) ?_
      refine lv_istore_n (lv' := [(2, .int (iI ((0 : Nat) : Int))), (0, .ref (h)), (1, .int (iI (c0)))]) S.1 S.2.1 dX5_rolesInScene_16 rfl hl (by decide) rfl (fun ls hl => ?_)
      refine lv_iconst (v := iI (((0 : Nat) : Int))) S.1 S.2.1 dX5_rolesInScene_17 (by decide) ?_
      refine lv_istore_n (lv' := [(3, .int (iI ((0 : Nat) : Int))), (2, .int (iI ((0 : Nat) : Int))), (0, .ref (h)), (1, .int (iI (c0)))]) S.1 S.2.1 dX5_rolesInScene_18 rfl hl (by decide) rfl (fun ls hl => ?_)
      have hH : Hold X A [pnW h qt q1 q qs qc qh, poW q Qp ((ns v : Nat) : Int) ((nr v : Nat) : Int) ((na v : Nat) : Int), aW X (Qp 0) 10 sl, aW X (Qp 1) 8 vo, aW X (Qp 2) 8 ou, aW X (Qp 3) 8 inn, aW X (Qp 4) 8 ac, aW X (Qp 5) 20 ag, aW X (Qp 6) 20 ai, aW X (Qp 7) 20 et, aW X (Qp 8) 20 xt].flatten _ := hH.pick [10, 0, 1, 2, 3, 4, 5, 6, 7, 8, 9] rfl 11 rfl (by decide)
      have lp19 : ∀ (fu_ : Nat) (a : Nat) (set : Nat), na v - a < fu_ → (a ≤ na v) → (set = ris v c0 a) → ∀ (H : Heap) (locs : List Loc), Hold X A [pnW h qt q1 q qs qc qh, poW q Qp ((ns v : Nat) : Int) ((nr v : Nat) : Int) ((na v : Nat) : Int), aW X (Qp 0) 10 sl, aW X (Qp 1) 8 vo, aW X (Qp 2) 8 ou, aW X (Qp 3) 8 inn, aW X (Qp 4) 8 ac, aW X (Qp 5) 20 ag, aW X (Qp 6) 20 ai, aW X (Qp 7) 20 et, aW X (Qp 8) 20 xt].flatten H → va_S A s_.heap H locs → ∀ ls : Array Slot, lv_has ls 4 [(3, .int (iI ((a : Nat) : Int))), (2, .int (iI ((set : Nat) : Int))), (0, .ref (h)), (1, .int (iI (c0)))] → W p_ l e_ (rmD 2) s_ m_ (List.toArray [.ref (h), .int (iI (c0))]) below meth c_ H locs 0 0 Q_ (F0 m_ 19 ls []) := by
        intro fu_
        induction fu_ with
        | zero => intro a set hmu hi hset H locs hH hS ls hl; exact absurd hmu (Nat.not_lt_zero _)
        | succ fu_ ih19 => 
          intro a set hmu hi hset H locs hH hS ls hl
          refine lv_iload_n S.1 S.2.1 dX5_rolesInScene_19 rfl (lv_at hl 0 rfl) ?_
          refine lv_aload_n S.1 S.2.1 dX5_rolesInScene_20 rfl (lv_at hl 2 rfl) ?_
          refine zv_get (v := .ref (q)) S hAM hH nX5_rolesInScene_X5 0 rfl rfl 2 (by decide) mX5_rolesInScene_1 rfl rfl dX5_rolesInScene_21 ?_
          refine zv_get (v := .int (iI ((na v : Nat) : Int))) S hAM hH nX5_rolesInScene_X2 1 rfl rfl 2 (by decide) mX5_rolesInScene_2 rfl rfl dX5_rolesInScene_24 ?_
          refine zv_icmp_ge (tgt := 63) S dX5_rolesInScene_27 (by decide) (by omega) (by omega) (fun c_27 => ?_) (fun c_27 => ?_)
          · skip
            refine lv_iload_n S.1 S.2.1 dX5_rolesInScene_63 rfl (lv_at hl 1 rfl) ?_
            exact hret 64 ls _ _ (((set : Nat) : Int)) () dX5_rolesInScene_64 rfl (by rw [if_pos (by omega), hset, show a = na v by omega]) hH hS
          · skip
            refine lv_aload_n S.1 S.2.1 dX5_rolesInScene_30 rfl (lv_at hl 2 rfl) ?_
            refine zv_get (v := .ref (q)) S hAM hH nX5_rolesInScene_X5 0 rfl rfl 2 (by decide) mX5_rolesInScene_1 rfl rfl dX5_rolesInScene_31 ?_
            refine zv_get (v := .ref (Qp 6)) S hAM hH nX5_rolesInScene_X2 1 rfl rfl 9 (by decide) mX5_rolesInScene_3 rfl rfl dX5_rolesInScene_34 ?_
            refine lv_iload_n S.1 S.2.1 dX5_rolesInScene_37 rfl (lv_at hl 0 rfl) ?_
            refine zv_iald S hAM hH 8 rfl (a) rfl (by omega) (by decide) dX5_rolesInScene_38 ?_
            refine zv_top (z := ai a) (z2 := v ((45 + (4 * a)) + 1)) (hP.2.2 a (by omega)).2.1 ?_
            refine lv_iload_n S.1 S.2.1 dX5_rolesInScene_39 rfl (lv_at hl 3 rfl) ?_
            refine zv_icmp_ne (tgt := 57) S dX5_rolesInScene_40 (by decide) (hv.inRk _ (by omega)) (by omega) (fun c_40 => ?_) (fun c_40 => ?_)
            · skip
              refine zv_iinc (z := (((a + 1) : Nat) : Int)) (lv' := [(3, .int (iI (((a + 1) : Nat) : Int))), (2, .int (iI ((set : Nat) : Int))), (0, .ref (h)), (1, .int (iI (c0)))]) S dX5_rolesInScene_57 hl (k := 0) rfl (by omega) (by decide) rfl (fun ls hl => ?_)
              refine lv_goto (tgt := 19) S.1 S.2.1 dX5_rolesInScene_60 (by decide) ?_
              exact ih19  ((a + 1)) (set) (by omega) (by omega) (by rw [ris]; split <;> first | (rw [hset]; done) | (exfalso; omega)) _ _ hH hS ls (lv_sub hl [0, 1, 2, 3] rfl)
            · skip
              refine lv_iload_n S.1 S.2.1 dX5_rolesInScene_43 rfl (lv_at hl 1 rfl) ?_
              refine lv_iconst (v := iI (((1 : Nat) : Int))) S.1 S.2.1 dX5_rolesInScene_44 (by decide) ?_
              refine lv_aload_n S.1 S.2.1 dX5_rolesInScene_45 rfl (lv_at hl 2 rfl) ?_
              refine zv_get (v := .ref (q)) S hAM hH nX5_rolesInScene_X5 0 rfl rfl 2 (by decide) mX5_rolesInScene_1 rfl rfl dX5_rolesInScene_46 ?_
              refine zv_get (v := .ref (Qp 5)) S hAM hH nX5_rolesInScene_X2 1 rfl rfl 8 (by decide) mX5_rolesInScene_4 rfl rfl dX5_rolesInScene_49 ?_
              refine lv_iload_n S.1 S.2.1 dX5_rolesInScene_52 rfl (lv_at hl 0 rfl) ?_
              refine zv_iald S hAM hH 7 rfl (a) rfl (by omega) (by decide) dX5_rolesInScene_53 ?_
              refine zv_top (z := ag a) (z2 := ((rl v a : Nat) : Int)) ((hP.2.2 a (by omega)).1.trans (hv.rlE a (by omega))) ?_
              refine zv_ishl (z := (((2 ^ (rl v a)) : Nat) : Int)) S dX5_rolesInScene_54 (iI_shl1 _ (by have := hv.rl8 a (by omega); omega)) ?_
              refine zv_ior (z := (((set ||| (2 ^ (rl v a))) : Nat) : Int)) S dX5_rolesInScene_55 (iI_or _ _) ?_
              refine lv_istore_n (lv' := [(2, .int (iI (((set ||| (2 ^ (rl v a))) : Nat) : Int))), (3, .int (iI ((a : Nat) : Int))), (0, .ref (h)), (1, .int (iI (c0)))]) S.1 S.2.1 dX5_rolesInScene_56 rfl hl (by decide) rfl (fun ls hl => ?_)
              refine zv_iinc (z := (((a + 1) : Nat) : Int)) (lv' := [(3, .int (iI (((a + 1) : Nat) : Int))), (2, .int (iI (((set ||| (2 ^ (rl v a))) : Nat) : Int))), (0, .ref (h)), (1, .int (iI (c0)))]) S dX5_rolesInScene_57 hl (k := 1) rfl (by omega) (by decide) rfl (fun ls hl => ?_)
              refine lv_goto (tgt := 19) S.1 S.2.1 dX5_rolesInScene_60 (by decide) ?_
              exact ih19  ((a + 1)) ((set ||| (2 ^ (rl v a)))) (by omega) (by omega) (by rw [ris]; split <;> first | (rw [hset]; done) | (exfalso; omega)) _ _ hH hS ls (lv_sub hl [0, 1, 2, 3] rfl)
      exact lp19 (na v - (0) + 1) (0) (0) (Nat.lt_succ_self _) (Nat.zero_le _) rfl _ _ hH hS ls (lv_sub hl [0, 1, 2, 3] rfl)
    · exact (show False by omega).elim
  · refine zv_top (z := 0) (z2 := ((0 : Nat) : Int)) rfl ?_
    refine zv_if_ne (tgt := 15) S dX5_rolesInScene_8 (by decide) (by decide) (fun c_8 => ?_) (fun c_8 => ?_)
    · exact (show False by omega).elim
    · skip
      refine lv_sipush (v := iI (-1001)) S.1 S.2.1 dX5_rolesInScene_11 (by decide) ?_
      have hH : Hold X A [pnW h qt q1 q qs qc qh, poW q Qp ((ns v : Nat) : Int) ((nr v : Nat) : Int) ((na v : Nat) : Int), aW X (Qp 0) 10 sl, aW X (Qp 1) 8 vo, aW X (Qp 2) 8 ou, aW X (Qp 3) 8 inn, aW X (Qp 4) 8 ac, aW X (Qp 5) 20 ag, aW X (Qp 6) 20 ai, aW X (Qp 7) 20 et, aW X (Qp 8) 20 xt].flatten _ := hH.pick [10, 0, 1, 2, 3, 4, 5, 6, 7, 8, 9] rfl 11 rfl (by decide)
      exact hret 14 ls _ _ (-1001) () dX5_rolesInScene_14 rfl (by rw [if_neg (by omega)]) hH hS

theorem mX5_actorOf_1 : Cond.fieldLink RX5 23 "RoleDoublingPlanner" "play" "LRoleDoublingPlanner$Play;" ∈ wsX5_actorOf := List.mem_of_getElem? (i := 1) rfl
theorem nX5_actorOf_X5 : ∀ w ∈ wsX50, w ∈ wsX5_actorOf := fun _ h => List.mem_cons_of_mem _ (List.mem_append_left _ (List.mem_append_right _ h))
theorem mX5_actorOf_2 : Cond.fieldLink RX5 135 "RoleDoublingPlanner$Play" "actor" "[I" ∈ wsX5_actorOf := List.mem_of_getElem? (i := 2) rfl
theorem nX5_actorOf_X2 : ∀ w ∈ wsX20, w ∈ wsX5_actorOf := fun _ h => List.mem_cons_of_mem _ (List.mem_append_right _ h)
set_option maxHeartbeats 4000000 in
set_option maxRecDepth 100000 in
theorem kX5_actorOf (l : Launch) (X : XT) (h : Nat) (qt : Nat) (q1 : Nat) (q : Nat) (qs : Nat) (qc : Nat) (qh : Nat) (Qp : Nat → Nat) (v : Nat → Int) (sl : Nat → Int) (vo : Nat → Int) (ou : Nat → Int) (inn : Nat → Int) (ac : Nat → Int) (ag : Nat → Int) (ai : Nat → Int) (et : Nat → Int) (xt : Nat → Int) (r : Int) (hv : okR v) (hP : PA v sl vo ou inn ac ag ai et xt) (hr : inR r) : Ci l yX5_actorOf wsX5_actorOf (rmD 2) X [.ref h, .int (iI (r))] [pnW h qt q1 q qs qc qh, poW q Qp ((ns v : Nat) : Int) ((nr v : Nat) : Int) ((na v : Nat) : Int), aW X (Qp 0) 10 sl, aW X (Qp 1) 8 vo, aW X (Qp 2) 8 ou, aW X (Qp 3) 8 inn, aW X (Qp 4) 8 ac, aW X (Qp 5) 20 ag, aW X (Qp 6) 20 ai, aW X (Qp 7) 20 et, aW X (Qp 8) 20 xt] (fun (z : Int) (_ : Unit) => z = (if 0 ≤ r ∧ r < ((nr v : Nat) : Int) then (if v (36 + r.toNat) = -1 then -1004 else v (36 + r.toNat)) else -1001)) (fun (_ : Unit) => [pnW h qt q1 q qs qc qh, poW q Qp ((ns v : Nat) : Int) ((nr v : Nat) : Int) ((na v : Nat) : Int), aW X (Qp 0) 10 sl, aW X (Qp 1) 8 vo, aW X (Qp 2) 8 ou, aW X (Qp 3) 8 inn, aW X (Qp 4) 8 ac, aW X (Qp 5) 20 ag, aW X (Qp 6) 20 ai, aW X (Qp 7) 20 et, aW X (Qp 8) 20 xt]) := by
  refine Ci.ofW (cc := cX5_actorOf) (maxL := 3) (by decide) rfl (Nat.le_of_ble_eq_true rfl) ?_
  intro p_ e_ s_ m_ below meth c_ A Q_ S hA hAM hH hS hret ls hl
  have hl : lv_has ls 3 [(0, .ref (h)), (1, .int (iI (r)))] := hl
  have hk1 := hv.nr8
  have hk2 := hv.na20
  have hk3 := hv.ns10
  refine lv_aload_n S.1 S.2.1 dX5_actorOf_0 rfl (lv_at hl 0 rfl) ?_
  refine zv_get (v := .ref (q)) S hAM hH nX5_actorOf_X5 0 rfl rfl 2 (by decide) mX5_actorOf_1 rfl rfl dX5_actorOf_1 ?_
  refine lv_iload_n S.1 S.2.1 dX5_actorOf_4 rfl (lv_at hl 1 rfl) ?_
  refine zc_Vi (n := 1) (As := [.int (iI (r))]) (rest := []) S hAM hA (kX2_hasRole l X q Qp v sl vo ou inn ac ag ai et xt r hv hP (by omega)) rfl gX5_actorOf_X2_hasRole  (by decide +kernel) ⟨Nat.le_of_ble_eq_true rfl, Nat.le_of_ble_eq_true rfl⟩ hH hS [1, 2, 3, 4, 5, 6, 7, 8, 9, 10, 0] rfl 11 rfl (by decide) 2 0 rfl rfl rfl hl.1 rfl (Nat.le_of_ble_eq_true rfl) dX5_actorOf_5 ⟨Nat.le_of_ble_eq_true rfl, Nat.le_of_ble_eq_true rfl⟩ (fun z2 _ H locs hp3 hH hS => ?_)
  have hH : Hold X A [poW q Qp ((ns v : Nat) : Int) ((nr v : Nat) : Int) ((na v : Nat) : Int), aW X (Qp 0) 10 sl, aW X (Qp 1) 8 vo, aW X (Qp 2) 8 ou, aW X (Qp 3) 8 inn, aW X (Qp 4) 8 ac, aW X (Qp 5) 20 ag, aW X (Qp 6) 20 ai, aW X (Qp 7) 20 et, aW X (Qp 8) 20 xt, pnW h qt q1 q qs qc qh].flatten H := hH
  rcases hp3 with ⟨rfl, b_5⟩ | ⟨rfl, b_5⟩
  · refine zv_top (z := 1) (z2 := ((1 : Nat) : Int)) rfl ?_
    obtain ⟨rn, rfl⟩ : ∃ rn : Nat, r = ((rn : Nat) : Int) := ⟨r.toNat, by omega⟩
    refine zv_if_ne (tgt := 15) S dX5_actorOf_8 (by decide) (by decide) (fun c_8 => ?_) (fun c_8 => ?_)
    · skip
      refine lv_aload_n S.1 S.2.1 dX5_actorOf_15 rfl (lv_at hl 0 rfl) ?_
      refine zv_get (v := .ref (q)) S hAM hH nX5_actorOf_X5 10 rfl rfl 2 (by decide) mX5_actorOf_1 rfl rfl dX5_actorOf_16 ?_
      refine zv_get (v := .ref (Qp 4)) S hAM hH nX5_actorOf_X2 0 rfl rfl 7 (by decide) mX5_actorOf_2 rfl rfl dX5_actorOf_19 ?_
      refine lv_iload_n S.1 S.2.1 dX5_actorOf_22 rfl (lv_at hl 1 rfl) ?_
      refine zv_iald S hAM hH 5 rfl (rn) rfl (by omega) (by decide) dX5_actorOf_23 ?_
      refine zv_top (z := ac rn) (z2 := v (36 + rn)) (hP.2.1 rn (by omega)).2.2.2 ?_
      refine lv_istore_n (lv' := [(2, .int (iI (v (36 + rn)))), (0, .ref (h)), (1, .int (iI ((rn : Nat) : Int)))]) S.1 S.2.1 dX5_actorOf_24 rfl hl (by decide) rfl (fun ls hl => ?_)
      refine lv_iload_n S.1 S.2.1 dX5_actorOf_25 rfl (lv_at hl 0 rfl) ?_
      refine lv_iconst (v := iI (-1)) S.1 S.2.1 dX5_actorOf_26 (by decide) ?_
      refine zv_icmp_ne (tgt := 36) S dX5_actorOf_27 (by decide) (hv.inRk _ (by omega)) (by decide) (fun c_27 => ?_) (fun c_27 => ?_)
      · skip
        refine lv_iload_n S.1 S.2.1 dX5_actorOf_36 rfl (lv_at hl 0 rfl) ?_
        have hH : Hold X A [pnW h qt q1 q qs qc qh, poW q Qp ((ns v : Nat) : Int) ((nr v : Nat) : Int) ((na v : Nat) : Int), aW X (Qp 0) 10 sl, aW X (Qp 1) 8 vo, aW X (Qp 2) 8 ou, aW X (Qp 3) 8 inn, aW X (Qp 4) 8 ac, aW X (Qp 5) 20 ag, aW X (Qp 6) 20 ai, aW X (Qp 7) 20 et, aW X (Qp 8) 20 xt].flatten _ := hH.pick [10, 0, 1, 2, 3, 4, 5, 6, 7, 8, 9] rfl 11 rfl (by decide)
        exact hret 37 ls _ _ (v (36 + rn)) () dX5_actorOf_37 rfl (by rw [if_pos (by omega), Int.toNat_natCast]; split <;> first | rfl | (exfalso; omega)) hH hS
      · skip
        refine lv_sipush (v := iI (-1004)) S.1 S.2.1 dX5_actorOf_30 (by decide) ?_
        refine lv_goto (tgt := 37) S.1 S.2.1 dX5_actorOf_33 (by decide) ?_
        have hH : Hold X A [pnW h qt q1 q qs qc qh, poW q Qp ((ns v : Nat) : Int) ((nr v : Nat) : Int) ((na v : Nat) : Int), aW X (Qp 0) 10 sl, aW X (Qp 1) 8 vo, aW X (Qp 2) 8 ou, aW X (Qp 3) 8 inn, aW X (Qp 4) 8 ac, aW X (Qp 5) 20 ag, aW X (Qp 6) 20 ai, aW X (Qp 7) 20 et, aW X (Qp 8) 20 xt].flatten _ := hH.pick [10, 0, 1, 2, 3, 4, 5, 6, 7, 8, 9] rfl 11 rfl (by decide)
        exact hret 37 ls _ _ (-1004) () dX5_actorOf_37 rfl (by rw [if_pos (by omega), Int.toNat_natCast]; split <;> first | rfl | (exfalso; omega)) hH hS
    · exact (show False by omega).elim
  · refine zv_top (z := 0) (z2 := ((0 : Nat) : Int)) rfl ?_
    refine zv_if_ne (tgt := 15) S dX5_actorOf_8 (by decide) (by decide) (fun c_8 => ?_) (fun c_8 => ?_)
    · exact (show False by omega).elim
    · skip
      refine lv_sipush (v := iI (-1001)) S.1 S.2.1 dX5_actorOf_11 (by decide) ?_
      have hH : Hold X A [pnW h qt q1 q qs qc qh, poW q Qp ((ns v : Nat) : Int) ((nr v : Nat) : Int) ((na v : Nat) : Int), aW X (Qp 0) 10 sl, aW X (Qp 1) 8 vo, aW X (Qp 2) 8 ou, aW X (Qp 3) 8 inn, aW X (Qp 4) 8 ac, aW X (Qp 5) 20 ag, aW X (Qp 6) 20 ai, aW X (Qp 7) 20 et, aW X (Qp 8) 20 xt].flatten _ := hH.pick [10, 0, 1, 2, 3, 4, 5, 6, 7, 8, 9] rfl 11 rfl (by decide)
      exact hret 14 ls _ _ (-1001) () dX5_actorOf_14 rfl (by rw [if_neg (by omega)]) hH hS

theorem mX5_rolesOf_1 : Cond.fieldLink RX5 23 "RoleDoublingPlanner" "play" "LRoleDoublingPlanner$Play;" ∈ wsX5_rolesOf := List.mem_of_getElem? (i := 1) rfl
theorem nX5_rolesOf_X5 : ∀ w ∈ wsX50, w ∈ wsX5_rolesOf := fun _ h => List.mem_cons_of_mem _ (List.mem_append_left _ (List.mem_append_right _ h))
set_option maxHeartbeats 4000000 in
set_option maxRecDepth 100000 in
theorem kX5_rolesOf (l : Launch) (X : XT) (h : Nat) (qt : Nat) (q1 : Nat) (q : Nat) (qs : Nat) (qc : Nat) (qh : Nat) (Qp : Nat → Nat) (v : Nat → Int) (sl : Nat → Int) (vo : Nat → Int) (ou : Nat → Int) (inn : Nat → Int) (ac : Nat → Int) (ag : Nat → Int) (ai : Nat → Int) (et : Nat → Int) (xt : Nat → Int) (r : Int) (hv : okR v) (hP : PA v sl vo ou inn ac ag ai et xt) (hr : inR r) : Ci l yX5_rolesOf wsX5_rolesOf (rmD 2) X [.ref h, .int (iI (r))] [pnW h qt q1 q qs qc qh, poW q Qp ((ns v : Nat) : Int) ((nr v : Nat) : Int) ((na v : Nat) : Int), aW X (Qp 0) 10 sl, aW X (Qp 1) 8 vo, aW X (Qp 2) 8 ou, aW X (Qp 3) 8 inn, aW X (Qp 4) 8 ac, aW X (Qp 5) 20 ag, aW X (Qp 6) 20 ai, aW X (Qp 7) 20 et, aW X (Qp 8) 20 xt] (fun (z : Int) (_ : Unit) => z = (if 0 ≤ r ∧ r ≤ 7 then ((cb v r (nr v) : Nat) : Int) else -1001)) (fun (_ : Unit) => [pnW h qt q1 q qs qc qh, poW q Qp ((ns v : Nat) : Int) ((nr v : Nat) : Int) ((na v : Nat) : Int), aW X (Qp 0) 10 sl, aW X (Qp 1) 8 vo, aW X (Qp 2) 8 ou, aW X (Qp 3) 8 inn, aW X (Qp 4) 8 ac, aW X (Qp 5) 20 ag, aW X (Qp 6) 20 ai, aW X (Qp 7) 20 et, aW X (Qp 8) 20 xt]) := by
  refine Ci.ofW (cc := cX5_rolesOf) (maxL := 2) (by decide) rfl (Nat.le_of_ble_eq_true rfl) ?_
  intro p_ e_ s_ m_ below meth c_ A Q_ S hA hAM hH hS hret ls hl
  have hl : lv_has ls 2 [(0, .ref (h)), (1, .int (iI (r)))] := hl
  have hk1 := hv.nr8
  have hk2 := hv.na20
  have hk3 := hv.ns10
  refine lv_iload_n S.1 S.2.1 dX5_rolesOf_0 rfl (lv_at hl 1 rfl) ?_
  refine zc_Si (n := 1) (As := [.int (iI (r))]) (rest := []) S hAM hA (kX5_isActor l X r (by omega)) rfl gX5_rolesOf_X5_isActor  (by decide +kernel) ⟨Nat.le_of_ble_eq_true rfl, Nat.le_of_ble_eq_true rfl⟩ hH hS [0, 1, 2, 3, 4, 5, 6, 7, 8, 9, 10] rfl 11 rfl (List.Perm.refl _)  rfl hl.1 rfl (Nat.le_of_ble_eq_true rfl) dX5_rolesOf_1 ⟨Nat.le_of_ble_eq_true rfl, Nat.le_of_ble_eq_true rfl⟩ (fun z2 _ H locs hp3 hH hS => ?_)
  have hH : Hold X A [pnW h qt q1 q qs qc qh, poW q Qp ((ns v : Nat) : Int) ((nr v : Nat) : Int) ((na v : Nat) : Int), aW X (Qp 0) 10 sl, aW X (Qp 1) 8 vo, aW X (Qp 2) 8 ou, aW X (Qp 3) 8 inn, aW X (Qp 4) 8 ac, aW X (Qp 5) 20 ag, aW X (Qp 6) 20 ai, aW X (Qp 7) 20 et, aW X (Qp 8) 20 xt].flatten H := hH
  rcases hp3 with ⟨rfl, b_1⟩ | ⟨rfl, b_1⟩
  · refine zv_top (z := 1) (z2 := ((1 : Nat) : Int)) rfl ?_
    refine zv_if_eq (tgt := 18) S dX5_rolesOf_4 (by decide) (by decide) (fun c_4 => ?_) (fun c_4 => ?_)
    · exact (show False by omega).elim
    · skip
      refine lv_aload_n S.1 S.2.1 dX5_rolesOf_7 rfl (lv_at hl 0 rfl) ?_
      refine zv_get (v := .ref (q)) S hAM hH nX5_rolesOf_X5 0 rfl rfl 2 (by decide) mX5_rolesOf_1 rfl rfl dX5_rolesOf_8 ?_
      refine lv_iload_n S.1 S.2.1 dX5_rolesOf_11 rfl (lv_at hl 1 rfl) ?_
      refine zc_Vi (n := 1) (As := [.int (iI (r))]) (rest := []) S hAM hA (kX2_rolesWith l X q Qp v sl vo ou inn ac ag ai et xt r hv hP (by omega)) rfl gX5_rolesOf_X2_rolesWith  (by decide +kernel) ⟨Nat.le_of_ble_eq_true rfl, Nat.le_of_ble_eq_true rfl⟩ hH hS [1, 2, 3, 4, 5, 6, 7, 8, 9, 10, 0] rfl 11 rfl (by decide) 2 0 rfl rfl rfl hl.1 rfl (Nat.le_of_ble_eq_true rfl) dX5_rolesOf_12 ⟨Nat.le_of_ble_eq_true rfl, Nat.le_of_ble_eq_true rfl⟩ (fun z5 _ H locs hp6 hH hS => ?_)
      have hH : Hold X A [poW q Qp ((ns v : Nat) : Int) ((nr v : Nat) : Int) ((na v : Nat) : Int), aW X (Qp 0) 10 sl, aW X (Qp 1) 8 vo, aW X (Qp 2) 8 ou, aW X (Qp 3) 8 inn, aW X (Qp 4) 8 ac, aW X (Qp 5) 20 ag, aW X (Qp 6) 20 ai, aW X (Qp 7) 20 et, aW X (Qp 8) 20 xt, pnW h qt q1 q qs qc qh].flatten H := hH
      obtain rfl := hp6
      refine lv_goto (tgt := 21) S.1 S.2.1 dX5_rolesOf_15 (by decide) ?_
      have hH : Hold X A [pnW h qt q1 q qs qc qh, poW q Qp ((ns v : Nat) : Int) ((nr v : Nat) : Int) ((na v : Nat) : Int), aW X (Qp 0) 10 sl, aW X (Qp 1) 8 vo, aW X (Qp 2) 8 ou, aW X (Qp 3) 8 inn, aW X (Qp 4) 8 ac, aW X (Qp 5) 20 ag, aW X (Qp 6) 20 ai, aW X (Qp 7) 20 et, aW X (Qp 8) 20 xt].flatten _ := hH.pick [10, 0, 1, 2, 3, 4, 5, 6, 7, 8, 9] rfl 11 rfl (by decide)
      exact hret 21 ls _ _ (((cb v r (nr v) : Nat) : Int)) () dX5_rolesOf_21 rfl (by split <;> first | rfl | (exfalso; omega)) hH hS
  · refine zv_top (z := 0) (z2 := ((0 : Nat) : Int)) rfl ?_
    refine zv_if_eq (tgt := 18) S dX5_rolesOf_4 (by decide) (by decide) (fun c_4 => ?_) (fun c_4 => ?_)
    · skip
      refine lv_sipush (v := iI (-1001)) S.1 S.2.1 dX5_rolesOf_18 (by decide) ?_
      exact hret 21 ls _ _ (-1001) () dX5_rolesOf_21 rfl (by split <;> first | rfl | (exfalso; omega)) hH hS
    · exact (show False by omega).elim

theorem mX5_areTwoRoles_1 : Cond.fieldLink RX5 23 "RoleDoublingPlanner" "play" "LRoleDoublingPlanner$Play;" ∈ wsX5_areTwoRoles := List.mem_of_getElem? (i := 1) rfl
theorem nX5_areTwoRoles_X5 : ∀ w ∈ wsX50, w ∈ wsX5_areTwoRoles := fun _ h => List.mem_cons_of_mem _ (List.mem_append_left _ (List.mem_append_right _ h))
set_option maxHeartbeats 4000000 in
set_option maxRecDepth 100000 in
theorem kX5_areTwoRoles (l : Launch) (X : XT) (h : Nat) (qt : Nat) (q1 : Nat) (q : Nat) (qs : Nat) (qc : Nat) (qh : Nat) (Qp : Nat → Nat) (v : Nat → Int) (sl : Nat → Int) (vo : Nat → Int) (ou : Nat → Int) (inn : Nat → Int) (ac : Nat → Int) (ag : Nat → Int) (ai : Nat → Int) (et : Nat → Int) (xt : Nat → Int) (r : Int) (o : Int) (hv : okR v) (hP : PA v sl vo ou inn ac ag ai et xt) (hr : inR r) (ho : inR o) : Ci l yX5_areTwoRoles wsX5_areTwoRoles (rmD 2) X [.ref h, .int (iI (r)), .int (iI (o))] [pnW h qt q1 q qs qc qh, poW q Qp ((ns v : Nat) : Int) ((nr v : Nat) : Int) ((na v : Nat) : Int), aW X (Qp 0) 10 sl, aW X (Qp 1) 8 vo, aW X (Qp 2) 8 ou, aW X (Qp 3) 8 inn, aW X (Qp 4) 8 ac, aW X (Qp 5) 20 ag, aW X (Qp 6) 20 ai, aW X (Qp 7) 20 et, aW X (Qp 8) 20 xt] (fun (z : Int) (_ : Unit) => (z = 1 ∧ ((0 ≤ r ∧ r < ((nr v : Nat) : Int)) ∧ (0 ≤ o ∧ o < ((nr v : Nat) : Int)) ∧ ¬ r = o)) ∨ (z = 0 ∧ ¬ ((0 ≤ r ∧ r < ((nr v : Nat) : Int)) ∧ (0 ≤ o ∧ o < ((nr v : Nat) : Int)) ∧ ¬ r = o))) (fun (_ : Unit) => [pnW h qt q1 q qs qc qh, poW q Qp ((ns v : Nat) : Int) ((nr v : Nat) : Int) ((na v : Nat) : Int), aW X (Qp 0) 10 sl, aW X (Qp 1) 8 vo, aW X (Qp 2) 8 ou, aW X (Qp 3) 8 inn, aW X (Qp 4) 8 ac, aW X (Qp 5) 20 ag, aW X (Qp 6) 20 ai, aW X (Qp 7) 20 et, aW X (Qp 8) 20 xt]) := by
  refine Ci.ofW (cc := cX5_areTwoRoles) (maxL := 3) (by decide) rfl (Nat.le_of_ble_eq_true rfl) ?_
  intro p_ e_ s_ m_ below meth c_ A Q_ S hA hAM hH hS hret ls hl
  have hl : lv_has ls 3 [(0, .ref (h)), (1, .int (iI (r))), (2, .int (iI (o)))] := hl
  have hk1 := hv.nr8
  have hk2 := hv.na20
  have hk3 := hv.ns10
  refine lv_aload_n S.1 S.2.1 dX5_areTwoRoles_0 rfl (lv_at hl 0 rfl) ?_
  refine zv_get (v := .ref (q)) S hAM hH nX5_areTwoRoles_X5 0 rfl rfl 2 (by decide) mX5_areTwoRoles_1 rfl rfl dX5_areTwoRoles_1 ?_
  refine lv_iload_n S.1 S.2.1 dX5_areTwoRoles_4 rfl (lv_at hl 1 rfl) ?_
  refine zc_Vi (n := 1) (As := [.int (iI (r))]) (rest := []) S hAM hA (kX2_hasRole l X q Qp v sl vo ou inn ac ag ai et xt r hv hP (by omega)) rfl gX5_areTwoRoles_X2_hasRole  (by decide +kernel) ⟨Nat.le_of_ble_eq_true rfl, Nat.le_of_ble_eq_true rfl⟩ hH hS [1, 2, 3, 4, 5, 6, 7, 8, 9, 10, 0] rfl 11 rfl (by decide) 2 0 rfl rfl rfl hl.1 rfl (Nat.le_of_ble_eq_true rfl) dX5_areTwoRoles_5 ⟨Nat.le_of_ble_eq_true rfl, Nat.le_of_ble_eq_true rfl⟩ (fun z2 _ H locs hp3 hH hS => ?_)
  have hH : Hold X A [poW q Qp ((ns v : Nat) : Int) ((nr v : Nat) : Int) ((na v : Nat) : Int), aW X (Qp 0) 10 sl, aW X (Qp 1) 8 vo, aW X (Qp 2) 8 ou, aW X (Qp 3) 8 inn, aW X (Qp 4) 8 ac, aW X (Qp 5) 20 ag, aW X (Qp 6) 20 ai, aW X (Qp 7) 20 et, aW X (Qp 8) 20 xt, pnW h qt q1 q qs qc qh].flatten H := hH
  rcases hp3 with ⟨rfl, b_5⟩ | ⟨rfl, b_5⟩
  · refine zv_top (z := 1) (z2 := ((1 : Nat) : Int)) rfl ?_
    refine zv_if_eq (tgt := 31) S dX5_areTwoRoles_8 (by decide) (by decide) (fun c_8 => ?_) (fun c_8 => ?_)
    · exact (show False by omega).elim
    · skip
      refine lv_aload_n S.1 S.2.1 dX5_areTwoRoles_11 rfl (lv_at hl 0 rfl) ?_
      refine zv_get (v := .ref (q)) S hAM hH nX5_areTwoRoles_X5 10 rfl rfl 2 (by decide) mX5_areTwoRoles_1 rfl rfl dX5_areTwoRoles_12 ?_
      refine lv_iload_n S.1 S.2.1 dX5_areTwoRoles_15 rfl (lv_at hl 2 rfl) ?_
      refine zc_Vi (n := 1) (As := [.int (iI (o))]) (rest := []) S hAM hA (kX2_hasRole l X q Qp v sl vo ou inn ac ag ai et xt o hv hP (by omega)) rfl gX5_areTwoRoles_X2_hasRole  (by decide +kernel) ⟨Nat.le_of_ble_eq_true rfl, Nat.le_of_ble_eq_true rfl⟩ hH hS [0, 1, 2, 3, 4, 5, 6, 7, 8, 9, 10] rfl 11 rfl (List.Perm.refl _) 2 0 rfl rfl rfl hl.1 rfl (Nat.le_of_ble_eq_true rfl) dX5_areTwoRoles_16 ⟨Nat.le_of_ble_eq_true rfl, Nat.le_of_ble_eq_true rfl⟩ (fun z5 _ H locs hp6 hH hS => ?_)
      have hH : Hold X A [poW q Qp ((ns v : Nat) : Int) ((nr v : Nat) : Int) ((na v : Nat) : Int), aW X (Qp 0) 10 sl, aW X (Qp 1) 8 vo, aW X (Qp 2) 8 ou, aW X (Qp 3) 8 inn, aW X (Qp 4) 8 ac, aW X (Qp 5) 20 ag, aW X (Qp 6) 20 ai, aW X (Qp 7) 20 et, aW X (Qp 8) 20 xt, pnW h qt q1 q qs qc qh].flatten H := hH
      rcases hp6 with ⟨rfl, b_16⟩ | ⟨rfl, b_16⟩
      · refine zv_top (z := 1) (z2 := ((1 : Nat) : Int)) rfl ?_
        refine zv_if_eq (tgt := 31) S dX5_areTwoRoles_19 (by decide) (by decide) (fun c_19 => ?_) (fun c_19 => ?_)
        · exact (show False by omega).elim
        · skip
          refine lv_iload_n S.1 S.2.1 dX5_areTwoRoles_22 rfl (lv_at hl 1 rfl) ?_
          refine lv_iload_n S.1 S.2.1 dX5_areTwoRoles_23 rfl (lv_at hl 2 rfl) ?_
          refine zv_icmp_eq (tgt := 31) S dX5_areTwoRoles_24 (by decide) (by omega) (by omega) (fun c_24 => ?_) (fun c_24 => ?_)
          · skip
            refine lv_iconst (v := iI (((0 : Nat) : Int))) S.1 S.2.1 dX5_areTwoRoles_31 (by decide) ?_
            have hH : Hold X A [pnW h qt q1 q qs qc qh, poW q Qp ((ns v : Nat) : Int) ((nr v : Nat) : Int) ((na v : Nat) : Int), aW X (Qp 0) 10 sl, aW X (Qp 1) 8 vo, aW X (Qp 2) 8 ou, aW X (Qp 3) 8 inn, aW X (Qp 4) 8 ac, aW X (Qp 5) 20 ag, aW X (Qp 6) 20 ai, aW X (Qp 7) 20 et, aW X (Qp 8) 20 xt].flatten _ := hH.pick [10, 0, 1, 2, 3, 4, 5, 6, 7, 8, 9] rfl 11 rfl (by decide)
            exact hret 32 ls _ _ (((0 : Nat) : Int)) () dX5_areTwoRoles_32 rfl (by first | exact Or.inl ⟨rfl, by omega⟩ | exact Or.inr ⟨rfl, by omega⟩) hH hS
          · skip
            refine lv_iconst (v := iI (((1 : Nat) : Int))) S.1 S.2.1 dX5_areTwoRoles_27 (by decide) ?_
            refine lv_goto (tgt := 32) S.1 S.2.1 dX5_areTwoRoles_28 (by decide) ?_
            have hH : Hold X A [pnW h qt q1 q qs qc qh, poW q Qp ((ns v : Nat) : Int) ((nr v : Nat) : Int) ((na v : Nat) : Int), aW X (Qp 0) 10 sl, aW X (Qp 1) 8 vo, aW X (Qp 2) 8 ou, aW X (Qp 3) 8 inn, aW X (Qp 4) 8 ac, aW X (Qp 5) 20 ag, aW X (Qp 6) 20 ai, aW X (Qp 7) 20 et, aW X (Qp 8) 20 xt].flatten _ := hH.pick [10, 0, 1, 2, 3, 4, 5, 6, 7, 8, 9] rfl 11 rfl (by decide)
            exact hret 32 ls _ _ (((1 : Nat) : Int)) () dX5_areTwoRoles_32 rfl (by first | exact Or.inl ⟨rfl, by omega⟩ | exact Or.inr ⟨rfl, by omega⟩) hH hS
      · refine zv_top (z := 0) (z2 := ((0 : Nat) : Int)) rfl ?_
        refine zv_if_eq (tgt := 31) S dX5_areTwoRoles_19 (by decide) (by decide) (fun c_19 => ?_) (fun c_19 => ?_)
        · skip
          refine lv_iconst (v := iI (((0 : Nat) : Int))) S.1 S.2.1 dX5_areTwoRoles_31 (by decide) ?_
          have hH : Hold X A [pnW h qt q1 q qs qc qh, poW q Qp ((ns v : Nat) : Int) ((nr v : Nat) : Int) ((na v : Nat) : Int), aW X (Qp 0) 10 sl, aW X (Qp 1) 8 vo, aW X (Qp 2) 8 ou, aW X (Qp 3) 8 inn, aW X (Qp 4) 8 ac, aW X (Qp 5) 20 ag, aW X (Qp 6) 20 ai, aW X (Qp 7) 20 et, aW X (Qp 8) 20 xt].flatten _ := hH.pick [10, 0, 1, 2, 3, 4, 5, 6, 7, 8, 9] rfl 11 rfl (by decide)
          exact hret 32 ls _ _ (((0 : Nat) : Int)) () dX5_areTwoRoles_32 rfl (by first | exact Or.inl ⟨rfl, by omega⟩ | exact Or.inr ⟨rfl, by omega⟩) hH hS
        · exact (show False by omega).elim
  · refine zv_top (z := 0) (z2 := ((0 : Nat) : Int)) rfl ?_
    refine zv_if_eq (tgt := 31) S dX5_areTwoRoles_8 (by decide) (by decide) (fun c_8 => ?_) (fun c_8 => ?_)
    · skip
      refine lv_iconst (v := iI (((0 : Nat) : Int))) S.1 S.2.1 dX5_areTwoRoles_31 (by decide) ?_
      have hH : Hold X A [pnW h qt q1 q qs qc qh, poW q Qp ((ns v : Nat) : Int) ((nr v : Nat) : Int) ((na v : Nat) : Int), aW X (Qp 0) 10 sl, aW X (Qp 1) 8 vo, aW X (Qp 2) 8 ou, aW X (Qp 3) 8 inn, aW X (Qp 4) 8 ac, aW X (Qp 5) 20 ag, aW X (Qp 6) 20 ai, aW X (Qp 7) 20 et, aW X (Qp 8) 20 xt].flatten _ := hH.pick [10, 0, 1, 2, 3, 4, 5, 6, 7, 8, 9] rfl 11 rfl (by decide)
      exact hret 32 ls _ _ (((0 : Nat) : Int)) () dX5_areTwoRoles_32 rfl (by first | exact Or.inl ⟨rfl, by omega⟩ | exact Or.inr ⟨rfl, by omega⟩) hH hS
    · exact (show False by omega).elim

theorem mX5_conflict_1 : Cond.fieldLink RX5 31 "RoleDoublingPlanner" "slacks" "LRoleDoublingPlanner$Slacks;" ∈ wsX5_conflict := List.mem_of_getElem? (i := 1) rfl
theorem nX5_conflict_X5 : ∀ w ∈ wsX50, w ∈ wsX5_conflict := fun _ h => List.mem_cons_of_mem _ (List.mem_append_left _ (List.mem_append_left _ (List.mem_append_right _ h)))
set_option maxHeartbeats 4000000 in
set_option maxRecDepth 100000 in
theorem kX5_conflict (l : Launch) (X : XT) (h : Nat) (qt : Nat) (q1 : Nat) (q : Nat) (qs : Nat) (qc : Nat) (qh : Nat) (qT : Nat) (Qs : Nat → Nat) (T : Nat → Nat → Int) (Qp : Nat → Nat) (v : Nat → Int) (sl : Nat → Int) (vo : Nat → Int) (ou : Nat → Int) (inn : Nat → Int) (ac : Nat → Int) (ag : Nat → Int) (ai : Nat → Int) (et : Nat → Int) (xt : Nat → Int) (r : Int) (o : Int) (hv : okR v) (hP : PA v sl vo ou inn ac ag ai et xt) (hT : TbOK T v) (hr : inR r) (ho : inR o) : Ci l yX5_conflict wsX5_conflict (rmD 3) X [.ref h, .int (iI (r)), .int (iI (o))] [pnW h qt q1 q qs qc qh, tbW X qT Qs T, slW qs q qT, poW q Qp ((ns v : Nat) : Int) ((nr v : Nat) : Int) ((na v : Nat) : Int), aW X (Qp 0) 10 sl, aW X (Qp 1) 8 vo, aW X (Qp 2) 8 ou, aW X (Qp 3) 8 inn, aW X (Qp 4) 8 ac, aW X (Qp 5) 20 ag, aW X (Qp 6) 20 ai, aW X (Qp 7) 20 et, aW X (Qp 8) 20 xt] (fun (z : Int) (_ : Unit) => z = (if (0 ≤ r ∧ r < ((nr v : Nat) : Int)) ∧ (0 ≤ o ∧ o < ((nr v : Nat) : Int)) ∧ ¬ r = o then ((rsn v r.toNat o.toNat 0 : Nat) : Int) else -1001)) (fun (_ : Unit) => [pnW h qt q1 q qs qc qh, tbW X qT Qs T, slW qs q qT, poW q Qp ((ns v : Nat) : Int) ((nr v : Nat) : Int) ((na v : Nat) : Int), aW X (Qp 0) 10 sl, aW X (Qp 1) 8 vo, aW X (Qp 2) 8 ou, aW X (Qp 3) 8 inn, aW X (Qp 4) 8 ac, aW X (Qp 5) 20 ag, aW X (Qp 6) 20 ai, aW X (Qp 7) 20 et, aW X (Qp 8) 20 xt]) := by
  refine Ci.ofW (cc := cX5_conflict) (maxL := 3) (by decide) rfl (Nat.le_of_ble_eq_true rfl) ?_
  intro p_ e_ s_ m_ below meth c_ A Q_ S hA hAM hH hS hret ls hl
  have hl : lv_has ls 3 [(0, .ref (h)), (1, .int (iI (r))), (2, .int (iI (o)))] := hl
  have hk1 := hv.nr8
  have hk2 := hv.na20
  have hk3 := hv.ns10
  refine lv_aload_n S.1 S.2.1 dX5_conflict_0 rfl (lv_at hl 0 rfl) ?_
  refine lv_iload_n S.1 S.2.1 dX5_conflict_1 rfl (lv_at hl 1 rfl) ?_
  refine lv_iload_n S.1 S.2.1 dX5_conflict_2 rfl (lv_at hl 2 rfl) ?_
  refine zc_Vi (n := 2) (As := [.int (iI (r)), .int (iI (o))]) (rest := []) S hAM hA (kX5_areTwoRoles l X h qt q1 q qs qc qh Qp v sl vo ou inn ac ag ai et xt r o hv hP (by omega) (by omega)) rfl gX5_conflict_X5_areTwoRoles  (by decide +kernel) ⟨Nat.le_of_ble_eq_true rfl, Nat.le_of_ble_eq_true rfl⟩ hH hS [0, 3, 4, 5, 6, 7, 8, 9, 10, 11, 12, 1, 2] rfl 13 rfl (by decide) 5 0 rfl rfl rfl hl.1 rfl (Nat.le_of_ble_eq_true rfl) dX5_conflict_3 ⟨Nat.le_of_ble_eq_true rfl, Nat.le_of_ble_eq_true rfl⟩ (fun z2 _ H locs hp3 hH hS => ?_)
  have hH : Hold X A [pnW h qt q1 q qs qc qh, poW q Qp ((ns v : Nat) : Int) ((nr v : Nat) : Int) ((na v : Nat) : Int), aW X (Qp 0) 10 sl, aW X (Qp 1) 8 vo, aW X (Qp 2) 8 ou, aW X (Qp 3) 8 inn, aW X (Qp 4) 8 ac, aW X (Qp 5) 20 ag, aW X (Qp 6) 20 ai, aW X (Qp 7) 20 et, aW X (Qp 8) 20 xt, tbW X qT Qs T, slW qs q qT].flatten H := hH
  rcases hp3 with ⟨rfl, b_3⟩ | ⟨rfl, b_3⟩
  · refine zv_top (z := 1) (z2 := ((1 : Nat) : Int)) rfl ?_
    obtain ⟨rn, rfl⟩ : ∃ rn : Nat, r = ((rn : Nat) : Int) := ⟨r.toNat, by omega⟩
    obtain ⟨on, rfl⟩ : ∃ on : Nat, o = ((on : Nat) : Int) := ⟨o.toNat, by omega⟩
    refine zv_if_ne (tgt := 13) S dX5_conflict_6 (by decide) (by decide) (fun c_6 => ?_) (fun c_6 => ?_)
    · skip
      refine lv_aload_n S.1 S.2.1 dX5_conflict_13 rfl (lv_at hl 0 rfl) ?_
      refine zv_get (v := .ref (qs)) S hAM hH nX5_conflict_X5 0 rfl rfl 3 (by decide) mX5_conflict_1 rfl rfl dX5_conflict_14 ?_
      refine lv_iload_n S.1 S.2.1 dX5_conflict_17 rfl (lv_at hl 1 rfl) ?_
      refine lv_iload_n S.1 S.2.1 dX5_conflict_18 rfl (lv_at hl 2 rfl) ?_
      refine lv_iconst (v := iI (((0 : Nat) : Int))) S.1 S.2.1 dX5_conflict_19 (by decide) ?_
      refine zc_Vi (n := 3) (As := [.int (iI ((rn : Nat) : Int)), .int (iI ((on : Nat) : Int)), .int (iI ((0 : Nat) : Int))]) (rest := []) S hAM hA (kX4_reason l X qs qT Qs T q Qp v sl vo ou inn ac ag ai et xt rn on 0 hv hP hT (by omega) (by omega) (by omega) (by omega)) rfl gX5_conflict_X4_reason  (by decide +kernel) ⟨Nat.le_of_ble_eq_true rfl, Nat.le_of_ble_eq_true rfl⟩ hH hS [11, 12, 1, 2, 3, 4, 5, 6, 7, 8, 9, 10, 0] rfl 13 rfl (by decide) 4 9 rfl rfl rfl hl.1 rfl (Nat.le_of_ble_eq_true rfl) dX5_conflict_20 ⟨Nat.le_of_ble_eq_true rfl, Nat.le_of_ble_eq_true rfl⟩ (fun z5 _ H locs hp6 hH hS => ?_)
      have hH : Hold X A [tbW X qT Qs T, slW qs q qT, poW q Qp ((ns v : Nat) : Int) ((nr v : Nat) : Int) ((na v : Nat) : Int), aW X (Qp 0) 10 sl, aW X (Qp 1) 8 vo, aW X (Qp 2) 8 ou, aW X (Qp 3) 8 inn, aW X (Qp 4) 8 ac, aW X (Qp 5) 20 ag, aW X (Qp 6) 20 ai, aW X (Qp 7) 20 et, aW X (Qp 8) 20 xt, pnW h qt q1 q qs qc qh].flatten H := hH
      obtain rfl := hp6
      have hH : Hold X A [pnW h qt q1 q qs qc qh, tbW X qT Qs T, slW qs q qT, poW q Qp ((ns v : Nat) : Int) ((nr v : Nat) : Int) ((na v : Nat) : Int), aW X (Qp 0) 10 sl, aW X (Qp 1) 8 vo, aW X (Qp 2) 8 ou, aW X (Qp 3) 8 inn, aW X (Qp 4) 8 ac, aW X (Qp 5) 20 ag, aW X (Qp 6) 20 ai, aW X (Qp 7) 20 et, aW X (Qp 8) 20 xt].flatten _ := hH.pick [12, 0, 1, 2, 3, 4, 5, 6, 7, 8, 9, 10, 11] rfl 13 rfl (by decide)
      exact hret 23 ls _ _ (((rsn v rn on 0 : Nat) : Int)) () dX5_conflict_23 rfl (by rw [if_pos (by omega), Int.toNat_natCast, Int.toNat_natCast]) hH hS
    · exact (show False by omega).elim
  · refine zv_top (z := 0) (z2 := ((0 : Nat) : Int)) rfl ?_
    refine zv_if_ne (tgt := 13) S dX5_conflict_6 (by decide) (by decide) (fun c_6 => ?_) (fun c_6 => ?_)
    · exact (show False by omega).elim
    · skip
      refine lv_sipush (v := iI (-1001)) S.1 S.2.1 dX5_conflict_9 (by decide) ?_
      have hH : Hold X A [pnW h qt q1 q qs qc qh, tbW X qT Qs T, slW qs q qT, poW q Qp ((ns v : Nat) : Int) ((nr v : Nat) : Int) ((na v : Nat) : Int), aW X (Qp 0) 10 sl, aW X (Qp 1) 8 vo, aW X (Qp 2) 8 ou, aW X (Qp 3) 8 inn, aW X (Qp 4) 8 ac, aW X (Qp 5) 20 ag, aW X (Qp 6) 20 ai, aW X (Qp 7) 20 et, aW X (Qp 8) 20 xt].flatten _ := hH.pick [0, 11, 12, 1, 2, 3, 4, 5, 6, 7, 8, 9, 10] rfl 13 rfl (by decide)
      exact hret 12 ls _ _ (-1001) () dX5_conflict_12 rfl (by rw [if_neg (by omega)]) hH hS

theorem mX5_slack_1 : Cond.fieldLink RX5 31 "RoleDoublingPlanner" "slacks" "LRoleDoublingPlanner$Slacks;" ∈ wsX5_slack := List.mem_of_getElem? (i := 1) rfl
theorem nX5_slack_X5 : ∀ w ∈ wsX50, w ∈ wsX5_slack := fun _ h => List.mem_cons_of_mem _ (List.mem_append_left _ (List.mem_append_left _ (List.mem_append_right _ h)))
theorem mX5_slack_2 : Cond.fieldLink RX5 194 "RoleDoublingPlanner$Slacks" "table" "[[I" ∈ wsX5_slack := List.mem_of_getElem? (i := 2) rfl
theorem nX5_slack_X4 : ∀ w ∈ wsX40, w ∈ wsX5_slack := fun _ h => List.mem_cons_of_mem _ (List.mem_append_left _ (List.mem_append_right _ h))
set_option maxHeartbeats 4000000 in
set_option maxRecDepth 100000 in
theorem kX5_slack (l : Launch) (X : XT) (h : Nat) (qt : Nat) (q1 : Nat) (q : Nat) (qs : Nat) (qc : Nat) (qh : Nat) (qT : Nat) (Qs : Nat → Nat) (T : Nat → Nat → Int) (Qp : Nat → Nat) (v : Nat → Int) (sl : Nat → Int) (vo : Nat → Int) (ou : Nat → Int) (inn : Nat → Int) (ac : Nat → Int) (ag : Nat → Int) (ai : Nat → Int) (et : Nat → Int) (xt : Nat → Int) (r : Int) (o : Int) (hv : okR v) (hP : PA v sl vo ou inn ac ag ai et xt) (hT : TbOK T v) (hr : inR r) (ho : inR o) : Ci l yX5_slack wsX5_slack (rmD 3) X [.ref h, .int (iI (r)), .int (iI (o))] [pnW h qt q1 q qs qc qh, tbW X qT Qs T, slW qs q qT, poW q Qp ((ns v : Nat) : Int) ((nr v : Nat) : Int) ((na v : Nat) : Int), aW X (Qp 0) 10 sl, aW X (Qp 1) 8 vo, aW X (Qp 2) 8 ou, aW X (Qp 3) 8 inn, aW X (Qp 4) 8 ac, aW X (Qp 5) 20 ag, aW X (Qp 6) 20 ai, aW X (Qp 7) 20 et, aW X (Qp 8) 20 xt] (fun (z : Int) (_ : Unit) => z = slkF v r o) (fun (_ : Unit) => [pnW h qt q1 q qs qc qh, tbW X qT Qs T, slW qs q qT, poW q Qp ((ns v : Nat) : Int) ((nr v : Nat) : Int) ((na v : Nat) : Int), aW X (Qp 0) 10 sl, aW X (Qp 1) 8 vo, aW X (Qp 2) 8 ou, aW X (Qp 3) 8 inn, aW X (Qp 4) 8 ac, aW X (Qp 5) 20 ag, aW X (Qp 6) 20 ai, aW X (Qp 7) 20 et, aW X (Qp 8) 20 xt]) := by
  refine Ci.ofW (cc := cX5_slack) (maxL := 3) (by decide) rfl (Nat.le_of_ble_eq_true rfl) ?_
  intro p_ e_ s_ m_ below meth c_ A Q_ S hA hAM hH hS hret ls hl
  have hl : lv_has ls 3 [(0, .ref (h)), (1, .int (iI (r))), (2, .int (iI (o)))] := hl
  have hk1 := hv.nr8
  have hk2 := hv.na20
  have hk3 := hv.ns10
  refine lv_aload_n S.1 S.2.1 dX5_slack_0 rfl (lv_at hl 0 rfl) ?_
  refine lv_iload_n S.1 S.2.1 dX5_slack_1 rfl (lv_at hl 1 rfl) ?_
  refine lv_iload_n S.1 S.2.1 dX5_slack_2 rfl (lv_at hl 2 rfl) ?_
  refine zc_Vi (n := 2) (As := [.int (iI (r)), .int (iI (o))]) (rest := []) S hAM hA (kX5_areTwoRoles l X h qt q1 q qs qc qh Qp v sl vo ou inn ac ag ai et xt r o hv hP (by omega) (by omega)) rfl gX5_slack_X5_areTwoRoles  (by decide +kernel) ⟨Nat.le_of_ble_eq_true rfl, Nat.le_of_ble_eq_true rfl⟩ hH hS [0, 3, 4, 5, 6, 7, 8, 9, 10, 11, 12, 1, 2] rfl 13 rfl (by decide) 5 0 rfl rfl rfl hl.1 rfl (Nat.le_of_ble_eq_true rfl) dX5_slack_3 ⟨Nat.le_of_ble_eq_true rfl, Nat.le_of_ble_eq_true rfl⟩ (fun z2 _ H locs hp3 hH hS => ?_)
  have hH : Hold X A [pnW h qt q1 q qs qc qh, poW q Qp ((ns v : Nat) : Int) ((nr v : Nat) : Int) ((na v : Nat) : Int), aW X (Qp 0) 10 sl, aW X (Qp 1) 8 vo, aW X (Qp 2) 8 ou, aW X (Qp 3) 8 inn, aW X (Qp 4) 8 ac, aW X (Qp 5) 20 ag, aW X (Qp 6) 20 ai, aW X (Qp 7) 20 et, aW X (Qp 8) 20 xt, tbW X qT Qs T, slW qs q qT].flatten H := hH
  rcases hp3 with ⟨rfl, b_3⟩ | ⟨rfl, b_3⟩
  · refine zv_top (z := 1) (z2 := ((1 : Nat) : Int)) rfl ?_
    obtain ⟨rn, rfl⟩ : ∃ rn : Nat, r = ((rn : Nat) : Int) := ⟨r.toNat, by omega⟩
    obtain ⟨on, rfl⟩ : ∃ on : Nat, o = ((on : Nat) : Int) := ⟨o.toNat, by omega⟩
    refine zv_if_ne (tgt := 13) S dX5_slack_6 (by decide) (by decide) (fun c_6 => ?_) (fun c_6 => ?_)
    · skip
      refine lv_aload_n S.1 S.2.1 dX5_slack_13 rfl (lv_at hl 0 rfl) ?_
      refine zv_get (v := .ref (qs)) S hAM hH nX5_slack_X5 0 rfl rfl 3 (by decide) mX5_slack_1 rfl rfl dX5_slack_14 ?_
      refine zv_get (v := .ref (qT)) S hAM hH nX5_slack_X4 20 rfl rfl 1 (by decide) mX5_slack_2 rfl rfl dX5_slack_17 ?_
      refine lv_iload_n S.1 S.2.1 dX5_slack_20 rfl (lv_at hl 1 rfl) ?_
      refine zv_aald3 (q := Qs rn) S hAM hH 11 rfl (rn) rfl (by omega) (by decide) rfl dX5_slack_21 ?_
      refine lv_iload_n S.1 S.2.1 dX5_slack_22 rfl (lv_at hl 2 rfl) ?_
      have hH : Hold X A [tbW X qT Qs T, pnW h qt q1 q qs qc qh, poW q Qp ((ns v : Nat) : Int) ((nr v : Nat) : Int) ((na v : Nat) : Int), aW X (Qp 0) 10 sl, aW X (Qp 1) 8 vo, aW X (Qp 2) 8 ou, aW X (Qp 3) 8 inn, aW X (Qp 4) 8 ac, aW X (Qp 5) 20 ag, aW X (Qp 6) 20 ai, aW X (Qp 7) 20 et, aW X (Qp 8) 20 xt, slW qs q qT].flatten _ := hH.pick [11, 0, 1, 2, 3, 4, 5, 6, 7, 8, 9, 10, 12] rfl 13 rfl (by decide)
      refine zv_iald (g := T rn) S hAM hH (1 + rn) (tb_get (X := X) (qT := qT) (Qs := Qs) (T := T) (rest := [pnW h qt q1 q qs qc qh, poW q Qp ((ns v : Nat) : Int) ((nr v : Nat) : Int) ((na v : Nat) : Int), aW X (Qp 0) 10 sl, aW X (Qp 1) 8 vo, aW X (Qp 2) 8 ou, aW X (Qp 3) 8 inn, aW X (Qp 4) 8 ac, aW X (Qp 5) 20 ag, aW X (Qp 6) 20 ai, aW X (Qp 7) 20 et, aW X (Qp 8) 20 xt, slW qs q qT].flatten) (r := rn) (by omega)) (on) rfl (by omega) (by decide) dX5_slack_23 ?_
      refine zv_top (z := T rn on) (z2 := tbV v rn on) (hT rn on (by omega) (by omega) (by omega)) ?_
      have hH : Hold X A [pnW h qt q1 q qs qc qh, tbW X qT Qs T, slW qs q qT, poW q Qp ((ns v : Nat) : Int) ((nr v : Nat) : Int) ((na v : Nat) : Int), aW X (Qp 0) 10 sl, aW X (Qp 1) 8 vo, aW X (Qp 2) 8 ou, aW X (Qp 3) 8 inn, aW X (Qp 4) 8 ac, aW X (Qp 5) 20 ag, aW X (Qp 6) 20 ai, aW X (Qp 7) 20 et, aW X (Qp 8) 20 xt].flatten _ := hH.pick [1, 0, 12, 2, 3, 4, 5, 6, 7, 8, 9, 10, 11] rfl 13 rfl (by decide)
      exact hret 24 ls _ _ (tbV v rn on) () dX5_slack_24 rfl (by unfold slkF; rw [if_pos (by omega), Int.toNat_natCast, Int.toNat_natCast]; rfl) hH hS
    · exact (show False by omega).elim
  · refine zv_top (z := 0) (z2 := ((0 : Nat) : Int)) rfl ?_
    refine zv_if_ne (tgt := 13) S dX5_slack_6 (by decide) (by decide) (fun c_6 => ?_) (fun c_6 => ?_)
    · exact (show False by omega).elim
    · skip
      refine lv_sipush (v := iI (-1001)) S.1 S.2.1 dX5_slack_9 (by decide) ?_
      have hH : Hold X A [pnW h qt q1 q qs qc qh, tbW X qT Qs T, slW qs q qT, poW q Qp ((ns v : Nat) : Int) ((nr v : Nat) : Int) ((na v : Nat) : Int), aW X (Qp 0) 10 sl, aW X (Qp 1) 8 vo, aW X (Qp 2) 8 ou, aW X (Qp 3) 8 inn, aW X (Qp 4) 8 ac, aW X (Qp 5) 20 ag, aW X (Qp 6) 20 ai, aW X (Qp 7) 20 et, aW X (Qp 8) 20 xt].flatten _ := hH.pick [0, 11, 12, 1, 2, 3, 4, 5, 6, 7, 8, 9, 10] rfl 13 rfl (by decide)
      exact hret 12 ls _ _ (-1001) () dX5_slack_12 rfl (by unfold slkF; rw [if_neg (by omega)]) hH hS

theorem mX5_hasRivalOf_1 : Cond.fieldLink RX5 23 "RoleDoublingPlanner" "play" "LRoleDoublingPlanner$Play;" ∈ wsX5_hasRivalOf := List.mem_of_getElem? (i := 1) rfl
theorem nX5_hasRivalOf_X5 : ∀ w ∈ wsX50, w ∈ wsX5_hasRivalOf := fun _ h => List.mem_cons_of_mem _ (List.mem_append_left _ (List.mem_append_left _ (List.mem_append_right _ h)))
theorem mX5_hasRivalOf_2 : Cond.fieldLink RX5 135 "RoleDoublingPlanner$Play" "actor" "[I" ∈ wsX5_hasRivalOf := List.mem_of_getElem? (i := 2) rfl
theorem nX5_hasRivalOf_X2 : ∀ w ∈ wsX20, w ∈ wsX5_hasRivalOf := fun _ h => List.mem_cons_of_mem _ (List.mem_append_left _ (List.mem_append_right _ h))
theorem mX5_hasRivalOf_3 : Cond.fieldLink RX5 31 "RoleDoublingPlanner" "slacks" "LRoleDoublingPlanner$Slacks;" ∈ wsX5_hasRivalOf := List.mem_of_getElem? (i := 3) rfl
set_option maxHeartbeats 4000000 in
set_option maxRecDepth 100000 in
theorem kX5_hasRivalOf (l : Launch) (X : XT) (h : Nat) (qt : Nat) (q1 : Nat) (q : Nat) (qs : Nat) (qc : Nat) (qh : Nat) (qT : Nat) (Qs : Nat → Nat) (T : Nat → Nat → Int) (Qp : Nat → Nat) (v : Nat → Int) (sl : Nat → Int) (vo : Nat → Int) (ou : Nat → Int) (inn : Nat → Int) (ac : Nat → Int) (ag : Nat → Int) (ai : Nat → Int) (et : Nat → Int) (xt : Nat → Int) (x : Int) (r : Nat) (b : Nat) (hv : okR v) (hP : PA v sl vo ou inn ac ag ai et xt) (hT : TbOK T v) (hx : inR x) (hr : r < nr v) (hb : b ≤ nr v) : Ci l yX5_hasRivalOf wsX5_hasRivalOf (rmD 2) X [.ref h, .int (iI (x)), .int (iI ((r : Nat) : Int)), .int (iI ((b : Nat) : Int))] [pnW h qt q1 q qs qc qh, tbW X qT Qs T, slW qs q qT, poW q Qp ((ns v : Nat) : Int) ((nr v : Nat) : Int) ((na v : Nat) : Int), aW X (Qp 0) 10 sl, aW X (Qp 1) 8 vo, aW X (Qp 2) 8 ou, aW X (Qp 3) 8 inn, aW X (Qp 4) 8 ac, aW X (Qp 5) 20 ag, aW X (Qp 6) 20 ai, aW X (Qp 7) 20 et, aW X (Qp 8) 20 xt] (fun (z : Int) (_ : Unit) => (z = 1 ∧ (rvX v x r b)) ∨ (z = 0 ∧ ¬ (rvX v x r b))) (fun (_ : Unit) => [pnW h qt q1 q qs qc qh, tbW X qT Qs T, slW qs q qT, poW q Qp ((ns v : Nat) : Int) ((nr v : Nat) : Int) ((na v : Nat) : Int), aW X (Qp 0) 10 sl, aW X (Qp 1) 8 vo, aW X (Qp 2) 8 ou, aW X (Qp 3) 8 inn, aW X (Qp 4) 8 ac, aW X (Qp 5) 20 ag, aW X (Qp 6) 20 ai, aW X (Qp 7) 20 et, aW X (Qp 8) 20 xt]) := by
  refine Ci.ofW (cc := cX5_hasRivalOf) (maxL := 5) (by decide) rfl (Nat.le_of_ble_eq_true rfl) ?_
  intro p_ e_ s_ m_ below meth c_ A Q_ S hA hAM hH hS hret ls hl
  have hl : lv_has ls 5 [(0, .ref (h)), (1, .int (iI (x))), (2, .int (iI ((r : Nat) : Int))), (3, .int (iI ((b : Nat) : Int)))] := hl
  have hk1 := hv.nr8
  have hk2 := hv.na20
  have hk3 := hv.ns10
  refine lv_iconst (v := iI (((0 : Nat) : Int))) S.1 S.2.1 dX5_hasRivalOf_0 (by decide) ?_
  refine lv_istore (lv' := [(4, .int (iI ((0 : Nat) : Int))), (0, .ref (h)), (1, .int (iI (x))), (2, .int (iI ((r : Nat) : Int))), (3, .int (iI ((b : Nat) : Int)))]) S.1 S.2.1 dX5_hasRivalOf_1 hl (by decide) rfl (fun ls hl => ?_)
  have lp3 : ∀ (fu_ : Nat) (k : Nat), b - k < fu_ → (k ≤ b) → (¬ rvX v x r k) → ∀ (H : Heap) (locs : List Loc), Hold X A [pnW h qt q1 q qs qc qh, tbW X qT Qs T, slW qs q qT, poW q Qp ((ns v : Nat) : Int) ((nr v : Nat) : Int) ((na v : Nat) : Int), aW X (Qp 0) 10 sl, aW X (Qp 1) 8 vo, aW X (Qp 2) 8 ou, aW X (Qp 3) 8 inn, aW X (Qp 4) 8 ac, aW X (Qp 5) 20 ag, aW X (Qp 6) 20 ai, aW X (Qp 7) 20 et, aW X (Qp 8) 20 xt].flatten H → va_S A s_.heap H locs → ∀ ls : Array Slot, lv_has ls 5 [(4, .int (iI ((k : Nat) : Int))), (0, .ref (h)), (1, .int (iI (x))), (2, .int (iI ((r : Nat) : Int))), (3, .int (iI ((b : Nat) : Int)))] → W p_ l e_ (rmD 2) s_ m_ (List.toArray [.ref (h), .int (iI (x)), .int (iI ((r : Nat) : Int)), .int (iI ((b : Nat) : Int))]) below meth c_ H locs 0 0 Q_ (F0 m_ 3 ls []) := by
    intro fu_
    induction fu_ with
    | zero => intro k hmu hk hno H locs hH hS ls hl; exact absurd hmu (Nat.not_lt_zero _)
    | succ fu_ ih3 => 
      intro k hmu hk hno H locs hH hS ls hl
      refine lv_iload S.1 S.2.1 dX5_hasRivalOf_3 (lv_at hl 0 rfl) ?_
      refine lv_iload_n S.1 S.2.1 dX5_hasRivalOf_5 rfl (lv_at hl 4 rfl) ?_
      refine zv_icmp_ge (tgt := 51) S dX5_hasRivalOf_6 (by decide) (by omega) (by omega) (fun c_6 => ?_) (fun c_6 => ?_)
      · skip
        refine lv_iconst (v := iI (((0 : Nat) : Int))) S.1 S.2.1 dX5_hasRivalOf_51 (by decide) ?_
        exact hret 52 ls _ _ (((0 : Nat) : Int)) () dX5_hasRivalOf_52 rfl (Or.inr ⟨rfl, fun z => hno (by rw [show k = b by omega]; exact z)⟩) hH hS
      · skip
        refine lv_iload S.1 S.2.1 dX5_hasRivalOf_9 (lv_at hl 0 rfl) ?_
        refine lv_iload_n S.1 S.2.1 dX5_hasRivalOf_11 rfl (lv_at hl 3 rfl) ?_
        refine zv_icmp_eq (tgt := 45) S dX5_hasRivalOf_12 (by decide) (by omega) (by omega) (fun c_12 => ?_) (fun c_12 => ?_)
        · skip
          refine zv_iinc (z := (((k + 1) : Nat) : Int)) (lv' := [(4, .int (iI (((k + 1) : Nat) : Int))), (0, .ref (h)), (1, .int (iI (x))), (2, .int (iI ((r : Nat) : Int))), (3, .int (iI ((b : Nat) : Int)))]) S dX5_hasRivalOf_45 hl (k := 0) rfl (by omega) (by decide) rfl (fun ls hl => ?_)
          refine lv_goto (tgt := 3) S.1 S.2.1 dX5_hasRivalOf_48 (by decide) ?_
          exact ih3  ((k + 1)) (by omega) (by omega) (fun z => by obtain ⟨o, z1, z2, z3, z4⟩ := z; by_cases e : o = k; (· subst e; omega); (· exact hno ⟨o, by omega, z2, z3, z4⟩)) _ _ hH hS ls (lv_sub hl [0, 1, 2, 3, 4] rfl)
        · skip
          refine lv_aload_n S.1 S.2.1 dX5_hasRivalOf_15 rfl (lv_at hl 1 rfl) ?_
          refine zv_get (v := .ref (q)) S hAM hH nX5_hasRivalOf_X5 0 rfl rfl 2 (by decide) mX5_hasRivalOf_1 rfl rfl dX5_hasRivalOf_16 ?_
          refine zv_get (v := .ref (Qp 4)) S hAM hH nX5_hasRivalOf_X2 11 rfl rfl 7 (by decide) mX5_hasRivalOf_2 rfl rfl dX5_hasRivalOf_19 ?_
          refine lv_iload S.1 S.2.1 dX5_hasRivalOf_22 (lv_at hl 0 rfl) ?_
          refine zv_iald S hAM hH 16 rfl (k) rfl (by omega) (by decide) dX5_hasRivalOf_24 ?_
          refine zv_top (z := ac k) (z2 := v (36 + k)) (hP.2.1 k (by omega)).2.2.2 ?_
          refine lv_iload_n S.1 S.2.1 dX5_hasRivalOf_25 rfl (lv_at hl 2 rfl) ?_
          refine zv_icmp_ne (tgt := 45) S dX5_hasRivalOf_26 (by decide) (hv.inRk _ (by omega)) (by omega) (fun c_26 => ?_) (fun c_26 => ?_)
          · skip
            refine zv_iinc (z := (((k + 1) : Nat) : Int)) (lv' := [(4, .int (iI (((k + 1) : Nat) : Int))), (0, .ref (h)), (1, .int (iI (x))), (2, .int (iI ((r : Nat) : Int))), (3, .int (iI ((b : Nat) : Int)))]) S dX5_hasRivalOf_45 hl (k := 0) rfl (by omega) (by decide) rfl (fun ls hl => ?_)
            refine lv_goto (tgt := 3) S.1 S.2.1 dX5_hasRivalOf_48 (by decide) ?_
            exact ih3  ((k + 1)) (by omega) (by omega) (fun z => by obtain ⟨o, z1, z2, z3, z4⟩ := z; by_cases e : o = k; (· subst e; omega); (· exact hno ⟨o, by omega, z2, z3, z4⟩)) _ _ hH hS ls (lv_sub hl [0, 1, 2, 3, 4] rfl)
          · skip
            refine lv_aload_n S.1 S.2.1 dX5_hasRivalOf_29 rfl (lv_at hl 1 rfl) ?_
            refine zv_get (v := .ref (qs)) S hAM hH nX5_hasRivalOf_X5 0 rfl rfl 3 (by decide) mX5_hasRivalOf_3 rfl rfl dX5_hasRivalOf_30 ?_
            refine lv_iload_n S.1 S.2.1 dX5_hasRivalOf_33 rfl (lv_at hl 3 rfl) ?_
            refine lv_iload S.1 S.2.1 dX5_hasRivalOf_34 (lv_at hl 0 rfl) ?_
            refine lv_iconst (v := iI (((0 : Nat) : Int))) S.1 S.2.1 dX5_hasRivalOf_36 (by decide) ?_
            refine zc_Vi (n := 3) (As := [.int (iI ((r : Nat) : Int)), .int (iI ((k : Nat) : Int)), .int (iI ((0 : Nat) : Int))]) (rest := []) S hAM hA (kX4_reason l X qs qT Qs T q Qp v sl vo ou inn ac ag ai et xt r k 0 hv hP hT (by omega) (by omega) (by omega) (by omega)) rfl gX5_hasRivalOf_X4_reason  (by decide +kernel) ⟨Nat.le_of_ble_eq_true rfl, Nat.le_of_ble_eq_true rfl⟩ hH hS [1, 2, 3, 4, 5, 6, 7, 8, 9, 10, 11, 12, 0] rfl 13 rfl (by decide) 4 9 rfl rfl rfl hl.1 rfl (Nat.le_of_ble_eq_true rfl) dX5_hasRivalOf_37 ⟨Nat.le_of_ble_eq_true rfl, Nat.le_of_ble_eq_true rfl⟩ (fun z2 _ H locs hp3 hH hS => ?_)
            have hH : Hold X A [tbW X qT Qs T, slW qs q qT, poW q Qp ((ns v : Nat) : Int) ((nr v : Nat) : Int) ((na v : Nat) : Int), aW X (Qp 0) 10 sl, aW X (Qp 1) 8 vo, aW X (Qp 2) 8 ou, aW X (Qp 3) 8 inn, aW X (Qp 4) 8 ac, aW X (Qp 5) 20 ag, aW X (Qp 6) 20 ai, aW X (Qp 7) 20 et, aW X (Qp 8) 20 xt, pnW h qt q1 q qs qc qh].flatten H := hH
            obtain rfl := hp3
            refine zv_if_eq (tgt := 45) S dX5_hasRivalOf_40 (by decide) (by have := rsn3 v r k 0; omega) (fun c_40 => ?_) (fun c_40 => ?_)
            · skip
              refine zv_iinc (z := (((k + 1) : Nat) : Int)) (lv' := [(4, .int (iI (((k + 1) : Nat) : Int))), (0, .ref (h)), (1, .int (iI (x))), (2, .int (iI ((r : Nat) : Int))), (3, .int (iI ((b : Nat) : Int)))]) S dX5_hasRivalOf_45 hl (k := 0) rfl (by omega) (by decide) rfl (fun ls hl => ?_)
              refine lv_goto (tgt := 3) S.1 S.2.1 dX5_hasRivalOf_48 (by decide) ?_
              have hH : Hold X A [pnW h qt q1 q qs qc qh, tbW X qT Qs T, slW qs q qT, poW q Qp ((ns v : Nat) : Int) ((nr v : Nat) : Int) ((na v : Nat) : Int), aW X (Qp 0) 10 sl, aW X (Qp 1) 8 vo, aW X (Qp 2) 8 ou, aW X (Qp 3) 8 inn, aW X (Qp 4) 8 ac, aW X (Qp 5) 20 ag, aW X (Qp 6) 20 ai, aW X (Qp 7) 20 et, aW X (Qp 8) 20 xt].flatten _ := hH.pick [12, 0, 1, 2, 3, 4, 5, 6, 7, 8, 9, 10, 11] rfl 13 rfl (by decide)
              exact ih3  ((k + 1)) (by omega) (by omega) (fun z => by obtain ⟨o, z1, z2, z3, z4⟩ := z; by_cases e : o = k; (· subst e; omega); (· exact hno ⟨o, by omega, z2, z3, z4⟩)) _ _ hH hS ls (lv_sub hl [0, 1, 2, 3, 4] rfl)
            · skip
              refine lv_iconst (v := iI (((1 : Nat) : Int))) S.1 S.2.1 dX5_hasRivalOf_43 (by decide) ?_
              have hH : Hold X A [pnW h qt q1 q qs qc qh, tbW X qT Qs T, slW qs q qT, poW q Qp ((ns v : Nat) : Int) ((nr v : Nat) : Int) ((na v : Nat) : Int), aW X (Qp 0) 10 sl, aW X (Qp 1) 8 vo, aW X (Qp 2) 8 ou, aW X (Qp 3) 8 inn, aW X (Qp 4) 8 ac, aW X (Qp 5) 20 ag, aW X (Qp 6) 20 ai, aW X (Qp 7) 20 et, aW X (Qp 8) 20 xt].flatten _ := hH.pick [12, 0, 1, 2, 3, 4, 5, 6, 7, 8, 9, 10, 11] rfl 13 rfl (by decide)
              exact hret 44 ls _ _ (((1 : Nat) : Int)) () dX5_hasRivalOf_44 rfl (Or.inl ⟨rfl, k, by omega, by omega, by omega, by omega⟩) hH hS
  exact lp3 (b - (0) + 1) (0) (Nat.lt_succ_self _) (Nat.zero_le _) (fun z => by obtain ⟨o, z, _⟩ := z; exact absurd z (Nat.not_lt_zero _)) _ _ hH hS ls (lv_sub hl [0, 1, 2, 3, 4] rfl)

theorem mX5_cliqueNumber_1 : Cond.fieldLink RX5 38 "RoleDoublingPlanner" "casting" "LRoleDoublingPlanner$Casting;" ∈ wsX5_cliqueNumber := List.mem_of_getElem? (i := 1) rfl
theorem nX5_cliqueNumber_X5 : ∀ w ∈ wsX50, w ∈ wsX5_cliqueNumber := fun _ h => List.mem_cons_of_mem _ (List.mem_append_left _ (List.mem_append_left _ (List.mem_append_left _ (List.mem_append_right _ h))))
theorem mX5_cliqueNumber_2 : Cond.fieldLink RX5 31 "RoleDoublingPlanner" "slacks" "LRoleDoublingPlanner$Slacks;" ∈ wsX5_cliqueNumber := List.mem_of_getElem? (i := 2) rfl
set_option maxHeartbeats 4000000 in
set_option maxRecDepth 100000 in
theorem kX5_cliqueNumber (l : Launch) (X : XT) (h : Nat) (qt : Nat) (q1 : Nat) (q : Nat) (qs : Nat) (qc : Nat) (qh : Nat) (qT : Nat) (Qs : Nat → Nat) (T : Nat → Nat → Int) (Qp : Nat → Nat) (v : Nat → Int) (sl : Nat → Int) (vo : Nat → Int) (ou : Nat → Int) (inn : Nat → Int) (ac : Nat → Int) (ag : Nat → Int) (ai : Nat → Int) (et : Nat → Int) (xt : Nat → Int) (Qc : Nat → Nat) (m0 : Int) (riv : Nat → Int) (roa : Nat → Int) (hv : okR v) (hP : PA v sl vo ou inn ac ag ai et xt) (hT : TbOK T v) : Ci l yX5_cliqueNumber wsX5_cliqueNumber (rmD 3) X [.ref h] [pnW h qt q1 q qs qc qh, tbW X qT Qs T, slW qs q qT, poW q Qp ((ns v : Nat) : Int) ((nr v : Nat) : Int) ((na v : Nat) : Int), aW X (Qp 0) 10 sl, aW X (Qp 1) 8 vo, aW X (Qp 2) 8 ou, aW X (Qp 3) 8 inn, aW X (Qp 4) 8 ac, aW X (Qp 5) 20 ag, aW X (Qp 6) 20 ai, aW X (Qp 7) 20 et, aW X (Qp 8) 20 xt, caW qc Qc m0, aW X (Qc 0) 8 riv, aW X (Qc 1) 8 roa] (fun (z : Int) (u : (Int) × (Nat → Int) × (Nat → Int)) => match u with | (m2, riv2, roa2) => z = ((clM v (2 ^ nr v) : Nat) : Int)) (fun (u : (Int) × (Nat → Int) × (Nat → Int)) => match u with | (m2, riv2, roa2) => [pnW h qt q1 q qs qc qh, tbW X qT Qs T, slW qs q qT, poW q Qp ((ns v : Nat) : Int) ((nr v : Nat) : Int) ((na v : Nat) : Int), aW X (Qp 0) 10 sl, aW X (Qp 1) 8 vo, aW X (Qp 2) 8 ou, aW X (Qp 3) 8 inn, aW X (Qp 4) 8 ac, aW X (Qp 5) 20 ag, aW X (Qp 6) 20 ai, aW X (Qp 7) 20 et, aW X (Qp 8) 20 xt, caW qc Qc m2, aW X (Qc 0) 8 riv2, aW X (Qc 1) 8 roa2]) := by
  refine Ci.ofW (cc := cX5_cliqueNumber) (maxL := 1) (by decide) rfl (Nat.le_of_ble_eq_true rfl) ?_
  intro p_ e_ s_ m_ below meth c_ A Q_ S hA hAM hH hS hret ls hl
  have hl : lv_has ls 1 [(0, .ref (h))] := hl
  have hk1 := hv.nr8
  have hk2 := hv.na20
  have hk3 := hv.ns10
  refine lv_aload_n S.1 S.2.1 dX5_cliqueNumber_0 rfl (lv_at hl 0 rfl) ?_
  refine zv_get (v := .ref (qc)) S hAM hH nX5_cliqueNumber_X5 0 rfl rfl 4 (by decide) mX5_cliqueNumber_1 rfl rfl dX5_cliqueNumber_1 ?_
  refine lv_aload_n S.1 S.2.1 dX5_cliqueNumber_4 rfl (lv_at hl 0 rfl) ?_
  refine zv_get (v := .ref (qs)) S hAM hH nX5_cliqueNumber_X5 0 rfl rfl 3 (by decide) mX5_cliqueNumber_2 rfl rfl dX5_cliqueNumber_5 ?_
  refine lv_iconst (v := iI (((0 : Nat) : Int))) S.1 S.2.1 dX5_cliqueNumber_8 (by decide) ?_
  refine zc_Vv (n := 2) (As := [.ref (qs), .int (iI ((0 : Nat) : Int))]) (rest := []) S hAM hA (kX0_lookAt l X qc Qc m0 riv qs qT Qs T q Qp v sl vo ou inn ac ag ai et xt 0 hv hP hT (by omega)) rfl gX5_cliqueNumber_X0_lookAt  (by decide +kernel) ⟨Nat.le_of_ble_eq_true rfl, Nat.le_of_ble_eq_true rfl⟩ hH hS [13, 14, 1, 2, 3, 4, 5, 6, 7, 8, 9, 10, 11, 12, 0, 15] rfl 16 rfl (by decide) 0 0 rfl rfl rfl hl.1 rfl (Nat.le_of_ble_eq_true rfl) dX5_cliqueNumber_9 ⟨Nat.le_of_ble_eq_true rfl, Nat.le_of_ble_eq_true rfl⟩ (fun riv2_1 H locs hp3 hH hS => ?_)
  have hH : Hold X A [caW qc Qc ((nr v : Nat) : Int), aW X (Qc 0) 8 riv2_1, tbW X qT Qs T, slW qs q qT, poW q Qp ((ns v : Nat) : Int) ((nr v : Nat) : Int) ((na v : Nat) : Int), aW X (Qp 0) 10 sl, aW X (Qp 1) 8 vo, aW X (Qp 2) 8 ou, aW X (Qp 3) 8 inn, aW X (Qp 4) 8 ac, aW X (Qp 5) 20 ag, aW X (Qp 6) 20 ai, aW X (Qp 7) 20 et, aW X (Qp 8) 20 xt, pnW h qt q1 q qs qc qh, aW X (Qc 1) 8 roa].flatten H := hH
  have hR_9 := hp3
  refine lv_aload_n S.1 S.2.1 dX5_cliqueNumber_12 rfl (lv_at hl 0 rfl) ?_
  refine zv_get (v := .ref (qc)) S hAM hH nX5_cliqueNumber_X5 22 rfl rfl 4 (by decide) mX5_cliqueNumber_1 rfl rfl dX5_cliqueNumber_13 ?_
  refine zc_Vi (n := 0) (As := []) (rest := []) S hAM hA (kX0_largestClique l X qc Qc v riv2_1 roa hk1 (fun k hk => ⟨hR_9 k hk, Mk_lt hv 0 k⟩)) rfl gX5_cliqueNumber_X0_largestClique  (by decide +kernel) ⟨Nat.le_of_ble_eq_true rfl, Nat.le_of_ble_eq_true rfl⟩ hH hS [0, 1, 15, 2, 3, 4, 5, 6, 7, 8, 9, 10, 11, 12, 13, 14] rfl 16 rfl (by decide) 0 0 rfl rfl rfl hl.1 rfl (Nat.le_of_ble_eq_true rfl) dX5_cliqueNumber_16 ⟨Nat.le_of_ble_eq_true rfl, Nat.le_of_ble_eq_true rfl⟩ (fun z5 _ H locs hp6 hH hS => ?_)
  have hH : Hold X A [caW qc Qc ((nr v : Nat) : Int), aW X (Qc 0) 8 riv2_1, aW X (Qc 1) 8 roa, tbW X qT Qs T, slW qs q qT, poW q Qp ((ns v : Nat) : Int) ((nr v : Nat) : Int) ((na v : Nat) : Int), aW X (Qp 0) 10 sl, aW X (Qp 1) 8 vo, aW X (Qp 2) 8 ou, aW X (Qp 3) 8 inn, aW X (Qp 4) 8 ac, aW X (Qp 5) 20 ag, aW X (Qp 6) 20 ai, aW X (Qp 7) 20 et, aW X (Qp 8) 20 xt, pnW h qt q1 q qs qc qh].flatten H := hH
  obtain rfl := hp6
  have hH : Hold X A [pnW h qt q1 q qs qc qh, tbW X qT Qs T, slW qs q qT, poW q Qp ((ns v : Nat) : Int) ((nr v : Nat) : Int) ((na v : Nat) : Int), aW X (Qp 0) 10 sl, aW X (Qp 1) 8 vo, aW X (Qp 2) 8 ou, aW X (Qp 3) 8 inn, aW X (Qp 4) 8 ac, aW X (Qp 5) 20 ag, aW X (Qp 6) 20 ai, aW X (Qp 7) 20 et, aW X (Qp 8) 20 xt, caW qc Qc ((nr v : Nat) : Int), aW X (Qc 0) 8 riv2_1, aW X (Qc 1) 8 roa].flatten _ := hH.pick [15, 3, 4, 5, 6, 7, 8, 9, 10, 11, 12, 13, 14, 0, 1, 2] rfl 16 rfl (by decide)
  exact hret 19 ls _ _ (((clM v (2 ^ nr v) : Nat) : Int)) (((nr v : Nat) : Int), riv2_1, roa) dX5_cliqueNumber_19 rfl rfl hH hS

theorem mX5_leastCast_1 : Cond.fieldLink RX5 38 "RoleDoublingPlanner" "casting" "LRoleDoublingPlanner$Casting;" ∈ wsX5_leastCast := List.mem_of_getElem? (i := 1) rfl
theorem nX5_leastCast_X5 : ∀ w ∈ wsX50, w ∈ wsX5_leastCast := fun _ h => List.mem_cons_of_mem _ (List.mem_append_left _ (List.mem_append_left _ (List.mem_append_left _ (List.mem_append_right _ h))))
theorem mX5_leastCast_2 : Cond.fieldLink RX5 31 "RoleDoublingPlanner" "slacks" "LRoleDoublingPlanner$Slacks;" ∈ wsX5_leastCast := List.mem_of_getElem? (i := 2) rfl
set_option maxHeartbeats 4000000 in
set_option maxRecDepth 100000 in
theorem kX5_leastCast (l : Launch) (X : XT) (h : Nat) (qt : Nat) (q1 : Nat) (q : Nat) (qs : Nat) (qc : Nat) (qh : Nat) (qT : Nat) (Qs : Nat → Nat) (T : Nat → Nat → Int) (Qp : Nat → Nat) (v : Nat → Int) (sl : Nat → Int) (vo : Nat → Int) (ou : Nat → Int) (inn : Nat → Int) (ac : Nat → Int) (ag : Nat → Int) (ai : Nat → Int) (et : Nat → Int) (xt : Nat → Int) (Qc : Nat → Nat) (m0 : Int) (riv : Nat → Int) (roa : Nat → Int) (hv : okR v) (hP : PA v sl vo ou inn ac ag ai et xt) (hT : TbOK T v) (hn1 : 1 ≤ nr v) : Ci l yX5_leastCast wsX5_leastCast (rmD 13) X [.ref h] [pnW h qt q1 q qs qc qh, tbW X qT Qs T, slW qs q qT, poW q Qp ((ns v : Nat) : Int) ((nr v : Nat) : Int) ((na v : Nat) : Int), aW X (Qp 0) 10 sl, aW X (Qp 1) 8 vo, aW X (Qp 2) 8 ou, aW X (Qp 3) 8 inn, aW X (Qp 4) 8 ac, aW X (Qp 5) 20 ag, aW X (Qp 6) 20 ai, aW X (Qp 7) 20 et, aW X (Qp 8) 20 xt, caW qc Qc m0, aW X (Qc 0) 8 riv, aW X (Qc 1) 8 roa] (fun (z : Int) (u : (Int) × (Nat → Int) × (Nat → Int)) => match u with | (m2, riv2, roa2) => z = ((lc (Mk v 0) (nr v) : Nat) : Int)) (fun (u : (Int) × (Nat → Int) × (Nat → Int)) => match u with | (m2, riv2, roa2) => [pnW h qt q1 q qs qc qh, tbW X qT Qs T, slW qs q qT, poW q Qp ((ns v : Nat) : Int) ((nr v : Nat) : Int) ((na v : Nat) : Int), aW X (Qp 0) 10 sl, aW X (Qp 1) 8 vo, aW X (Qp 2) 8 ou, aW X (Qp 3) 8 inn, aW X (Qp 4) 8 ac, aW X (Qp 5) 20 ag, aW X (Qp 6) 20 ai, aW X (Qp 7) 20 et, aW X (Qp 8) 20 xt, caW qc Qc m2, aW X (Qc 0) 8 riv2, aW X (Qc 1) 8 roa2]) := by
  refine Ci.ofW (cc := cX5_leastCast) (maxL := 1) (by decide) rfl (Nat.le_of_ble_eq_true rfl) ?_
  intro p_ e_ s_ m_ below meth c_ A Q_ S hA hAM hH hS hret ls hl
  have hl : lv_has ls 1 [(0, .ref (h))] := hl
  have hk1 := hv.nr8
  have hk2 := hv.na20
  have hk3 := hv.ns10
  refine lv_aload_n S.1 S.2.1 dX5_leastCast_0 rfl (lv_at hl 0 rfl) ?_
  refine zv_get (v := .ref (qc)) S hAM hH nX5_leastCast_X5 0 rfl rfl 4 (by decide) mX5_leastCast_1 rfl rfl dX5_leastCast_1 ?_
  refine lv_aload_n S.1 S.2.1 dX5_leastCast_4 rfl (lv_at hl 0 rfl) ?_
  refine zv_get (v := .ref (qs)) S hAM hH nX5_leastCast_X5 0 rfl rfl 3 (by decide) mX5_leastCast_2 rfl rfl dX5_leastCast_5 ?_
  refine lv_iconst (v := iI (((0 : Nat) : Int))) S.1 S.2.1 dX5_leastCast_8 (by decide) ?_
  refine zc_Vv (n := 2) (As := [.ref (qs), .int (iI ((0 : Nat) : Int))]) (rest := []) S hAM hA (kX0_lookAt l X qc Qc m0 riv qs qT Qs T q Qp v sl vo ou inn ac ag ai et xt 0 hv hP hT (by omega)) rfl gX5_leastCast_X0_lookAt  (by decide +kernel) ⟨Nat.le_of_ble_eq_true rfl, Nat.le_of_ble_eq_true rfl⟩ hH hS [13, 14, 1, 2, 3, 4, 5, 6, 7, 8, 9, 10, 11, 12, 0, 15] rfl 16 rfl (by decide) 0 0 rfl rfl rfl hl.1 rfl (Nat.le_of_ble_eq_true rfl) dX5_leastCast_9 ⟨Nat.le_of_ble_eq_true rfl, Nat.le_of_ble_eq_true rfl⟩ (fun riv2_1 H locs hp3 hH hS => ?_)
  have hH : Hold X A [caW qc Qc ((nr v : Nat) : Int), aW X (Qc 0) 8 riv2_1, tbW X qT Qs T, slW qs q qT, poW q Qp ((ns v : Nat) : Int) ((nr v : Nat) : Int) ((na v : Nat) : Int), aW X (Qp 0) 10 sl, aW X (Qp 1) 8 vo, aW X (Qp 2) 8 ou, aW X (Qp 3) 8 inn, aW X (Qp 4) 8 ac, aW X (Qp 5) 20 ag, aW X (Qp 6) 20 ai, aW X (Qp 7) 20 et, aW X (Qp 8) 20 xt, pnW h qt q1 q qs qc qh, aW X (Qc 1) 8 roa].flatten H := hH
  have hR_9 := hp3
  refine lv_aload_n S.1 S.2.1 dX5_leastCast_12 rfl (lv_at hl 0 rfl) ?_
  refine zv_get (v := .ref (qc)) S hAM hH nX5_leastCast_X5 22 rfl rfl 4 (by decide) mX5_leastCast_1 rfl rfl dX5_leastCast_13 ?_
  refine zc_Vi (n := 0) (As := []) (rest := []) S hAM hA (kX0_findFirstCast l X qc Qc (nr v) (Mk v 0) riv2_1 roa hk1 (fun k hk => ⟨hR_9 k hk, Mk_lt hv 0 k⟩) hn1) rfl gX5_leastCast_X0_findFirstCast  (by decide +kernel) ⟨Nat.le_of_ble_eq_true rfl, Nat.le_of_ble_eq_true rfl⟩ hH hS [0, 1, 15, 2, 3, 4, 5, 6, 7, 8, 9, 10, 11, 12, 13, 14] rfl 16 rfl (by decide) 0 0 rfl rfl rfl hl.1 rfl (Nat.le_of_ble_eq_true rfl) dX5_leastCast_16 ⟨Nat.le_of_ble_eq_true rfl, Nat.le_of_ble_eq_true rfl⟩ (fun z5 roa2_4 H locs hp6 hH hS => ?_)
  have hH : Hold X A [caW qc Qc (((nr v) : Nat) : Int), aW X (Qc 0) 8 riv2_1, aW X (Qc 1) 8 roa2_4, tbW X qT Qs T, slW qs q qT, poW q Qp ((ns v : Nat) : Int) ((nr v : Nat) : Int) ((na v : Nat) : Int), aW X (Qp 0) 10 sl, aW X (Qp 1) 8 vo, aW X (Qp 2) 8 ou, aW X (Qp 3) 8 inn, aW X (Qp 4) 8 ac, aW X (Qp 5) 20 ag, aW X (Qp 6) 20 ai, aW X (Qp 7) 20 et, aW X (Qp 8) 20 xt, pnW h qt q1 q qs qc qh].flatten H := hH
  obtain ⟨rfl, hB_16⟩ := hp6
  have hH : Hold X A [pnW h qt q1 q qs qc qh, tbW X qT Qs T, slW qs q qT, poW q Qp ((ns v : Nat) : Int) ((nr v : Nat) : Int) ((na v : Nat) : Int), aW X (Qp 0) 10 sl, aW X (Qp 1) 8 vo, aW X (Qp 2) 8 ou, aW X (Qp 3) 8 inn, aW X (Qp 4) 8 ac, aW X (Qp 5) 20 ag, aW X (Qp 6) 20 ai, aW X (Qp 7) 20 et, aW X (Qp 8) 20 xt, caW qc Qc (((nr v) : Nat) : Int), aW X (Qc 0) 8 riv2_1, aW X (Qc 1) 8 roa2_4].flatten _ := hH.pick [15, 3, 4, 5, 6, 7, 8, 9, 10, 11, 12, 13, 14, 0, 1, 2] rfl 16 rfl (by decide)
  exact hret 19 ls _ _ (((lc (Mk v 0) (nr v) : Nat) : Int)) ((((nr v) : Nat) : Int), riv2_1, roa2_4) dX5_leastCast_19 rfl rfl hH hS

theorem mX5_greedyCast_1 : Cond.fieldLink RX5 38 "RoleDoublingPlanner" "casting" "LRoleDoublingPlanner$Casting;" ∈ wsX5_greedyCast := List.mem_of_getElem? (i := 1) rfl
theorem nX5_greedyCast_X5 : ∀ w ∈ wsX50, w ∈ wsX5_greedyCast := fun _ h => List.mem_cons_of_mem _ (List.mem_append_left _ (List.mem_append_left _ (List.mem_append_left _ (List.mem_append_right _ h))))
theorem mX5_greedyCast_2 : Cond.fieldLink RX5 31 "RoleDoublingPlanner" "slacks" "LRoleDoublingPlanner$Slacks;" ∈ wsX5_greedyCast := List.mem_of_getElem? (i := 2) rfl
set_option maxHeartbeats 4000000 in
set_option maxRecDepth 100000 in
theorem kX5_greedyCast (l : Launch) (X : XT) (h : Nat) (qt : Nat) (q1 : Nat) (q : Nat) (qs : Nat) (qc : Nat) (qh : Nat) (qT : Nat) (Qs : Nat → Nat) (T : Nat → Nat → Int) (Qp : Nat → Nat) (v : Nat → Int) (sl : Nat → Int) (vo : Nat → Int) (ou : Nat → Int) (inn : Nat → Int) (ac : Nat → Int) (ag : Nat → Int) (ai : Nat → Int) (et : Nat → Int) (xt : Nat → Int) (Qc : Nat → Nat) (m0 : Int) (riv : Nat → Int) (roa : Nat → Int) (hv : okR v) (hP : PA v sl vo ou inn ac ag ai et xt) (hT : TbOK T v) : Ci l yX5_greedyCast wsX5_greedyCast (rmD 3) X [.ref h] [pnW h qt q1 q qs qc qh, tbW X qT Qs T, slW qs q qT, poW q Qp ((ns v : Nat) : Int) ((nr v : Nat) : Int) ((na v : Nat) : Int), aW X (Qp 0) 10 sl, aW X (Qp 1) 8 vo, aW X (Qp 2) 8 ou, aW X (Qp 3) 8 inn, aW X (Qp 4) 8 ac, aW X (Qp 5) 20 ag, aW X (Qp 6) 20 ai, aW X (Qp 7) 20 et, aW X (Qp 8) 20 xt, caW qc Qc m0, aW X (Qc 0) 8 riv, aW X (Qc 1) 8 roa] (fun (z : Int) (u : (Int) × (Nat → Int) × (Nat → Int)) => match u with | (m2, riv2, roa2) => z = ((gm (Mk v 0) (nr v) : Nat) : Int)) (fun (u : (Int) × (Nat → Int) × (Nat → Int)) => match u with | (m2, riv2, roa2) => [pnW h qt q1 q qs qc qh, tbW X qT Qs T, slW qs q qT, poW q Qp ((ns v : Nat) : Int) ((nr v : Nat) : Int) ((na v : Nat) : Int), aW X (Qp 0) 10 sl, aW X (Qp 1) 8 vo, aW X (Qp 2) 8 ou, aW X (Qp 3) 8 inn, aW X (Qp 4) 8 ac, aW X (Qp 5) 20 ag, aW X (Qp 6) 20 ai, aW X (Qp 7) 20 et, aW X (Qp 8) 20 xt, caW qc Qc m2, aW X (Qc 0) 8 riv2, aW X (Qc 1) 8 roa2]) := by
  refine Ci.ofW (cc := cX5_greedyCast) (maxL := 1) (by decide) rfl (Nat.le_of_ble_eq_true rfl) ?_
  intro p_ e_ s_ m_ below meth c_ A Q_ S hA hAM hH hS hret ls hl
  have hl : lv_has ls 1 [(0, .ref (h))] := hl
  have hk1 := hv.nr8
  have hk2 := hv.na20
  have hk3 := hv.ns10
  refine lv_aload_n S.1 S.2.1 dX5_greedyCast_0 rfl (lv_at hl 0 rfl) ?_
  refine zv_get (v := .ref (qc)) S hAM hH nX5_greedyCast_X5 0 rfl rfl 4 (by decide) mX5_greedyCast_1 rfl rfl dX5_greedyCast_1 ?_
  refine lv_aload_n S.1 S.2.1 dX5_greedyCast_4 rfl (lv_at hl 0 rfl) ?_
  refine zv_get (v := .ref (qs)) S hAM hH nX5_greedyCast_X5 0 rfl rfl 3 (by decide) mX5_greedyCast_2 rfl rfl dX5_greedyCast_5 ?_
  refine lv_iconst (v := iI (((0 : Nat) : Int))) S.1 S.2.1 dX5_greedyCast_8 (by decide) ?_
  refine zc_Vv (n := 2) (As := [.ref (qs), .int (iI ((0 : Nat) : Int))]) (rest := []) S hAM hA (kX0_lookAt l X qc Qc m0 riv qs qT Qs T q Qp v sl vo ou inn ac ag ai et xt 0 hv hP hT (by omega)) rfl gX5_greedyCast_X0_lookAt  (by decide +kernel) ⟨Nat.le_of_ble_eq_true rfl, Nat.le_of_ble_eq_true rfl⟩ hH hS [13, 14, 1, 2, 3, 4, 5, 6, 7, 8, 9, 10, 11, 12, 0, 15] rfl 16 rfl (by decide) 0 0 rfl rfl rfl hl.1 rfl (Nat.le_of_ble_eq_true rfl) dX5_greedyCast_9 ⟨Nat.le_of_ble_eq_true rfl, Nat.le_of_ble_eq_true rfl⟩ (fun riv2_1 H locs hp3 hH hS => ?_)
  have hH : Hold X A [caW qc Qc ((nr v : Nat) : Int), aW X (Qc 0) 8 riv2_1, tbW X qT Qs T, slW qs q qT, poW q Qp ((ns v : Nat) : Int) ((nr v : Nat) : Int) ((na v : Nat) : Int), aW X (Qp 0) 10 sl, aW X (Qp 1) 8 vo, aW X (Qp 2) 8 ou, aW X (Qp 3) 8 inn, aW X (Qp 4) 8 ac, aW X (Qp 5) 20 ag, aW X (Qp 6) 20 ai, aW X (Qp 7) 20 et, aW X (Qp 8) 20 xt, pnW h qt q1 q qs qc qh, aW X (Qc 1) 8 roa].flatten H := hH
  have hR_9 := hp3
  refine lv_aload_n S.1 S.2.1 dX5_greedyCast_12 rfl (lv_at hl 0 rfl) ?_
  refine zv_get (v := .ref (qc)) S hAM hH nX5_greedyCast_X5 22 rfl rfl 4 (by decide) mX5_greedyCast_1 rfl rfl dX5_greedyCast_13 ?_
  refine zc_Vi (n := 0) (As := []) (rest := []) S hAM hA (kX0_greedySize l X qc Qc (nr v) (Mk v 0) riv2_1 roa hk1 (fun k hk => ⟨hR_9 k hk, Mk_lt hv 0 k⟩)) rfl gX5_greedyCast_X0_greedySize  (by decide +kernel) ⟨Nat.le_of_ble_eq_true rfl, Nat.le_of_ble_eq_true rfl⟩ hH hS [0, 1, 15, 2, 3, 4, 5, 6, 7, 8, 9, 10, 11, 12, 13, 14] rfl 16 rfl (by decide) 0 0 rfl rfl rfl hl.1 rfl (Nat.le_of_ble_eq_true rfl) dX5_greedyCast_16 ⟨Nat.le_of_ble_eq_true rfl, Nat.le_of_ble_eq_true rfl⟩ (fun z5 roa2_4 H locs hp6 hH hS => ?_)
  have hH : Hold X A [caW qc Qc (((nr v) : Nat) : Int), aW X (Qc 0) 8 riv2_1, aW X (Qc 1) 8 roa2_4, tbW X qT Qs T, slW qs q qT, poW q Qp ((ns v : Nat) : Int) ((nr v : Nat) : Int) ((na v : Nat) : Int), aW X (Qp 0) 10 sl, aW X (Qp 1) 8 vo, aW X (Qp 2) 8 ou, aW X (Qp 3) 8 inn, aW X (Qp 4) 8 ac, aW X (Qp 5) 20 ag, aW X (Qp 6) 20 ai, aW X (Qp 7) 20 et, aW X (Qp 8) 20 xt, pnW h qt q1 q qs qc qh].flatten H := hH
  obtain rfl := hp6
  have hH : Hold X A [pnW h qt q1 q qs qc qh, tbW X qT Qs T, slW qs q qT, poW q Qp ((ns v : Nat) : Int) ((nr v : Nat) : Int) ((na v : Nat) : Int), aW X (Qp 0) 10 sl, aW X (Qp 1) 8 vo, aW X (Qp 2) 8 ou, aW X (Qp 3) 8 inn, aW X (Qp 4) 8 ac, aW X (Qp 5) 20 ag, aW X (Qp 6) 20 ai, aW X (Qp 7) 20 et, aW X (Qp 8) 20 xt, caW qc Qc (((nr v) : Nat) : Int), aW X (Qc 0) 8 riv2_1, aW X (Qc 1) 8 roa2_4].flatten _ := hH.pick [15, 3, 4, 5, 6, 7, 8, 9, 10, 11, 12, 13, 14, 0, 1, 2] rfl 16 rfl (by decide)
  exact hret 19 ls _ _ (((gm (Mk v 0) (nr v) : Nat) : Int)) ((((nr v) : Nat) : Int), riv2_1, roa2_4) dX5_greedyCast_19 rfl rfl hH hS

theorem mX5_leastCastIfFaster_1 : Cond.fieldLink RX5 38 "RoleDoublingPlanner" "casting" "LRoleDoublingPlanner$Casting;" ∈ wsX5_leastCastIfFaster := List.mem_of_getElem? (i := 1) rfl
theorem nX5_leastCastIfFaster_X5 : ∀ w ∈ wsX50, w ∈ wsX5_leastCastIfFaster := fun _ h => List.mem_cons_of_mem _ (List.mem_append_left _ (List.mem_append_left _ (List.mem_append_left _ (List.mem_append_right _ h))))
theorem mX5_leastCastIfFaster_2 : Cond.fieldLink RX5 31 "RoleDoublingPlanner" "slacks" "LRoleDoublingPlanner$Slacks;" ∈ wsX5_leastCastIfFaster := List.mem_of_getElem? (i := 2) rfl
set_option maxHeartbeats 4000000 in
set_option maxRecDepth 100000 in
theorem kX5_leastCastIfFaster (l : Launch) (X : XT) (h : Nat) (qt : Nat) (q1 : Nat) (q : Nat) (qs : Nat) (qc : Nat) (qh : Nat) (qT : Nat) (Qs : Nat → Nat) (T : Nat → Nat → Int) (Qp : Nat → Nat) (v : Nat → Int) (sl : Nat → Int) (vo : Nat → Int) (ou : Nat → Int) (inn : Nat → Int) (ac : Nat → Int) (ag : Nat → Int) (ai : Nat → Int) (et : Nat → Int) (xt : Nat → Int) (Qc : Nat → Nat) (m0 : Int) (riv : Nat → Int) (roa : Nat → Int) (f : Int) (hv : okR v) (hP : PA v sl vo ou inn ac ag ai et xt) (hT : TbOK T v) (hf : inR f) (hn1 : 1 ≤ nr v) : Ci l yX5_leastCastIfFaster wsX5_leastCastIfFaster (rmD 13) X [.ref h, .int (iI (f))] [pnW h qt q1 q qs qc qh, tbW X qT Qs T, slW qs q qT, poW q Qp ((ns v : Nat) : Int) ((nr v : Nat) : Int) ((na v : Nat) : Int), aW X (Qp 0) 10 sl, aW X (Qp 1) 8 vo, aW X (Qp 2) 8 ou, aW X (Qp 3) 8 inn, aW X (Qp 4) 8 ac, aW X (Qp 5) 20 ag, aW X (Qp 6) 20 ai, aW X (Qp 7) 20 et, aW X (Qp 8) 20 xt, caW qc Qc m0, aW X (Qc 0) 8 riv, aW X (Qc 1) 8 roa] (fun (z : Int) (u : (Int) × (Nat → Int) × (Nat → Int)) => match u with | (m2, riv2, roa2) => z = (if 0 ≤ f ∧ f ≤ 120 then ((lc (Mk v f) (nr v) : Nat) : Int) else -1001)) (fun (u : (Int) × (Nat → Int) × (Nat → Int)) => match u with | (m2, riv2, roa2) => [pnW h qt q1 q qs qc qh, tbW X qT Qs T, slW qs q qT, poW q Qp ((ns v : Nat) : Int) ((nr v : Nat) : Int) ((na v : Nat) : Int), aW X (Qp 0) 10 sl, aW X (Qp 1) 8 vo, aW X (Qp 2) 8 ou, aW X (Qp 3) 8 inn, aW X (Qp 4) 8 ac, aW X (Qp 5) 20 ag, aW X (Qp 6) 20 ai, aW X (Qp 7) 20 et, aW X (Qp 8) 20 xt, caW qc Qc m2, aW X (Qc 0) 8 riv2, aW X (Qc 1) 8 roa2]) := by
  refine Ci.ofW (cc := cX5_leastCastIfFaster) (maxL := 2) (by decide) rfl (Nat.le_of_ble_eq_true rfl) ?_
  intro p_ e_ s_ m_ below meth c_ A Q_ S hA hAM hH hS hret ls hl
  have hl : lv_has ls 2 [(0, .ref (h)), (1, .int (iI (f)))] := hl
  have hk1 := hv.nr8
  have hk2 := hv.na20
  have hk3 := hv.ns10
  refine lv_iload_n S.1 S.2.1 dX5_leastCastIfFaster_0 rfl (lv_at hl 1 rfl) ?_
  refine zv_if_lt (tgt := 10) S dX5_leastCastIfFaster_1 (by decide) (by omega) (fun c_1 => ?_) (fun c_1 => ?_)
  · skip
    refine lv_sipush (v := iI (-1001)) S.1 S.2.1 dX5_leastCastIfFaster_10 (by decide) ?_
    exact hret 13 ls _ _ (-1001) (m0, riv, roa) dX5_leastCastIfFaster_13 rfl (if_neg (by omega)).symm hH hS
  · skip
    refine lv_iload_n S.1 S.2.1 dX5_leastCastIfFaster_4 rfl (lv_at hl 1 rfl) ?_
    refine lv_bipush (v := iI (((120 : Nat) : Int))) S.1 S.2.1 dX5_leastCastIfFaster_5 (by decide) ?_
    refine zv_icmp_le (tgt := 14) S dX5_leastCastIfFaster_7 (by decide) (by omega) (by decide) (fun c_7 => ?_) (fun c_7 => ?_)
    · skip
      refine lv_aload_n S.1 S.2.1 dX5_leastCastIfFaster_14 rfl (lv_at hl 0 rfl) ?_
      refine zv_get (v := .ref (qc)) S hAM hH nX5_leastCastIfFaster_X5 0 rfl rfl 4 (by decide) mX5_leastCastIfFaster_1 rfl rfl dX5_leastCastIfFaster_15 ?_
      refine lv_aload_n S.1 S.2.1 dX5_leastCastIfFaster_18 rfl (lv_at hl 0 rfl) ?_
      refine zv_get (v := .ref (qs)) S hAM hH nX5_leastCastIfFaster_X5 0 rfl rfl 3 (by decide) mX5_leastCastIfFaster_2 rfl rfl dX5_leastCastIfFaster_19 ?_
      refine lv_iload_n S.1 S.2.1 dX5_leastCastIfFaster_22 rfl (lv_at hl 1 rfl) ?_
      refine zc_Vv (n := 2) (As := [.ref (qs), .int (iI (f))]) (rest := []) S hAM hA (kX0_lookAt l X qc Qc m0 riv qs qT Qs T q Qp v sl vo ou inn ac ag ai et xt f hv hP hT (by omega)) rfl gX5_leastCastIfFaster_X0_lookAt  (by decide +kernel) ⟨Nat.le_of_ble_eq_true rfl, Nat.le_of_ble_eq_true rfl⟩ hH hS [13, 14, 1, 2, 3, 4, 5, 6, 7, 8, 9, 10, 11, 12, 0, 15] rfl 16 rfl (by decide) 0 0 rfl rfl rfl hl.1 rfl (Nat.le_of_ble_eq_true rfl) dX5_leastCastIfFaster_23 ⟨Nat.le_of_ble_eq_true rfl, Nat.le_of_ble_eq_true rfl⟩ (fun riv2_1 H locs hp3 hH hS => ?_)
      have hH : Hold X A [caW qc Qc ((nr v : Nat) : Int), aW X (Qc 0) 8 riv2_1, tbW X qT Qs T, slW qs q qT, poW q Qp ((ns v : Nat) : Int) ((nr v : Nat) : Int) ((na v : Nat) : Int), aW X (Qp 0) 10 sl, aW X (Qp 1) 8 vo, aW X (Qp 2) 8 ou, aW X (Qp 3) 8 inn, aW X (Qp 4) 8 ac, aW X (Qp 5) 20 ag, aW X (Qp 6) 20 ai, aW X (Qp 7) 20 et, aW X (Qp 8) 20 xt, pnW h qt q1 q qs qc qh, aW X (Qc 1) 8 roa].flatten H := hH
      have hR_23 := hp3
      refine lv_aload_n S.1 S.2.1 dX5_leastCastIfFaster_26 rfl (lv_at hl 0 rfl) ?_
      refine zv_get (v := .ref (qc)) S hAM hH nX5_leastCastIfFaster_X5 22 rfl rfl 4 (by decide) mX5_leastCastIfFaster_1 rfl rfl dX5_leastCastIfFaster_27 ?_
      refine zc_Vi (n := 0) (As := []) (rest := []) S hAM hA (kX0_findFirstCast l X qc Qc (nr v) (Mk v f) riv2_1 roa hk1 (fun k hk => ⟨hR_23 k hk, Mk_lt hv f k⟩) hn1) rfl gX5_leastCastIfFaster_X0_findFirstCast  (by decide +kernel) ⟨Nat.le_of_ble_eq_true rfl, Nat.le_of_ble_eq_true rfl⟩ hH hS [0, 1, 15, 2, 3, 4, 5, 6, 7, 8, 9, 10, 11, 12, 13, 14] rfl 16 rfl (by decide) 0 0 rfl rfl rfl hl.1 rfl (Nat.le_of_ble_eq_true rfl) dX5_leastCastIfFaster_30 ⟨Nat.le_of_ble_eq_true rfl, Nat.le_of_ble_eq_true rfl⟩ (fun z5 roa2_4 H locs hp6 hH hS => ?_)
      have hH : Hold X A [caW qc Qc (((nr v) : Nat) : Int), aW X (Qc 0) 8 riv2_1, aW X (Qc 1) 8 roa2_4, tbW X qT Qs T, slW qs q qT, poW q Qp ((ns v : Nat) : Int) ((nr v : Nat) : Int) ((na v : Nat) : Int), aW X (Qp 0) 10 sl, aW X (Qp 1) 8 vo, aW X (Qp 2) 8 ou, aW X (Qp 3) 8 inn, aW X (Qp 4) 8 ac, aW X (Qp 5) 20 ag, aW X (Qp 6) 20 ai, aW X (Qp 7) 20 et, aW X (Qp 8) 20 xt, pnW h qt q1 q qs qc qh].flatten H := hH
      obtain ⟨rfl, hB_30⟩ := hp6
      have hH : Hold X A [pnW h qt q1 q qs qc qh, tbW X qT Qs T, slW qs q qT, poW q Qp ((ns v : Nat) : Int) ((nr v : Nat) : Int) ((na v : Nat) : Int), aW X (Qp 0) 10 sl, aW X (Qp 1) 8 vo, aW X (Qp 2) 8 ou, aW X (Qp 3) 8 inn, aW X (Qp 4) 8 ac, aW X (Qp 5) 20 ag, aW X (Qp 6) 20 ai, aW X (Qp 7) 20 et, aW X (Qp 8) 20 xt, caW qc Qc (((nr v) : Nat) : Int), aW X (Qc 0) 8 riv2_1, aW X (Qc 1) 8 roa2_4].flatten _ := hH.pick [15, 3, 4, 5, 6, 7, 8, 9, 10, 11, 12, 13, 14, 0, 1, 2] rfl 16 rfl (by decide)
      exact hret 33 ls _ _ (((lc (Mk v f) (nr v) : Nat) : Int)) ((((nr v) : Nat) : Int), riv2_1, roa2_4) dX5_leastCastIfFaster_33 rfl (if_pos (by omega)).symm hH hS
    · skip
      refine lv_sipush (v := iI (-1001)) S.1 S.2.1 dX5_leastCastIfFaster_10 (by decide) ?_
      exact hret 13 ls _ _ (-1001) (m0, riv, roa) dX5_leastCastIfFaster_13 rfl (if_neg (by omega)).symm hH hS

theorem mX5_firstCastActor_1 : Cond.fieldLink RX5 23 "RoleDoublingPlanner" "play" "LRoleDoublingPlanner$Play;" ∈ wsX5_firstCastActor := List.mem_of_getElem? (i := 1) rfl
theorem nX5_firstCastActor_X5 : ∀ w ∈ wsX50, w ∈ wsX5_firstCastActor := fun _ h => List.mem_cons_of_mem _ (List.mem_append_left _ (List.mem_append_left _ (List.mem_append_left _ (List.mem_append_right _ h))))
theorem mX5_firstCastActor_2 : Cond.fieldLink RX5 38 "RoleDoublingPlanner" "casting" "LRoleDoublingPlanner$Casting;" ∈ wsX5_firstCastActor := List.mem_of_getElem? (i := 2) rfl
theorem mX5_firstCastActor_3 : Cond.fieldLink RX5 31 "RoleDoublingPlanner" "slacks" "LRoleDoublingPlanner$Slacks;" ∈ wsX5_firstCastActor := List.mem_of_getElem? (i := 3) rfl
set_option maxHeartbeats 4000000 in
set_option maxRecDepth 100000 in
theorem kX5_firstCastActor (l : Launch) (X : XT) (h : Nat) (qt : Nat) (q1 : Nat) (q : Nat) (qs : Nat) (qc : Nat) (qh : Nat) (qT : Nat) (Qs : Nat → Nat) (T : Nat → Nat → Int) (Qp : Nat → Nat) (v : Nat → Int) (sl : Nat → Int) (vo : Nat → Int) (ou : Nat → Int) (inn : Nat → Int) (ac : Nat → Int) (ag : Nat → Int) (ai : Nat → Int) (et : Nat → Int) (xt : Nat → Int) (Qc : Nat → Nat) (m0 : Int) (riv : Nat → Int) (roa : Nat → Int) (r : Int) (hv : okR v) (hP : PA v sl vo ou inn ac ag ai et xt) (hT : TbOK T v) (hr : inR r) (hn1 : 1 ≤ nr v) : Ci l yX5_firstCastActor wsX5_firstCastActor (rmD 13) X [.ref h, .int (iI (r))] [pnW h qt q1 q qs qc qh, tbW X qT Qs T, slW qs q qT, poW q Qp ((ns v : Nat) : Int) ((nr v : Nat) : Int) ((na v : Nat) : Int), aW X (Qp 0) 10 sl, aW X (Qp 1) 8 vo, aW X (Qp 2) 8 ou, aW X (Qp 3) 8 inn, aW X (Qp 4) 8 ac, aW X (Qp 5) 20 ag, aW X (Qp 6) 20 ai, aW X (Qp 7) 20 et, aW X (Qp 8) 20 xt, caW qc Qc m0, aW X (Qc 0) 8 riv, aW X (Qc 1) 8 roa] (fun (z : Int) (u : (Int) × (Nat → Int) × (Nat → Int)) => match u with | (m2, riv2, roa2) => z = (if 0 ≤ r ∧ r < ((nr v : Nat) : Int) then fcG (Mk v 0) (nr v) r.toNat else -1001)) (fun (u : (Int) × (Nat → Int) × (Nat → Int)) => match u with | (m2, riv2, roa2) => [pnW h qt q1 q qs qc qh, tbW X qT Qs T, slW qs q qT, poW q Qp ((ns v : Nat) : Int) ((nr v : Nat) : Int) ((na v : Nat) : Int), aW X (Qp 0) 10 sl, aW X (Qp 1) 8 vo, aW X (Qp 2) 8 ou, aW X (Qp 3) 8 inn, aW X (Qp 4) 8 ac, aW X (Qp 5) 20 ag, aW X (Qp 6) 20 ai, aW X (Qp 7) 20 et, aW X (Qp 8) 20 xt, caW qc Qc m2, aW X (Qc 0) 8 riv2, aW X (Qc 1) 8 roa2]) := by
  refine Ci.ofW (cc := cX5_firstCastActor) (maxL := 2) (by decide) rfl (Nat.le_of_ble_eq_true rfl) ?_
  intro p_ e_ s_ m_ below meth c_ A Q_ S hA hAM hH hS hret ls hl
  have hl : lv_has ls 2 [(0, .ref (h)), (1, .int (iI (r)))] := hl
  have hk1 := hv.nr8
  have hk2 := hv.na20
  have hk3 := hv.ns10
  refine lv_aload_n S.1 S.2.1 dX5_firstCastActor_0 rfl (lv_at hl 0 rfl) ?_
  refine zv_get (v := .ref (q)) S hAM hH nX5_firstCastActor_X5 0 rfl rfl 2 (by decide) mX5_firstCastActor_1 rfl rfl dX5_firstCastActor_1 ?_
  refine lv_iload_n S.1 S.2.1 dX5_firstCastActor_4 rfl (lv_at hl 1 rfl) ?_
  refine zc_Vi (n := 1) (As := [.int (iI (r))]) (rest := []) S hAM hA (kX2_hasRole l X q Qp v sl vo ou inn ac ag ai et xt r hv hP (by omega)) rfl gX5_firstCastActor_X2_hasRole  (by decide +kernel) ⟨Nat.le_of_ble_eq_true rfl, Nat.le_of_ble_eq_true rfl⟩ hH hS [3, 4, 5, 6, 7, 8, 9, 10, 11, 12, 0, 1, 2, 13, 14, 15] rfl 16 rfl (by decide) 2 0 rfl rfl rfl hl.1 rfl (Nat.le_of_ble_eq_true rfl) dX5_firstCastActor_5 ⟨Nat.le_of_ble_eq_true rfl, Nat.le_of_ble_eq_true rfl⟩ (fun z2 _ H locs hp3 hH hS => ?_)
  have hH : Hold X A [poW q Qp ((ns v : Nat) : Int) ((nr v : Nat) : Int) ((na v : Nat) : Int), aW X (Qp 0) 10 sl, aW X (Qp 1) 8 vo, aW X (Qp 2) 8 ou, aW X (Qp 3) 8 inn, aW X (Qp 4) 8 ac, aW X (Qp 5) 20 ag, aW X (Qp 6) 20 ai, aW X (Qp 7) 20 et, aW X (Qp 8) 20 xt, pnW h qt q1 q qs qc qh, tbW X qT Qs T, slW qs q qT, caW qc Qc m0, aW X (Qc 0) 8 riv, aW X (Qc 1) 8 roa].flatten H := hH
  rcases hp3 with ⟨rfl, b_5⟩ | ⟨rfl, b_5⟩
  · refine zv_top (z := 1) (z2 := ((1 : Nat) : Int)) rfl ?_
    obtain ⟨rn, rfl⟩ : ∃ rn : Nat, r = ((rn : Nat) : Int) := ⟨r.toNat, by omega⟩
    refine zv_if_ne (tgt := 15) S dX5_firstCastActor_8 (by decide) (by decide) (fun c_8 => ?_) (fun c_8 => ?_)
    · skip
      refine lv_aload_n S.1 S.2.1 dX5_firstCastActor_15 rfl (lv_at hl 0 rfl) ?_
      refine zv_get (v := .ref (qc)) S hAM hH nX5_firstCastActor_X5 10 rfl rfl 4 (by decide) mX5_firstCastActor_2 rfl rfl dX5_firstCastActor_16 ?_
      refine lv_aload_n S.1 S.2.1 dX5_firstCastActor_19 rfl (lv_at hl 0 rfl) ?_
      refine zv_get (v := .ref (qs)) S hAM hH nX5_firstCastActor_X5 10 rfl rfl 3 (by decide) mX5_firstCastActor_3 rfl rfl dX5_firstCastActor_20 ?_
      refine lv_iconst (v := iI (((0 : Nat) : Int))) S.1 S.2.1 dX5_firstCastActor_23 (by decide) ?_
      refine zc_Vv (n := 2) (As := [.ref (qs), .int (iI ((0 : Nat) : Int))]) (rest := []) S hAM hA (kX0_lookAt l X qc Qc m0 riv qs qT Qs T q Qp v sl vo ou inn ac ag ai et xt 0 hv hP hT (by omega)) rfl gX5_firstCastActor_X0_lookAt  (by decide +kernel) ⟨Nat.le_of_ble_eq_true rfl, Nat.le_of_ble_eq_true rfl⟩ hH hS [13, 14, 11, 12, 0, 1, 2, 3, 4, 5, 6, 7, 8, 9, 10, 15] rfl 16 rfl (by decide) 0 0 rfl rfl rfl hl.1 rfl (Nat.le_of_ble_eq_true rfl) dX5_firstCastActor_24 ⟨Nat.le_of_ble_eq_true rfl, Nat.le_of_ble_eq_true rfl⟩ (fun riv2_4 H locs hp6 hH hS => ?_)
      have hH : Hold X A [caW qc Qc ((nr v : Nat) : Int), aW X (Qc 0) 8 riv2_4, tbW X qT Qs T, slW qs q qT, poW q Qp ((ns v : Nat) : Int) ((nr v : Nat) : Int) ((na v : Nat) : Int), aW X (Qp 0) 10 sl, aW X (Qp 1) 8 vo, aW X (Qp 2) 8 ou, aW X (Qp 3) 8 inn, aW X (Qp 4) 8 ac, aW X (Qp 5) 20 ag, aW X (Qp 6) 20 ai, aW X (Qp 7) 20 et, aW X (Qp 8) 20 xt, pnW h qt q1 q qs qc qh, aW X (Qc 1) 8 roa].flatten H := hH
      have hR_24 := hp6
      refine lv_aload_n S.1 S.2.1 dX5_firstCastActor_27 rfl (lv_at hl 0 rfl) ?_
      refine zv_get (v := .ref (qc)) S hAM hH nX5_firstCastActor_X5 22 rfl rfl 4 (by decide) mX5_firstCastActor_2 rfl rfl dX5_firstCastActor_28 ?_
      refine zc_Vi (n := 0) (As := []) (rest := []) S hAM hA (kX0_findFirstCast l X qc Qc (nr v) (Mk v 0) riv2_4 roa hk1 (fun k hk => ⟨hR_24 k hk, Mk_lt hv 0 k⟩) hn1) rfl gX5_firstCastActor_X0_findFirstCast  (by decide +kernel) ⟨Nat.le_of_ble_eq_true rfl, Nat.le_of_ble_eq_true rfl⟩ hH hS [0, 1, 15, 2, 3, 4, 5, 6, 7, 8, 9, 10, 11, 12, 13, 14] rfl 16 rfl (by decide) 0 0 rfl rfl rfl hl.1 rfl (Nat.le_of_ble_eq_true rfl) dX5_firstCastActor_31 ⟨Nat.le_of_ble_eq_true rfl, Nat.le_of_ble_eq_true rfl⟩ (fun z8 roa2_7 H locs hp9 hH hS => ?_)
      have hH : Hold X A [caW qc Qc (((nr v) : Nat) : Int), aW X (Qc 0) 8 riv2_4, aW X (Qc 1) 8 roa2_7, tbW X qT Qs T, slW qs q qT, poW q Qp ((ns v : Nat) : Int) ((nr v : Nat) : Int) ((na v : Nat) : Int), aW X (Qp 0) 10 sl, aW X (Qp 1) 8 vo, aW X (Qp 2) 8 ou, aW X (Qp 3) 8 inn, aW X (Qp 4) 8 ac, aW X (Qp 5) 20 ag, aW X (Qp 6) 20 ai, aW X (Qp 7) 20 et, aW X (Qp 8) 20 xt, pnW h qt q1 q qs qc qh].flatten H := hH
      obtain ⟨rfl, hB_31⟩ := hp9
      refine lv_pop S.1 S.2.1 dX5_firstCastActor_34 rfl ?_
      refine lv_aload_n S.1 S.2.1 dX5_firstCastActor_35 rfl (lv_at hl 0 rfl) ?_
      refine zv_get (v := .ref (qc)) S hAM hH nX5_firstCastActor_X5 23 rfl rfl 4 (by decide) mX5_firstCastActor_2 rfl rfl dX5_firstCastActor_36 ?_
      refine lv_iload_n S.1 S.2.1 dX5_firstCastActor_39 rfl (lv_at hl 1 rfl) ?_
      refine zc_Vi (n := 1) (As := [.int (iI ((rn : Nat) : Int))]) (rest := []) S hAM hA (kX0_foundActor l X qc Qc (nr v) (Mk v 0) riv2_4 roa2_7 (fcG (Mk v 0) (nr v)) rn hk1 (fun k hk => ⟨hR_24 k hk, Mk_lt hv 0 k⟩) hB_31 (by omega) (fcG_b hk1 (by omega))) rfl gX5_firstCastActor_X0_foundActor  (by decide +kernel) ⟨Nat.le_of_ble_eq_true rfl, Nat.le_of_ble_eq_true rfl⟩ hH hS [0, 1, 2, 3, 4, 5, 6, 7, 8, 9, 10, 11, 12, 13, 14, 15] rfl 16 rfl (List.Perm.refl _) 0 0 rfl rfl rfl hl.1 rfl (Nat.le_of_ble_eq_true rfl) dX5_firstCastActor_40 ⟨Nat.le_of_ble_eq_true rfl, Nat.le_of_ble_eq_true rfl⟩ (fun z11 _ H locs hp12 hH hS => ?_)
      have hH : Hold X A [caW qc Qc (((nr v) : Nat) : Int), aW X (Qc 0) 8 riv2_4, aW X (Qc 1) 8 roa2_7, tbW X qT Qs T, slW qs q qT, poW q Qp ((ns v : Nat) : Int) ((nr v : Nat) : Int) ((na v : Nat) : Int), aW X (Qp 0) 10 sl, aW X (Qp 1) 8 vo, aW X (Qp 2) 8 ou, aW X (Qp 3) 8 inn, aW X (Qp 4) 8 ac, aW X (Qp 5) 20 ag, aW X (Qp 6) 20 ai, aW X (Qp 7) 20 et, aW X (Qp 8) 20 xt, pnW h qt q1 q qs qc qh].flatten H := hH
      obtain rfl := hp12
      have hH : Hold X A [pnW h qt q1 q qs qc qh, tbW X qT Qs T, slW qs q qT, poW q Qp ((ns v : Nat) : Int) ((nr v : Nat) : Int) ((na v : Nat) : Int), aW X (Qp 0) 10 sl, aW X (Qp 1) 8 vo, aW X (Qp 2) 8 ou, aW X (Qp 3) 8 inn, aW X (Qp 4) 8 ac, aW X (Qp 5) 20 ag, aW X (Qp 6) 20 ai, aW X (Qp 7) 20 et, aW X (Qp 8) 20 xt, caW qc Qc (((nr v) : Nat) : Int), aW X (Qc 0) 8 riv2_4, aW X (Qc 1) 8 roa2_7].flatten _ := hH.pick [15, 3, 4, 5, 6, 7, 8, 9, 10, 11, 12, 13, 14, 0, 1, 2] rfl 16 rfl (by decide)
      exact hret 43 ls _ _ ((fcG (Mk v 0) (nr v)) rn) ((((nr v) : Nat) : Int), riv2_4, roa2_7) dX5_firstCastActor_43 rfl (by rw [if_pos (by omega), Int.toNat_natCast]) hH hS
    · exact (show False by omega).elim
  · refine zv_top (z := 0) (z2 := ((0 : Nat) : Int)) rfl ?_
    refine zv_if_ne (tgt := 15) S dX5_firstCastActor_8 (by decide) (by decide) (fun c_8 => ?_) (fun c_8 => ?_)
    · exact (show False by omega).elim
    · skip
      refine lv_sipush (v := iI (-1001)) S.1 S.2.1 dX5_firstCastActor_11 (by decide) ?_
      have hH : Hold X A [pnW h qt q1 q qs qc qh, tbW X qT Qs T, slW qs q qT, poW q Qp ((ns v : Nat) : Int) ((nr v : Nat) : Int) ((na v : Nat) : Int), aW X (Qp 0) 10 sl, aW X (Qp 1) 8 vo, aW X (Qp 2) 8 ou, aW X (Qp 3) 8 inn, aW X (Qp 4) 8 ac, aW X (Qp 5) 20 ag, aW X (Qp 6) 20 ai, aW X (Qp 7) 20 et, aW X (Qp 8) 20 xt, caW qc Qc m0, aW X (Qc 0) 8 riv, aW X (Qc 1) 8 roa].flatten _ := hH.pick [10, 11, 12, 0, 1, 2, 3, 4, 5, 6, 7, 8, 9, 13, 14, 15] rfl 16 rfl (by decide)
      exact hret 14 ls _ _ (-1001) (m0, riv, roa) dX5_firstCastActor_14 rfl (by rw [if_neg (by omega)]) hH hS

theorem mX5_sizeIsEnough_1 : Cond.fieldLink RX5 38 "RoleDoublingPlanner" "casting" "LRoleDoublingPlanner$Casting;" ∈ wsX5_sizeIsEnough := List.mem_of_getElem? (i := 1) rfl
theorem nX5_sizeIsEnough_X5 : ∀ w ∈ wsX50, w ∈ wsX5_sizeIsEnough := fun _ h => List.mem_cons_of_mem _ (List.mem_append_left _ (List.mem_append_left _ (List.mem_append_left _ (List.mem_append_right _ h))))
theorem mX5_sizeIsEnough_2 : Cond.fieldLink RX5 31 "RoleDoublingPlanner" "slacks" "LRoleDoublingPlanner$Slacks;" ∈ wsX5_sizeIsEnough := List.mem_of_getElem? (i := 2) rfl
set_option maxHeartbeats 4000000 in
set_option maxRecDepth 100000 in
theorem kX5_sizeIsEnough (l : Launch) (X : XT) (h : Nat) (qt : Nat) (q1 : Nat) (q : Nat) (qs : Nat) (qc : Nat) (qh : Nat) (qT : Nat) (Qs : Nat → Nat) (T : Nat → Nat → Int) (Qp : Nat → Nat) (v : Nat → Int) (sl : Nat → Int) (vo : Nat → Int) (ou : Nat → Int) (inn : Nat → Int) (ac : Nat → Int) (ag : Nat → Int) (ai : Nat → Int) (et : Nat → Int) (xt : Nat → Int) (Qc : Nat → Nat) (m0 : Int) (riv : Nat → Int) (roa : Nat → Int) (k : Nat) (f : Int) (hv : okR v) (hP : PA v sl vo ou inn ac ag ai et xt) (hT : TbOK T v) (hk : k ≤ 8) (hf : 0 ≤ f ∧ f ≤ 120) : Ci l yX5_sizeIsEnough wsX5_sizeIsEnough (rmD 12) X [.ref h, .int (iI ((k : Nat) : Int)), .int (iI (f))] [pnW h qt q1 q qs qc qh, tbW X qT Qs T, slW qs q qT, poW q Qp ((ns v : Nat) : Int) ((nr v : Nat) : Int) ((na v : Nat) : Int), aW X (Qp 0) 10 sl, aW X (Qp 1) 8 vo, aW X (Qp 2) 8 ou, aW X (Qp 3) 8 inn, aW X (Qp 4) 8 ac, aW X (Qp 5) 20 ag, aW X (Qp 6) 20 ai, aW X (Qp 7) 20 et, aW X (Qp 8) 20 xt, caW qc Qc m0, aW X (Qc 0) 8 riv, aW X (Qc 1) 8 roa] (fun (z : Int) (u : (Int) × (Nat → Int) × (Nat → Int)) => match u with | (m2, riv2, roa2) => (z = 1 ∧ (fc (Mk v f) (nr v) k ≠ none)) ∨ (z = 0 ∧ ¬ (fc (Mk v f) (nr v) k ≠ none))) (fun (u : (Int) × (Nat → Int) × (Nat → Int)) => match u with | (m2, riv2, roa2) => [pnW h qt q1 q qs qc qh, tbW X qT Qs T, slW qs q qT, poW q Qp ((ns v : Nat) : Int) ((nr v : Nat) : Int) ((na v : Nat) : Int), aW X (Qp 0) 10 sl, aW X (Qp 1) 8 vo, aW X (Qp 2) 8 ou, aW X (Qp 3) 8 inn, aW X (Qp 4) 8 ac, aW X (Qp 5) 20 ag, aW X (Qp 6) 20 ai, aW X (Qp 7) 20 et, aW X (Qp 8) 20 xt, caW qc Qc m2, aW X (Qc 0) 8 riv2, aW X (Qc 1) 8 roa2]) := by
  refine Ci.ofW (cc := cX5_sizeIsEnough) (maxL := 3) (by decide) rfl (Nat.le_of_ble_eq_true rfl) ?_
  intro p_ e_ s_ m_ below meth c_ A Q_ S hA hAM hH hS hret ls hl
  have hl : lv_has ls 3 [(0, .ref (h)), (1, .int (iI ((k : Nat) : Int))), (2, .int (iI (f)))] := hl
  have hk1 := hv.nr8
  have hk2 := hv.na20
  have hk3 := hv.ns10
  refine lv_aload_n S.1 S.2.1 dX5_sizeIsEnough_0 rfl (lv_at hl 0 rfl) ?_
  refine zv_get (v := .ref (qc)) S hAM hH nX5_sizeIsEnough_X5 0 rfl rfl 4 (by decide) mX5_sizeIsEnough_1 rfl rfl dX5_sizeIsEnough_1 ?_
  refine lv_aload_n S.1 S.2.1 dX5_sizeIsEnough_4 rfl (lv_at hl 0 rfl) ?_
  refine zv_get (v := .ref (qs)) S hAM hH nX5_sizeIsEnough_X5 0 rfl rfl 3 (by decide) mX5_sizeIsEnough_2 rfl rfl dX5_sizeIsEnough_5 ?_
  refine lv_iload_n S.1 S.2.1 dX5_sizeIsEnough_8 rfl (lv_at hl 2 rfl) ?_
  refine zc_Vv (n := 2) (As := [.ref (qs), .int (iI (f))]) (rest := []) S hAM hA (kX0_lookAt l X qc Qc m0 riv qs qT Qs T q Qp v sl vo ou inn ac ag ai et xt f hv hP hT (by omega)) rfl gX5_sizeIsEnough_X0_lookAt  (by decide +kernel) ⟨Nat.le_of_ble_eq_true rfl, Nat.le_of_ble_eq_true rfl⟩ hH hS [13, 14, 1, 2, 3, 4, 5, 6, 7, 8, 9, 10, 11, 12, 0, 15] rfl 16 rfl (by decide) 0 0 rfl rfl rfl hl.1 rfl (Nat.le_of_ble_eq_true rfl) dX5_sizeIsEnough_9 ⟨Nat.le_of_ble_eq_true rfl, Nat.le_of_ble_eq_true rfl⟩ (fun riv2_1 H locs hp3 hH hS => ?_)
  have hH : Hold X A [caW qc Qc ((nr v : Nat) : Int), aW X (Qc 0) 8 riv2_1, tbW X qT Qs T, slW qs q qT, poW q Qp ((ns v : Nat) : Int) ((nr v : Nat) : Int) ((na v : Nat) : Int), aW X (Qp 0) 10 sl, aW X (Qp 1) 8 vo, aW X (Qp 2) 8 ou, aW X (Qp 3) 8 inn, aW X (Qp 4) 8 ac, aW X (Qp 5) 20 ag, aW X (Qp 6) 20 ai, aW X (Qp 7) 20 et, aW X (Qp 8) 20 xt, pnW h qt q1 q qs qc qh, aW X (Qc 1) 8 roa].flatten H := hH
  have hR_9 := hp3
  refine lv_aload_n S.1 S.2.1 dX5_sizeIsEnough_12 rfl (lv_at hl 0 rfl) ?_
  refine zv_get (v := .ref (qc)) S hAM hH nX5_sizeIsEnough_X5 22 rfl rfl 4 (by decide) mX5_sizeIsEnough_1 rfl rfl dX5_sizeIsEnough_13 ?_
  refine lv_iload_n S.1 S.2.1 dX5_sizeIsEnough_16 rfl (lv_at hl 1 rfl) ?_
  refine zc_Vi (n := 1) (As := [.int (iI ((k : Nat) : Int))]) (rest := []) S hAM hA (kX0_findCast l X qc Qc (nr v) (Mk v f) riv2_1 roa k hk1 (fun k hk => ⟨hR_9 k hk, Mk_lt hv f k⟩) (by omega)) rfl gX5_sizeIsEnough_X0_findCast  (by decide +kernel) ⟨Nat.le_of_ble_eq_true rfl, Nat.le_of_ble_eq_true rfl⟩ hH hS [0, 1, 15, 2, 3, 4, 5, 6, 7, 8, 9, 10, 11, 12, 13, 14] rfl 16 rfl (by decide) 0 0 rfl rfl rfl hl.1 rfl (Nat.le_of_ble_eq_true rfl) dX5_sizeIsEnough_17 ⟨Nat.le_of_ble_eq_true rfl, Nat.le_of_ble_eq_true rfl⟩ (fun z5 roa2_4 H locs hp6 hH hS => ?_)
  have hH : Hold X A [caW qc Qc (((nr v) : Nat) : Int), aW X (Qc 0) 8 riv2_1, aW X (Qc 1) 8 roa2_4, tbW X qT Qs T, slW qs q qT, poW q Qp ((ns v : Nat) : Int) ((nr v : Nat) : Int) ((na v : Nat) : Int), aW X (Qp 0) 10 sl, aW X (Qp 1) 8 vo, aW X (Qp 2) 8 ou, aW X (Qp 3) 8 inn, aW X (Qp 4) 8 ac, aW X (Qp 5) 20 ag, aW X (Qp 6) 20 ai, aW X (Qp 7) 20 et, aW X (Qp 8) 20 xt, pnW h qt q1 q qs qc qh].flatten H := hH
  rcases hp6 with ⟨rfl, b_17⟩ | ⟨rfl, b_17⟩
  · refine zv_top (z := 1) (z2 := ((1 : Nat) : Int)) rfl ?_
    have hH : Hold X A [pnW h qt q1 q qs qc qh, tbW X qT Qs T, slW qs q qT, poW q Qp ((ns v : Nat) : Int) ((nr v : Nat) : Int) ((na v : Nat) : Int), aW X (Qp 0) 10 sl, aW X (Qp 1) 8 vo, aW X (Qp 2) 8 ou, aW X (Qp 3) 8 inn, aW X (Qp 4) 8 ac, aW X (Qp 5) 20 ag, aW X (Qp 6) 20 ai, aW X (Qp 7) 20 et, aW X (Qp 8) 20 xt, caW qc Qc (((nr v) : Nat) : Int), aW X (Qc 0) 8 riv2_1, aW X (Qc 1) 8 roa2_4].flatten _ := hH.pick [15, 3, 4, 5, 6, 7, 8, 9, 10, 11, 12, 13, 14, 0, 1, 2] rfl 16 rfl (by decide)
    exact hret 20 ls _ _ (((1 : Nat) : Int)) ((((nr v) : Nat) : Int), riv2_1, roa2_4) dX5_sizeIsEnough_20 rfl (Or.inl ⟨rfl, by obtain ⟨g2, z, _⟩ := b_17; rw [z]; simp⟩) hH hS
  · refine zv_top (z := 0) (z2 := ((0 : Nat) : Int)) rfl ?_
    have hH : Hold X A [pnW h qt q1 q qs qc qh, tbW X qT Qs T, slW qs q qT, poW q Qp ((ns v : Nat) : Int) ((nr v : Nat) : Int) ((na v : Nat) : Int), aW X (Qp 0) 10 sl, aW X (Qp 1) 8 vo, aW X (Qp 2) 8 ou, aW X (Qp 3) 8 inn, aW X (Qp 4) 8 ac, aW X (Qp 5) 20 ag, aW X (Qp 6) 20 ai, aW X (Qp 7) 20 et, aW X (Qp 8) 20 xt, caW qc Qc (((nr v) : Nat) : Int), aW X (Qc 0) 8 riv2_1, aW X (Qc 1) 8 roa2_4].flatten _ := hH.pick [15, 3, 4, 5, 6, 7, 8, 9, 10, 11, 12, 13, 14, 0, 1, 2] rfl 16 rfl (by decide)
    exact hret 20 ls _ _ (((0 : Nat) : Int)) ((((nr v) : Nat) : Int), riv2_1, roa2_4) dX5_sizeIsEnough_20 rfl (Or.inr ⟨rfl, fun z => z b_17⟩) hH hS
