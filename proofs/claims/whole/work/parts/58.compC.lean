theorem mX2_init_1 : Cond.methodLink RX2 3 objectInit ∈ wsX2_init := List.mem_of_getElem? (i := 1) rfl
theorem mX2_init_2 : Cond.instanceMethod objectInit ∈ wsX2_init := List.mem_of_getElem? (i := 2) rfl
theorem mX2_init_3 : Cond.code objectInit ⟨#[0xb1]⟩ 1 none ∈ wsX2_init := List.mem_of_getElem? (i := 3) rfl
theorem mX2_init_4 : Cond.arrayClass .int ∈ wsX2_init := List.mem_of_getElem? (i := 4) rfl
theorem mX2_init_5 : Cond.fieldLink RX2 9 "RoleDoublingPlanner$Play" "sceneLength" "[I" ∈ wsX2_init := List.mem_of_getElem? (i := 5) rfl
theorem nX2_init_X2 : ∀ w ∈ wsX20, w ∈ wsX2_init := fun _ h => List.mem_cons_of_mem _ (List.mem_append_right _ h)
theorem mX2_init_6 : Cond.fieldLink RX2 15 "RoleDoublingPlanner$Play" "voice" "[I" ∈ wsX2_init := List.mem_of_getElem? (i := 6) rfl
theorem mX2_init_7 : Cond.fieldLink RX2 18 "RoleDoublingPlanner$Play" "out" "[I" ∈ wsX2_init := List.mem_of_getElem? (i := 7) rfl
theorem mX2_init_8 : Cond.fieldLink RX2 21 "RoleDoublingPlanner$Play" "in" "[I" ∈ wsX2_init := List.mem_of_getElem? (i := 8) rfl
theorem mX2_init_9 : Cond.fieldLink RX2 24 "RoleDoublingPlanner$Play" "actor" "[I" ∈ wsX2_init := List.mem_of_getElem? (i := 9) rfl
theorem mX2_init_10 : Cond.fieldLink RX2 27 "RoleDoublingPlanner$Play" "appearing" "[I" ∈ wsX2_init := List.mem_of_getElem? (i := 10) rfl
theorem mX2_init_11 : Cond.fieldLink RX2 30 "RoleDoublingPlanner$Play" "appearingIn" "[I" ∈ wsX2_init := List.mem_of_getElem? (i := 11) rfl
theorem mX2_init_12 : Cond.fieldLink RX2 33 "RoleDoublingPlanner$Play" "enterTime" "[I" ∈ wsX2_init := List.mem_of_getElem? (i := 12) rfl
theorem mX2_init_13 : Cond.fieldLink RX2 36 "RoleDoublingPlanner$Play" "exitTime" "[I" ∈ wsX2_init := List.mem_of_getElem? (i := 13) rfl
set_option maxHeartbeats 4000000 in
set_option maxRecDepth 100000 in
theorem kX2_init (l : Launch) (X : XT) (q : Nat)  : Cv l yX2_init wsX2_init (rmC 2 9 122) X [.ref q] [obW q 2 [.int (iI 0), .int (iI 0), .int (iI 0), .null, .null, .null, .null, .null, .null, .null, .null, .null]] (fun (Qp : Nat → Nat) => True) (fun (Qp : Nat → Nat) => [poW q Qp 0 0 0, aW X (Qp 0) 10 z0, aW X (Qp 1) 8 z0, aW X (Qp 2) 8 z0, aW X (Qp 3) 8 z0, aW X (Qp 4) 8 z0, aW X (Qp 5) 20 z0, aW X (Qp 6) 20 z0, aW X (Qp 7) 20 z0, aW X (Qp 8) 20 z0]) := by
  refine Cv.ofW (cc := cX2_init) (maxL := 1) (by decide) rfl (Nat.le_of_ble_eq_true rfl) ?_
  intro p_ e_ s_ m_ below meth c_ A Q_ S hA hAM hH hS hmn hret ls hl
  have hl : lv_has ls 1 [(0, .ref (q))] := hl
  refine lv_aload_n S.1 S.2.1 dX2_init_0 rfl (lv_at hl 0 rfl) ?_
  refine W.objInit S.1 S.2.1 S.2.2.2.1 (S.2.2.2.2 _ mX2_init_1) (S.2.2.2.2 _ mX2_init_2) (S.2.2.2.2 _ mX2_init_3) rfl (by rw [S.2.2.1]; exact hl.1) rfl dX2_init_1 (Nat.le_of_ble_eq_true rfl) (Nat.le_of_ble_eq_true rfl) ?_
  show W _ _ _ _ _ _ _ _ _ _ _ _ _ _ _ (F0 m_ 4 ls [])
  refine lv_aload_n S.1 S.2.1 dX2_init_4 rfl (lv_at hl 0 rfl) ?_
  refine lv_bipush (v := iI (((10 : Nat) : Int))) S.1 S.2.1 dX2_init_5 (by decide) ?_
  refine zv_newi (N := 10) S hAM hH hS hA mX2_init_4 (by decide) (Nat.le_of_ble_eq_true rfl) (Nat.le_of_ble_eq_true rfl) dX2_init_7 (fun q1 H hH hS => ?_)
  have hH : Hold X A [obW q 2 [.int (iI 0), .int (iI 0), .int (iI 0), .null, .null, .null, .null, .null, .null, .null, .null, .null], aW X q1 10 z0].flatten H := hH
  refine zv_putF (v := .ref (q1)) (w2 := [obW q 2 [.int (iI 0), .int (iI 0), .int (iI 0), .ref (q1), .null, .null, .null, .null, .null, .null, .null, .null], aW X q1 10 z0].flatten) S hAM hH hS nX2_init_X2 tyX2 tyX2_ok nmX2 0 rfl rfl 3 (by decide) mX2_init_5 rfl rfl hmn rfl rfl rfl (Nat.le_of_ble_eq_true rfl) rfl dX2_init_9 (fun H locs hH hS => ?_)
  refine lv_aload_n S.1 S.2.1 dX2_init_12 rfl (lv_at hl 0 rfl) ?_
  refine lv_bipush (v := iI (((8 : Nat) : Int))) S.1 S.2.1 dX2_init_13 (by decide) ?_
  refine zv_newi (N := 8) S hAM hH hS hA mX2_init_4 (by decide) (Nat.le_of_ble_eq_true rfl) (Nat.le_of_ble_eq_true rfl) dX2_init_15 (fun q2 H hH hS => ?_)
  have hH : Hold X A [obW q 2 [.int (iI 0), .int (iI 0), .int (iI 0), .ref (q1), .null, .null, .null, .null, .null, .null, .null, .null], aW X q1 10 z0, aW X q2 8 z0].flatten H := hH
  refine zv_putF (v := .ref (q2)) (w2 := [obW q 2 [.int (iI 0), .int (iI 0), .int (iI 0), .ref (q1), .ref (q2), .null, .null, .null, .null, .null, .null, .null], aW X q1 10 z0, aW X q2 8 z0].flatten) S hAM hH hS nX2_init_X2 tyX2 tyX2_ok nmX2 0 rfl rfl 4 (by decide) mX2_init_6 rfl rfl hmn rfl rfl rfl (Nat.le_of_ble_eq_true rfl) rfl dX2_init_17 (fun H locs hH hS => ?_)
  refine lv_aload_n S.1 S.2.1 dX2_init_20 rfl (lv_at hl 0 rfl) ?_
  refine lv_bipush (v := iI (((8 : Nat) : Int))) S.1 S.2.1 dX2_init_21 (by decide) ?_
  refine zv_newi (N := 8) S hAM hH hS hA mX2_init_4 (by decide) (Nat.le_of_ble_eq_true rfl) (Nat.le_of_ble_eq_true rfl) dX2_init_23 (fun q3 H hH hS => ?_)
  have hH : Hold X A [obW q 2 [.int (iI 0), .int (iI 0), .int (iI 0), .ref (q1), .ref (q2), .null, .null, .null, .null, .null, .null, .null], aW X q1 10 z0, aW X q2 8 z0, aW X q3 8 z0].flatten H := hH
  refine zv_putF (v := .ref (q3)) (w2 := [obW q 2 [.int (iI 0), .int (iI 0), .int (iI 0), .ref (q1), .ref (q2), .ref (q3), .null, .null, .null, .null, .null, .null], aW X q1 10 z0, aW X q2 8 z0, aW X q3 8 z0].flatten) S hAM hH hS nX2_init_X2 tyX2 tyX2_ok nmX2 0 rfl rfl 5 (by decide) mX2_init_7 rfl rfl hmn rfl rfl rfl (Nat.le_of_ble_eq_true rfl) rfl dX2_init_25 (fun H locs hH hS => ?_)
  refine lv_aload_n S.1 S.2.1 dX2_init_28 rfl (lv_at hl 0 rfl) ?_
  refine lv_bipush (v := iI (((8 : Nat) : Int))) S.1 S.2.1 dX2_init_29 (by decide) ?_
  refine zv_newi (N := 8) S hAM hH hS hA mX2_init_4 (by decide) (Nat.le_of_ble_eq_true rfl) (Nat.le_of_ble_eq_true rfl) dX2_init_31 (fun q4 H hH hS => ?_)
  have hH : Hold X A [obW q 2 [.int (iI 0), .int (iI 0), .int (iI 0), .ref (q1), .ref (q2), .ref (q3), .null, .null, .null, .null, .null, .null], aW X q1 10 z0, aW X q2 8 z0, aW X q3 8 z0, aW X q4 8 z0].flatten H := hH
  refine zv_putF (v := .ref (q4)) (w2 := [obW q 2 [.int (iI 0), .int (iI 0), .int (iI 0), .ref (q1), .ref (q2), .ref (q3), .ref (q4), .null, .null, .null, .null, .null], aW X q1 10 z0, aW X q2 8 z0, aW X q3 8 z0, aW X q4 8 z0].flatten) S hAM hH hS nX2_init_X2 tyX2 tyX2_ok nmX2 0 rfl rfl 6 (by decide) mX2_init_8 rfl rfl hmn rfl rfl rfl (Nat.le_of_ble_eq_true rfl) rfl dX2_init_33 (fun H locs hH hS => ?_)
  refine lv_aload_n S.1 S.2.1 dX2_init_36 rfl (lv_at hl 0 rfl) ?_
  refine lv_bipush (v := iI (((8 : Nat) : Int))) S.1 S.2.1 dX2_init_37 (by decide) ?_
  refine zv_newi (N := 8) S hAM hH hS hA mX2_init_4 (by decide) (Nat.le_of_ble_eq_true rfl) (Nat.le_of_ble_eq_true rfl) dX2_init_39 (fun q5 H hH hS => ?_)
  have hH : Hold X A [obW q 2 [.int (iI 0), .int (iI 0), .int (iI 0), .ref (q1), .ref (q2), .ref (q3), .ref (q4), .null, .null, .null, .null, .null], aW X q1 10 z0, aW X q2 8 z0, aW X q3 8 z0, aW X q4 8 z0, aW X q5 8 z0].flatten H := hH
  refine zv_putF (v := .ref (q5)) (w2 := [obW q 2 [.int (iI 0), .int (iI 0), .int (iI 0), .ref (q1), .ref (q2), .ref (q3), .ref (q4), .ref (q5), .null, .null, .null, .null], aW X q1 10 z0, aW X q2 8 z0, aW X q3 8 z0, aW X q4 8 z0, aW X q5 8 z0].flatten) S hAM hH hS nX2_init_X2 tyX2 tyX2_ok nmX2 0 rfl rfl 7 (by decide) mX2_init_9 rfl rfl hmn rfl rfl rfl (Nat.le_of_ble_eq_true rfl) rfl dX2_init_41 (fun H locs hH hS => ?_)
  refine lv_aload_n S.1 S.2.1 dX2_init_44 rfl (lv_at hl 0 rfl) ?_
  refine lv_bipush (v := iI (((20 : Nat) : Int))) S.1 S.2.1 dX2_init_45 (by decide) ?_
  refine zv_newi (N := 20) S hAM hH hS hA mX2_init_4 (by decide) (Nat.le_of_ble_eq_true rfl) (Nat.le_of_ble_eq_true rfl) dX2_init_47 (fun q6 H hH hS => ?_)
  have hH : Hold X A [obW q 2 [.int (iI 0), .int (iI 0), .int (iI 0), .ref (q1), .ref (q2), .ref (q3), .ref (q4), .ref (q5), .null, .null, .null, .null], aW X q1 10 z0, aW X q2 8 z0, aW X q3 8 z0, aW X q4 8 z0, aW X q5 8 z0, aW X q6 20 z0].flatten H := hH
  refine zv_putF (v := .ref (q6)) (w2 := [obW q 2 [.int (iI 0), .int (iI 0), .int (iI 0), .ref (q1), .ref (q2), .ref (q3), .ref (q4), .ref (q5), .ref (q6), .null, .null, .null], aW X q1 10 z0, aW X q2 8 z0, aW X q3 8 z0, aW X q4 8 z0, aW X q5 8 z0, aW X q6 20 z0].flatten) S hAM hH hS nX2_init_X2 tyX2 tyX2_ok nmX2 0 rfl rfl 8 (by decide) mX2_init_10 rfl rfl hmn rfl rfl rfl (Nat.le_of_ble_eq_true rfl) rfl dX2_init_49 (fun H locs hH hS => ?_)
  refine lv_aload_n S.1 S.2.1 dX2_init_52 rfl (lv_at hl 0 rfl) ?_
  refine lv_bipush (v := iI (((20 : Nat) : Int))) S.1 S.2.1 dX2_init_53 (by decide) ?_
  refine zv_newi (N := 20) S hAM hH hS hA mX2_init_4 (by decide) (Nat.le_of_ble_eq_true rfl) (Nat.le_of_ble_eq_true rfl) dX2_init_55 (fun q7 H hH hS => ?_)
  have hH : Hold X A [obW q 2 [.int (iI 0), .int (iI 0), .int (iI 0), .ref (q1), .ref (q2), .ref (q3), .ref (q4), .ref (q5), .ref (q6), .null, .null, .null], aW X q1 10 z0, aW X q2 8 z0, aW X q3 8 z0, aW X q4 8 z0, aW X q5 8 z0, aW X q6 20 z0, aW X q7 20 z0].flatten H := hH
  refine zv_putF (v := .ref (q7)) (w2 := [obW q 2 [.int (iI 0), .int (iI 0), .int (iI 0), .ref (q1), .ref (q2), .ref (q3), .ref (q4), .ref (q5), .ref (q6), .ref (q7), .null, .null], aW X q1 10 z0, aW X q2 8 z0, aW X q3 8 z0, aW X q4 8 z0, aW X q5 8 z0, aW X q6 20 z0, aW X q7 20 z0].flatten) S hAM hH hS nX2_init_X2 tyX2 tyX2_ok nmX2 0 rfl rfl 9 (by decide) mX2_init_11 rfl rfl hmn rfl rfl rfl (Nat.le_of_ble_eq_true rfl) rfl dX2_init_57 (fun H locs hH hS => ?_)
  refine lv_aload_n S.1 S.2.1 dX2_init_60 rfl (lv_at hl 0 rfl) ?_
  refine lv_bipush (v := iI (((20 : Nat) : Int))) S.1 S.2.1 dX2_init_61 (by decide) ?_
  refine zv_newi (N := 20) S hAM hH hS hA mX2_init_4 (by decide) (Nat.le_of_ble_eq_true rfl) (Nat.le_of_ble_eq_true rfl) dX2_init_63 (fun q8 H hH hS => ?_)
  have hH : Hold X A [obW q 2 [.int (iI 0), .int (iI 0), .int (iI 0), .ref (q1), .ref (q2), .ref (q3), .ref (q4), .ref (q5), .ref (q6), .ref (q7), .null, .null], aW X q1 10 z0, aW X q2 8 z0, aW X q3 8 z0, aW X q4 8 z0, aW X q5 8 z0, aW X q6 20 z0, aW X q7 20 z0, aW X q8 20 z0].flatten H := hH
  refine zv_putF (v := .ref (q8)) (w2 := [obW q 2 [.int (iI 0), .int (iI 0), .int (iI 0), .ref (q1), .ref (q2), .ref (q3), .ref (q4), .ref (q5), .ref (q6), .ref (q7), .ref (q8), .null], aW X q1 10 z0, aW X q2 8 z0, aW X q3 8 z0, aW X q4 8 z0, aW X q5 8 z0, aW X q6 20 z0, aW X q7 20 z0, aW X q8 20 z0].flatten) S hAM hH hS nX2_init_X2 tyX2 tyX2_ok nmX2 0 rfl rfl 10 (by decide) mX2_init_12 rfl rfl hmn rfl rfl rfl (Nat.le_of_ble_eq_true rfl) rfl dX2_init_65 (fun H locs hH hS => ?_)
  refine lv_aload_n S.1 S.2.1 dX2_init_68 rfl (lv_at hl 0 rfl) ?_
  refine lv_bipush (v := iI (((20 : Nat) : Int))) S.1 S.2.1 dX2_init_69 (by decide) ?_
  refine zv_newi (N := 20) S hAM hH hS hA mX2_init_4 (by decide) (Nat.le_of_ble_eq_true rfl) (Nat.le_of_ble_eq_true rfl) dX2_init_71 (fun q9 H hH hS => ?_)
  have hH : Hold X A [obW q 2 [.int (iI 0), .int (iI 0), .int (iI 0), .ref (q1), .ref (q2), .ref (q3), .ref (q4), .ref (q5), .ref (q6), .ref (q7), .ref (q8), .null], aW X q1 10 z0, aW X q2 8 z0, aW X q3 8 z0, aW X q4 8 z0, aW X q5 8 z0, aW X q6 20 z0, aW X q7 20 z0, aW X q8 20 z0, aW X q9 20 z0].flatten H := hH
  refine zv_putF (v := .ref (q9)) (w2 := [obW q 2 [.int (iI 0), .int (iI 0), .int (iI 0), .ref (q1), .ref (q2), .ref (q3), .ref (q4), .ref (q5), .ref (q6), .ref (q7), .ref (q8), .ref (q9)], aW X q1 10 z0, aW X q2 8 z0, aW X q3 8 z0, aW X q4 8 z0, aW X q5 8 z0, aW X q6 20 z0, aW X q7 20 z0, aW X q8 20 z0, aW X q9 20 z0].flatten) S hAM hH hS nX2_init_X2 tyX2 tyX2_ok nmX2 0 rfl rfl 11 (by decide) mX2_init_13 rfl rfl hmn rfl rfl rfl (Nat.le_of_ble_eq_true rfl) rfl dX2_init_73 (fun H locs hH hS => ?_)
  have hH : Hold X A [poW q (mkQ [q1, q2, q3, q4, q5, q6, q7, q8, q9]) 0 0 0, aW X ((mkQ [q1, q2, q3, q4, q5, q6, q7, q8, q9]) 0) 10 z0, aW X ((mkQ [q1, q2, q3, q4, q5, q6, q7, q8, q9]) 1) 8 z0, aW X ((mkQ [q1, q2, q3, q4, q5, q6, q7, q8, q9]) 2) 8 z0, aW X ((mkQ [q1, q2, q3, q4, q5, q6, q7, q8, q9]) 3) 8 z0, aW X ((mkQ [q1, q2, q3, q4, q5, q6, q7, q8, q9]) 4) 8 z0, aW X ((mkQ [q1, q2, q3, q4, q5, q6, q7, q8, q9]) 5) 20 z0, aW X ((mkQ [q1, q2, q3, q4, q5, q6, q7, q8, q9]) 6) 20 z0, aW X ((mkQ [q1, q2, q3, q4, q5, q6, q7, q8, q9]) 7) 20 z0, aW X ((mkQ [q1, q2, q3, q4, q5, q6, q7, q8, q9]) 8) 20 z0].flatten _ := hH
  exact hret 76 ls _ _ (mkQ [q1, q2, q3, q4, q5, q6, q7, q8, q9]) dX2_init_76 trivial hH hS

theorem mX3_init_1 : Cond.methodLink RX3 3 objectInit ∈ wsX3_init := List.mem_of_getElem? (i := 1) rfl
theorem mX3_init_2 : Cond.instanceMethod objectInit ∈ wsX3_init := List.mem_of_getElem? (i := 2) rfl
theorem mX3_init_3 : Cond.code objectInit ⟨#[0xb1]⟩ 1 none ∈ wsX3_init := List.mem_of_getElem? (i := 3) rfl
theorem mX3_init_4 : Cond.arrayClass .char ∈ wsX3_init := List.mem_of_getElem? (i := 4) rfl
theorem mX3_init_5 : Cond.fieldLink RX3 9 "RoleDoublingPlanner$PlayText" "signs" "[C" ∈ wsX3_init := List.mem_of_getElem? (i := 5) rfl
theorem nX3_init_X3 : ∀ w ∈ wsX30, w ∈ wsX3_init := fun _ h => List.mem_cons_of_mem _ (List.mem_append_right _ h)
theorem mX3_init_6 : Cond.arrayClass .int ∈ wsX3_init := List.mem_of_getElem? (i := 6) rfl
theorem mX3_init_7 : Cond.fieldLink RX3 15 "RoleDoublingPlanner$PlayText" "numbers" "[I" ∈ wsX3_init := List.mem_of_getElem? (i := 7) rfl
set_option maxHeartbeats 4000000 in
set_option maxRecDepth 100000 in
theorem kX3_init (l : Launch) (X : XT) (qt : Nat)  : Cv l yX3_init wsX3_init (rmC 2 2 404) X [.ref qt] [obW qt 3 [.null, .int (iI 0), .int (iI 0), .int (iI 0), .int (iI 0), .int (iI 0), .null]] (fun (Qt : Nat → Nat) => True) (fun (Qt : Nat → Nat) => [toW qt Qt ((0 : Nat) : Int) 0 0 ((0 : Nat) : Int) ((0 : Nat) : Int), cW X (Qt 0) 400 z0, aW X (Qt 1) 4 z0]) := by
  refine Cv.ofW (cc := cX3_init) (maxL := 1) (by decide) rfl (Nat.le_of_ble_eq_true rfl) ?_
  intro p_ e_ s_ m_ below meth c_ A Q_ S hA hAM hH hS hmn hret ls hl
  have hl : lv_has ls 1 [(0, .ref (qt))] := hl
  refine lv_aload_n S.1 S.2.1 dX3_init_0 rfl (lv_at hl 0 rfl) ?_
  refine W.objInit S.1 S.2.1 S.2.2.2.1 (S.2.2.2.2 _ mX3_init_1) (S.2.2.2.2 _ mX3_init_2) (S.2.2.2.2 _ mX3_init_3) rfl (by rw [S.2.2.1]; exact hl.1) rfl dX3_init_1 (Nat.le_of_ble_eq_true rfl) (Nat.le_of_ble_eq_true rfl) ?_
  show W _ _ _ _ _ _ _ _ _ _ _ _ _ _ _ (F0 m_ 4 ls [])
  refine lv_aload_n S.1 S.2.1 dX3_init_4 rfl (lv_at hl 0 rfl) ?_
  refine lv_sipush (v := iI (((400 : Nat) : Int))) S.1 S.2.1 dX3_init_5 (by decide) ?_
  refine zv_newc (N := 400) S hAM hH hS hA mX3_init_4 (by decide) (Nat.le_of_ble_eq_true rfl) (Nat.le_of_ble_eq_true rfl) dX3_init_8 (fun q1 H hH hS => ?_)
  have hH : Hold X A [obW qt 3 [.null, .int (iI 0), .int (iI 0), .int (iI 0), .int (iI 0), .int (iI 0), .null], cW X q1 400 z0].flatten H := hH
  refine zv_putF (v := .ref (q1)) (w2 := [obW qt 3 [.ref (q1), .int (iI 0), .int (iI 0), .int (iI 0), .int (iI 0), .int (iI 0), .null], cW X q1 400 z0].flatten) S hAM hH hS nX3_init_X3 tyX3 tyX3_ok nmX3 0 rfl rfl 0 (by decide) mX3_init_5 rfl rfl hmn rfl rfl rfl (Nat.le_of_ble_eq_true rfl) rfl dX3_init_10 (fun H locs hH hS => ?_)
  refine lv_aload_n S.1 S.2.1 dX3_init_13 rfl (lv_at hl 0 rfl) ?_
  refine lv_iconst (v := iI (((4 : Nat) : Int))) S.1 S.2.1 dX3_init_14 (by decide) ?_
  refine zv_newi (N := 4) S hAM hH hS hA mX3_init_6 (by decide) (Nat.le_of_ble_eq_true rfl) (Nat.le_of_ble_eq_true rfl) dX3_init_15 (fun q2 H hH hS => ?_)
  have hH : Hold X A [obW qt 3 [.ref (q1), .int (iI 0), .int (iI 0), .int (iI 0), .int (iI 0), .int (iI 0), .null], cW X q1 400 z0, aW X q2 4 z0].flatten H := hH
  refine zv_putF (v := .ref (q2)) (w2 := [obW qt 3 [.ref (q1), .int (iI 0), .int (iI 0), .int (iI 0), .int (iI 0), .int (iI 0), .ref (q2)], cW X q1 400 z0, aW X q2 4 z0].flatten) S hAM hH hS nX3_init_X3 tyX3 tyX3_ok nmX3 0 rfl rfl 6 (by decide) mX3_init_7 rfl rfl hmn rfl rfl rfl (Nat.le_of_ble_eq_true rfl) rfl dX3_init_17 (fun H locs hH hS => ?_)
  have hH : Hold X A [toW qt (mkQ [q1, q2]) ((0 : Nat) : Int) 0 0 ((0 : Nat) : Int) ((0 : Nat) : Int), cW X ((mkQ [q1, q2]) 0) 400 z0, aW X ((mkQ [q1, q2]) 1) 4 z0].flatten _ := hH
  exact hret 20 ls _ _ (mkQ [q1, q2]) dX3_init_20 trivial hH hS

theorem mX0_init_1 : Cond.methodLink RX0 3 objectInit ∈ wsX0_init := List.mem_of_getElem? (i := 1) rfl
theorem mX0_init_2 : Cond.instanceMethod objectInit ∈ wsX0_init := List.mem_of_getElem? (i := 2) rfl
theorem mX0_init_3 : Cond.code objectInit ⟨#[0xb1]⟩ 1 none ∈ wsX0_init := List.mem_of_getElem? (i := 3) rfl
theorem mX0_init_4 : Cond.arrayClass .int ∈ wsX0_init := List.mem_of_getElem? (i := 4) rfl
theorem mX0_init_5 : Cond.fieldLink RX0 9 "RoleDoublingPlanner$Casting" "rivals" "[I" ∈ wsX0_init := List.mem_of_getElem? (i := 5) rfl
theorem nX0_init_X0 : ∀ w ∈ wsX00, w ∈ wsX0_init := fun _ h => List.mem_cons_of_mem _ (List.mem_append_right _ h)
theorem mX0_init_6 : Cond.fieldLink RX0 15 "RoleDoublingPlanner$Casting" "rolesOfActor" "[I" ∈ wsX0_init := List.mem_of_getElem? (i := 6) rfl
set_option maxHeartbeats 4000000 in
set_option maxRecDepth 100000 in
theorem kX0_init (l : Launch) (X : XT) (qc : Nat)  : Cv l yX0_init wsX0_init (rmC 2 2 16) X [.ref qc] [obW qc 0 [.int (iI 0), .null, .null]] (fun (Qc : Nat → Nat) => True) (fun (Qc : Nat → Nat) => [caW qc Qc 0, aW X (Qc 0) 8 z0, aW X (Qc 1) 8 z0]) := by
  refine Cv.ofW (cc := cX0_init) (maxL := 1) (by decide) rfl (Nat.le_of_ble_eq_true rfl) ?_
  intro p_ e_ s_ m_ below meth c_ A Q_ S hA hAM hH hS hmn hret ls hl
  have hl : lv_has ls 1 [(0, .ref (qc))] := hl
  refine lv_aload_n S.1 S.2.1 dX0_init_0 rfl (lv_at hl 0 rfl) ?_
  refine W.objInit S.1 S.2.1 S.2.2.2.1 (S.2.2.2.2 _ mX0_init_1) (S.2.2.2.2 _ mX0_init_2) (S.2.2.2.2 _ mX0_init_3) rfl (by rw [S.2.2.1]; exact hl.1) rfl dX0_init_1 (Nat.le_of_ble_eq_true rfl) (Nat.le_of_ble_eq_true rfl) ?_
  show W _ _ _ _ _ _ _ _ _ _ _ _ _ _ _ (F0 m_ 4 ls [])
  refine lv_aload_n S.1 S.2.1 dX0_init_4 rfl (lv_at hl 0 rfl) ?_
  refine lv_bipush (v := iI (((8 : Nat) : Int))) S.1 S.2.1 dX0_init_5 (by decide) ?_
  refine zv_newi (N := 8) S hAM hH hS hA mX0_init_4 (by decide) (Nat.le_of_ble_eq_true rfl) (Nat.le_of_ble_eq_true rfl) dX0_init_7 (fun q1 H hH hS => ?_)
  have hH : Hold X A [obW qc 0 [.int (iI 0), .null, .null], aW X q1 8 z0].flatten H := hH
  refine zv_putF (v := .ref (q1)) (w2 := [obW qc 0 [.int (iI 0), .ref (q1), .null], aW X q1 8 z0].flatten) S hAM hH hS nX0_init_X0 tyX0 tyX0_ok nmX0 0 rfl rfl 1 (by decide) mX0_init_5 rfl rfl hmn rfl rfl rfl (Nat.le_of_ble_eq_true rfl) rfl dX0_init_9 (fun H locs hH hS => ?_)
  refine lv_aload_n S.1 S.2.1 dX0_init_12 rfl (lv_at hl 0 rfl) ?_
  refine lv_bipush (v := iI (((8 : Nat) : Int))) S.1 S.2.1 dX0_init_13 (by decide) ?_
  refine zv_newi (N := 8) S hAM hH hS hA mX0_init_4 (by decide) (Nat.le_of_ble_eq_true rfl) (Nat.le_of_ble_eq_true rfl) dX0_init_15 (fun q2 H hH hS => ?_)
  have hH : Hold X A [obW qc 0 [.int (iI 0), .ref (q1), .null], aW X q1 8 z0, aW X q2 8 z0].flatten H := hH
  refine zv_putF (v := .ref (q2)) (w2 := [obW qc 0 [.int (iI 0), .ref (q1), .ref (q2)], aW X q1 8 z0, aW X q2 8 z0].flatten) S hAM hH hS nX0_init_X0 tyX0 tyX0_ok nmX0 0 rfl rfl 2 (by decide) mX0_init_6 rfl rfl hmn rfl rfl rfl (Nat.le_of_ble_eq_true rfl) rfl dX0_init_17 (fun H locs hH hS => ?_)
  have hH : Hold X A [caW qc (mkQ [q1, q2]) 0, aW X ((mkQ [q1, q2]) 0) 8 z0, aW X ((mkQ [q1, q2]) 1) 8 z0].flatten _ := hH
  exact hret 20 ls _ _ (mkQ [q1, q2]) dX0_init_20 trivial hH hS

theorem mX4_init_1 : Cond.methodLink RX4 3 objectInit ∈ wsX4_init := List.mem_of_getElem? (i := 1) rfl
theorem mX4_init_2 : Cond.instanceMethod objectInit ∈ wsX4_init := List.mem_of_getElem? (i := 2) rfl
theorem mX4_init_3 : Cond.code objectInit ⟨#[0xb1]⟩ 1 none ∈ wsX4_init := List.mem_of_getElem? (i := 3) rfl
theorem mX4_init_4 : Cond.classLink RX4 9 "[[I" ∈ wsX4_init := List.mem_of_getElem? (i := 4) rfl
theorem mX4_init_5 : Cond.arrayClass .int ∈ wsX4_init := List.mem_of_getElem? (i := 5) rfl
theorem mX4_init_6 : Cond.fieldLink RX4 11 "RoleDoublingPlanner$Slacks" "table" "[[I" ∈ wsX4_init := List.mem_of_getElem? (i := 6) rfl
theorem nX4_init_X4 : ∀ w ∈ wsX40, w ∈ wsX4_init := fun _ h => List.mem_cons_of_mem _ (List.mem_append_right _ h)
theorem mX4_init_7 : Cond.fieldLink RX4 16 "RoleDoublingPlanner$Slacks" "play" "LRoleDoublingPlanner$Play;" ∈ wsX4_init := List.mem_of_getElem? (i := 7) rfl
set_option maxHeartbeats 4000000 in
set_option maxRecDepth 100000 in
theorem kX4_init (l : Launch) (X : XT) (qs : Nat) (q : Nat)  : Cv l yX4_init wsX4_init (rmC 2 9 72) X [.ref qs, .ref (q)] [obW qs 4 [.null, .null]] (fun (u : (Nat) × (Nat → Nat)) => match u with | (qT, Qs) => True) (fun (u : (Nat) × (Nat → Nat)) => match u with | (qT, Qs) => [tbW X qT Qs (fun _ => z0), slW qs q qT]) := by
  refine Cv.ofW (cc := cX4_init) (maxL := 2) (by decide) rfl (Nat.le_of_ble_eq_true rfl) ?_
  intro p_ e_ s_ m_ below meth c_ A Q_ S hA hAM hH hS hmn hret ls hl
  have hl : lv_has ls 2 [(0, .ref (qs)), (1, .ref (q))] := hl
  refine lv_aload_n S.1 S.2.1 dX4_init_0 rfl (lv_at hl 0 rfl) ?_
  refine W.objInit S.1 S.2.1 S.2.2.2.1 (S.2.2.2.2 _ mX4_init_1) (S.2.2.2.2 _ mX4_init_2) (S.2.2.2.2 _ mX4_init_3) rfl (by rw [S.2.2.1]; exact hl.1) rfl dX4_init_1 (Nat.le_of_ble_eq_true rfl) (Nat.le_of_ble_eq_true rfl) ?_
  show W _ _ _ _ _ _ _ _ _ _ _ _ _ _ _ (F0 m_ 4 ls [])
  refine lv_aload_n S.1 S.2.1 dX4_init_4 rfl (lv_at hl 0 rfl) ?_
  refine lv_bipush (v := iI (((8 : Nat) : Int))) S.1 S.2.1 dX4_init_5 (by decide) ?_
  refine lv_bipush (v := iI (((8 : Nat) : Int))) S.1 S.2.1 dX4_init_7 (by decide) ?_
  refine zv_multi S hAM hH hS hA mX4_init_4 mX4_init_5 (Nat.le_of_ble_eq_true rfl) (Nat.le_of_ble_eq_true rfl) dX4_init_9 (fun q1 H hH hS => ?_)
  have hH : Hold X A [obW qs 4 [.null, .null], tbW X q1 (fun j => q1 + 1 + j) (fun _ => z0)].flatten H := hH
  refine zv_putF (v := .ref (q1)) (w2 := [obW qs 4 [.null, .ref (q1)], tbW X q1 (fun j => q1 + 1 + j) (fun _ => z0)].flatten) S hAM hH hS nX4_init_X4 tyX4 tyX4_ok nmX4 0 rfl rfl 1 (by decide) mX4_init_6 rfl rfl hmn rfl rfl rfl (Nat.le_of_ble_eq_true rfl) rfl dX4_init_13 (fun H locs hH hS => ?_)
  refine lv_aload_n S.1 S.2.1 dX4_init_16 rfl (lv_at hl 0 rfl) ?_
  refine lv_aload_n S.1 S.2.1 dX4_init_17 rfl (lv_at hl 1 rfl) ?_
  refine zv_putF (v := .ref (q)) (w2 := [obW qs 4 [.ref (q), .ref (q1)], tbW X q1 (fun j => q1 + 1 + j) (fun _ => z0)].flatten) S hAM hH hS nX4_init_X4 tyX4 tyX4_ok nmX4 0 rfl rfl 0 (by decide) mX4_init_7 rfl rfl hmn rfl rfl rfl (Nat.le_of_ble_eq_true rfl) rfl dX4_init_18 (fun H locs hH hS => ?_)
  have hH : Hold X A [tbW X q1 (fun j => q1 + 1 + j) (fun _ => z0), obW qs 4 [.ref (q), .ref (q1)]].flatten _ := Hold.pick hH [1, 0] rfl 2 rfl (by decide)
  have hH : Hold X A [tbW X q1 (fun j => q1 + 1 + j) (fun _ => z0), slW qs q q1].flatten _ := hH
  exact hret 21 ls _ _ (q1, (fun j => q1 + 1 + j)) dX4_init_21 trivial hH hS

theorem mX1_init_1 : Cond.methodLink RX1 3 objectInit ∈ wsX1_init := List.mem_of_getElem? (i := 1) rfl
theorem mX1_init_2 : Cond.instanceMethod objectInit ∈ wsX1_init := List.mem_of_getElem? (i := 2) rfl
theorem mX1_init_3 : Cond.code objectInit ⟨#[0xb1]⟩ 1 none ∈ wsX1_init := List.mem_of_getElem? (i := 3) rfl
theorem mX1_init_4 : Cond.classLink RX1 9 RX2 ∈ wsX1_init := List.mem_of_getElem? (i := 4) rfl
theorem mX1_init_5 : Cond.fieldLink RX1 11 "RoleDoublingPlanner$History" "past" "[LRoleDoublingPlanner$Play;" ∈ wsX1_init := List.mem_of_getElem? (i := 5) rfl
theorem nX1_init_X1 : ∀ w ∈ wsX10, w ∈ wsX1_init := fun _ h => List.mem_cons_of_mem _ (List.mem_append_left _ (List.mem_append_right _ h))
theorem mX1_init_6 : Cond.instantiable RX2 12 ∈ wsX1_init := List.mem_of_getElem? (i := 6) rfl
theorem mX1_init_7 : Cond.initialized RX2 ∈ wsX1_init := List.mem_of_getElem? (i := 7) rfl
theorem nX1_init_X2 : ∀ w ∈ wsX20, w ∈ wsX1_init := fun _ h => List.mem_cons_of_mem _ (List.mem_append_right _ h)
theorem mX1_init_8 : Cond.instanceMethod yX2_init ∈ wsX1_init := List.mem_of_getElem? (i := 8) rfl
set_option maxHeartbeats 4000000 in
set_option maxRecDepth 100000 in
theorem kX1_init (l : Launch) (X : XT) (qh : Nat)  : Cv l yX1_init wsX1_init (rmC 3 51 675) X [.ref qh] [obW qh 1 [.int (iI 0), .null]] (fun (u : (Nat) × (Nat → Nat) × (Nat → Nat → Nat)) => match u with | (qa, P, PQ) => True) (fun (u : (Nat) × (Nat → Nat) × (Nat → Nat → Nat)) => match u with | (qa, P, PQ) => [hiW qh qa ((0 : Nat) : Int), pfW X qa (fun i => some (P i)), plW X (P 0) (PQ 0) ((fun _ => (mkD 0 0 0 z0 z0 z0 z0 z0 z0 z0 z0 z0)) 0), plW X (P 1) (PQ 1) ((fun _ => (mkD 0 0 0 z0 z0 z0 z0 z0 z0 z0 z0 z0)) 1), plW X (P 2) (PQ 2) ((fun _ => (mkD 0 0 0 z0 z0 z0 z0 z0 z0 z0 z0 z0)) 2), plW X (P 3) (PQ 3) ((fun _ => (mkD 0 0 0 z0 z0 z0 z0 z0 z0 z0 z0 z0)) 3), plW X (P 4) (PQ 4) ((fun _ => (mkD 0 0 0 z0 z0 z0 z0 z0 z0 z0 z0 z0)) 4)]) := by
  refine Cv.ofW (cc := cX1_init) (maxL := 2) (by decide) rfl (Nat.le_of_ble_eq_true rfl) ?_
  intro p_ e_ s_ m_ below meth c_ A Q_ S hA hAM hH hS hmn hret ls hl
  have hl : lv_has ls 2 [(0, .ref (qh))] := hl
  refine lv_aload_n S.1 S.2.1 dX1_init_0 rfl (lv_at hl 0 rfl) ?_
  refine W.objInit S.1 S.2.1 S.2.2.2.1 (S.2.2.2.2 _ mX1_init_1) (S.2.2.2.2 _ mX1_init_2) (S.2.2.2.2 _ mX1_init_3) rfl (by rw [S.2.2.1]; exact hl.1) rfl dX1_init_1 (Nat.le_of_ble_eq_true rfl) (Nat.le_of_ble_eq_true rfl) ?_
  show W _ _ _ _ _ _ _ _ _ _ _ _ _ _ _ (F0 m_ 4 ls [])
  refine lv_aload_n S.1 S.2.1 dX1_init_4 rfl (lv_at hl 0 rfl) ?_
  refine lv_iconst (v := iI (((5 : Nat) : Int))) S.1 S.2.1 dX1_init_5 (by decide) ?_
  refine zv_newp (N := 5) S hAM hH hS hA mX1_init_4 (by decide) (Nat.le_of_ble_eq_true rfl) (Nat.le_of_ble_eq_true rfl) dX1_init_6 (fun q1 H hH hS => ?_)
  have hH : Hold X A [obW qh 1 [.int (iI 0), .null], pfW X q1 (fun _ => none)].flatten H := hH
  refine zv_putF (v := .ref (q1)) (w2 := [obW qh 1 [.int (iI 0), .ref (q1)], pfW X q1 (fun _ => none)].flatten) S hAM hH hS nX1_init_X1 tyX1 tyX1_ok nmX1 0 rfl rfl 1 (by decide) mX1_init_5 rfl rfl hmn rfl rfl rfl (Nat.le_of_ble_eq_true rfl) rfl dX1_init_9 (fun H locs hH hS => ?_)
  refine lv_iconst (v := iI (((0 : Nat) : Int))) S.1 S.2.1 dX1_init_12 (by decide) ?_
  refine lv_istore_n (lv' := [(1, .int (iI ((0 : Nat) : Int))), (0, .ref (qh))]) S.1 S.2.1 dX1_init_13 rfl hl (by decide) rfl (fun ls hl => ?_)
  refine lv_iload_n S.1 S.2.1 dX1_init_14 rfl (lv_at hl 0 rfl) ?_
  refine lv_iconst (v := iI (((5 : Nat) : Int))) S.1 S.2.1 dX1_init_15 (by decide) ?_
  refine zv_icmp_ge (tgt := 38) S dX1_init_16 (by decide) (by decide) (by decide) (fun c_16 => ?_) (fun c_16 => ?_)
  · exact (show False by omega).elim
  · skip
    refine lv_aload_n S.1 S.2.1 dX1_init_19 rfl (lv_at hl 1 rfl) ?_
    refine zv_get (v := .ref (q1)) S hAM hH nX1_init_X1 0 rfl rfl 1 (by decide) mX1_init_5 rfl rfl dX1_init_20 ?_
    refine lv_iload_n S.1 S.2.1 dX1_init_23 rfl (lv_at hl 0 rfl) ?_
    refine zv_new (ci := 2) (fs := [.int (iI 0), .int (iI 0), .int (iI 0), .null, .null, .null, .null, .null, .null, .null, .null, .null]) S hAM hH hS hA nX1_init_X2 tyX2 tyX2_ok mX1_init_4 mX1_init_6 mX1_init_7 rfl (by intro j hj; rcases (show j = 0 ∨ j = 1 ∨ j = 2 ∨ j = 3 ∨ j = 4 ∨ j = 5 ∨ j = 6 ∨ j = 7 ∨ j = 8 ∨ j = 9 ∨ j = 10 ∨ j = 11 by omega) with rfl | rfl | rfl | rfl | rfl | rfl | rfl | rfl | rfl | rfl | rfl | rfl <;> rfl) (Nat.le_of_ble_eq_true rfl) (Nat.le_of_ble_eq_true rfl) dX1_init_24 (fun q2 H hH hS => ?_)
    have hH : Hold X A [obW qh 1 [.int (iI 0), .ref (q1)], pfW X q1 (fun _ => none), obW q2 2 [.int (iI 0), .int (iI 0), .int (iI 0), .null, .null, .null, .null, .null, .null, .null, .null, .null]].flatten H := hH
    refine lv_dup S.1 S.2.1 dX1_init_27 rfl ?_
    refine zc_INv (n := 0) (As := []) (rest := [.ref (q2), .int (iI ((0 : Nat) : Int)), .ref (q1)]) S hAM hA (kX2_init l X q2 ) rfl ggX1_init_X2_init hAM.2.1.2.2.2.1 mX1_init_7 mX1_init_8 rfl (by decide +kernel) ⟨Nat.le_of_ble_eq_true rfl, Nat.le_of_ble_eq_true rfl⟩ hH hS [2, 0, 1] rfl 3 rfl (by decide)  rfl hl.1 rfl (Nat.le_of_ble_eq_true rfl) dX1_init_28 ⟨Nat.le_of_ble_eq_true rfl, Nat.le_of_ble_eq_true rfl⟩ (fun Qp_3 H locs hp5 hH hS => ?_)
    have hH : Hold X A [poW q2 Qp_3 0 0 0, aW X (Qp_3 0) 10 z0, aW X (Qp_3 1) 8 z0, aW X (Qp_3 2) 8 z0, aW X (Qp_3 3) 8 z0, aW X (Qp_3 4) 8 z0, aW X (Qp_3 5) 20 z0, aW X (Qp_3 6) 20 z0, aW X (Qp_3 7) 20 z0, aW X (Qp_3 8) 20 z0, obW qh 1 [.int (iI 0), .ref (q1)], pfW X q1 (fun _ => none)].flatten H := hH
    refine zv_aast2 (w2 := [poW q2 Qp_3 0 0 0, aW X (Qp_3 0) 10 z0, aW X (Qp_3 1) 8 z0, aW X (Qp_3 2) 8 z0, aW X (Qp_3 3) 8 z0, aW X (Qp_3 4) 8 z0, aW X (Qp_3 5) 20 z0, aW X (Qp_3 6) 20 z0, aW X (Qp_3 7) 20 z0, aW X (Qp_3 8) 20 z0, obW qh 1 [.int (iI 0), .ref (q1)], pfW X q1 (va_up (fun _ => none) 0 (some (q2)))].flatten) S hAM hH hS 11 rfl (qk := 0) rfl (0) rfl (by decide) (by decide) rfl dX1_init_31 (fun H locs hH hS => ?_)
    refine zv_iinc (z := ((1 : Nat) : Int)) (lv' := [(1, .int (iI ((1 : Nat) : Int))), (0, .ref (qh))]) S dX1_init_32 hl (k := 0) rfl (by decide) (by decide) rfl (fun ls hl => ?_)
    refine lv_goto (tgt := 14) S.1 S.2.1 dX1_init_35 (by decide) ?_
    refine lv_iload_n S.1 S.2.1 dX1_init_14 rfl (lv_at hl 0 rfl) ?_
    refine lv_iconst (v := iI (((5 : Nat) : Int))) S.1 S.2.1 dX1_init_15 (by decide) ?_
    refine zv_icmp_ge (tgt := 38) S dX1_init_16 (by decide) (by decide) (by decide) (fun c_16 => ?_) (fun c_16 => ?_)
    · exact (show False by omega).elim
    · skip
      refine lv_aload_n S.1 S.2.1 dX1_init_19 rfl (lv_at hl 1 rfl) ?_
      refine zv_get (v := .ref (q1)) S hAM hH nX1_init_X1 10 rfl rfl 1 (by decide) mX1_init_5 rfl rfl dX1_init_20 ?_
      refine lv_iload_n S.1 S.2.1 dX1_init_23 rfl (lv_at hl 0 rfl) ?_
      refine zv_new (ci := 2) (fs := [.int (iI 0), .int (iI 0), .int (iI 0), .null, .null, .null, .null, .null, .null, .null, .null, .null]) S hAM hH hS hA nX1_init_X2 tyX2 tyX2_ok mX1_init_4 mX1_init_6 mX1_init_7 rfl (by intro j hj; rcases (show j = 0 ∨ j = 1 ∨ j = 2 ∨ j = 3 ∨ j = 4 ∨ j = 5 ∨ j = 6 ∨ j = 7 ∨ j = 8 ∨ j = 9 ∨ j = 10 ∨ j = 11 by omega) with rfl | rfl | rfl | rfl | rfl | rfl | rfl | rfl | rfl | rfl | rfl | rfl <;> rfl) (Nat.le_of_ble_eq_true rfl) (Nat.le_of_ble_eq_true rfl) dX1_init_24 (fun q6 H hH hS => ?_)
      have hH : Hold X A [poW q2 Qp_3 0 0 0, aW X (Qp_3 0) 10 z0, aW X (Qp_3 1) 8 z0, aW X (Qp_3 2) 8 z0, aW X (Qp_3 3) 8 z0, aW X (Qp_3 4) 8 z0, aW X (Qp_3 5) 20 z0, aW X (Qp_3 6) 20 z0, aW X (Qp_3 7) 20 z0, aW X (Qp_3 8) 20 z0, obW qh 1 [.int (iI 0), .ref (q1)], pfW X q1 (va_up (fun _ => none) 0 (some (q2))), obW q6 2 [.int (iI 0), .int (iI 0), .int (iI 0), .null, .null, .null, .null, .null, .null, .null, .null, .null]].flatten H := hH
      refine lv_dup S.1 S.2.1 dX1_init_27 rfl ?_
      refine zc_INv (n := 0) (As := []) (rest := [.ref (q6), .int (iI ((1 : Nat) : Int)), .ref (q1)]) S hAM hA (kX2_init l X q6 ) rfl ggX1_init_X2_init hAM.2.1.2.2.2.1 mX1_init_7 mX1_init_8 rfl (by decide +kernel) ⟨Nat.le_of_ble_eq_true rfl, Nat.le_of_ble_eq_true rfl⟩ hH hS [12, 0, 1, 2, 3, 4, 5, 6, 7, 8, 9, 10, 11] rfl 13 rfl (by decide)  rfl hl.1 rfl (Nat.le_of_ble_eq_true rfl) dX1_init_28 ⟨Nat.le_of_ble_eq_true rfl, Nat.le_of_ble_eq_true rfl⟩ (fun Qp_7 H locs hp9 hH hS => ?_)
      have hH : Hold X A [poW q6 Qp_7 0 0 0, aW X (Qp_7 0) 10 z0, aW X (Qp_7 1) 8 z0, aW X (Qp_7 2) 8 z0, aW X (Qp_7 3) 8 z0, aW X (Qp_7 4) 8 z0, aW X (Qp_7 5) 20 z0, aW X (Qp_7 6) 20 z0, aW X (Qp_7 7) 20 z0, aW X (Qp_7 8) 20 z0, poW q2 Qp_3 0 0 0, aW X (Qp_3 0) 10 z0, aW X (Qp_3 1) 8 z0, aW X (Qp_3 2) 8 z0, aW X (Qp_3 3) 8 z0, aW X (Qp_3 4) 8 z0, aW X (Qp_3 5) 20 z0, aW X (Qp_3 6) 20 z0, aW X (Qp_3 7) 20 z0, aW X (Qp_3 8) 20 z0, obW qh 1 [.int (iI 0), .ref (q1)], pfW X q1 (va_up (fun _ => none) 0 (some (q2)))].flatten H := hH
      refine zv_aast2 (w2 := [poW q6 Qp_7 0 0 0, aW X (Qp_7 0) 10 z0, aW X (Qp_7 1) 8 z0, aW X (Qp_7 2) 8 z0, aW X (Qp_7 3) 8 z0, aW X (Qp_7 4) 8 z0, aW X (Qp_7 5) 20 z0, aW X (Qp_7 6) 20 z0, aW X (Qp_7 7) 20 z0, aW X (Qp_7 8) 20 z0, poW q2 Qp_3 0 0 0, aW X (Qp_3 0) 10 z0, aW X (Qp_3 1) 8 z0, aW X (Qp_3 2) 8 z0, aW X (Qp_3 3) 8 z0, aW X (Qp_3 4) 8 z0, aW X (Qp_3 5) 20 z0, aW X (Qp_3 6) 20 z0, aW X (Qp_3 7) 20 z0, aW X (Qp_3 8) 20 z0, obW qh 1 [.int (iI 0), .ref (q1)], pfW X q1 (va_up (va_up (fun _ => none) 0 (some (q2))) 1 (some (q6)))].flatten) S hAM hH hS 21 rfl (qk := 0) rfl (1) rfl (by decide) (by decide) rfl dX1_init_31 (fun H locs hH hS => ?_)
      refine zv_iinc (z := ((2 : Nat) : Int)) (lv' := [(1, .int (iI ((2 : Nat) : Int))), (0, .ref (qh))]) S dX1_init_32 hl (k := 0) rfl (by decide) (by decide) rfl (fun ls hl => ?_)
      refine lv_goto (tgt := 14) S.1 S.2.1 dX1_init_35 (by decide) ?_
      refine lv_iload_n S.1 S.2.1 dX1_init_14 rfl (lv_at hl 0 rfl) ?_
      refine lv_iconst (v := iI (((5 : Nat) : Int))) S.1 S.2.1 dX1_init_15 (by decide) ?_
      refine zv_icmp_ge (tgt := 38) S dX1_init_16 (by decide) (by decide) (by decide) (fun c_16 => ?_) (fun c_16 => ?_)
      · exact (show False by omega).elim
      · skip
        refine lv_aload_n S.1 S.2.1 dX1_init_19 rfl (lv_at hl 1 rfl) ?_
        refine zv_get (v := .ref (q1)) S hAM hH nX1_init_X1 20 rfl rfl 1 (by decide) mX1_init_5 rfl rfl dX1_init_20 ?_
        refine lv_iload_n S.1 S.2.1 dX1_init_23 rfl (lv_at hl 0 rfl) ?_
        refine zv_new (ci := 2) (fs := [.int (iI 0), .int (iI 0), .int (iI 0), .null, .null, .null, .null, .null, .null, .null, .null, .null]) S hAM hH hS hA nX1_init_X2 tyX2 tyX2_ok mX1_init_4 mX1_init_6 mX1_init_7 rfl (by intro j hj; rcases (show j = 0 ∨ j = 1 ∨ j = 2 ∨ j = 3 ∨ j = 4 ∨ j = 5 ∨ j = 6 ∨ j = 7 ∨ j = 8 ∨ j = 9 ∨ j = 10 ∨ j = 11 by omega) with rfl | rfl | rfl | rfl | rfl | rfl | rfl | rfl | rfl | rfl | rfl | rfl <;> rfl) (Nat.le_of_ble_eq_true rfl) (Nat.le_of_ble_eq_true rfl) dX1_init_24 (fun q10 H hH hS => ?_)
        have hH : Hold X A [poW q6 Qp_7 0 0 0, aW X (Qp_7 0) 10 z0, aW X (Qp_7 1) 8 z0, aW X (Qp_7 2) 8 z0, aW X (Qp_7 3) 8 z0, aW X (Qp_7 4) 8 z0, aW X (Qp_7 5) 20 z0, aW X (Qp_7 6) 20 z0, aW X (Qp_7 7) 20 z0, aW X (Qp_7 8) 20 z0, poW q2 Qp_3 0 0 0, aW X (Qp_3 0) 10 z0, aW X (Qp_3 1) 8 z0, aW X (Qp_3 2) 8 z0, aW X (Qp_3 3) 8 z0, aW X (Qp_3 4) 8 z0, aW X (Qp_3 5) 20 z0, aW X (Qp_3 6) 20 z0, aW X (Qp_3 7) 20 z0, aW X (Qp_3 8) 20 z0, obW qh 1 [.int (iI 0), .ref (q1)], pfW X q1 (va_up (va_up (fun _ => none) 0 (some (q2))) 1 (some (q6))), obW q10 2 [.int (iI 0), .int (iI 0), .int (iI 0), .null, .null, .null, .null, .null, .null, .null, .null, .null]].flatten H := hH
        refine lv_dup S.1 S.2.1 dX1_init_27 rfl ?_
        refine zc_INv (n := 0) (As := []) (rest := [.ref (q10), .int (iI ((2 : Nat) : Int)), .ref (q1)]) S hAM hA (kX2_init l X q10 ) rfl ggX1_init_X2_init hAM.2.1.2.2.2.1 mX1_init_7 mX1_init_8 rfl (by decide +kernel) ⟨Nat.le_of_ble_eq_true rfl, Nat.le_of_ble_eq_true rfl⟩ hH hS [22, 0, 1, 2, 3, 4, 5, 6, 7, 8, 9, 10, 11, 12, 13, 14, 15, 16, 17, 18, 19, 20, 21] rfl 23 rfl (by decide)  rfl hl.1 rfl (Nat.le_of_ble_eq_true rfl) dX1_init_28 ⟨Nat.le_of_ble_eq_true rfl, Nat.le_of_ble_eq_true rfl⟩ (fun Qp_11 H locs hp13 hH hS => ?_)
        have hH : Hold X A [poW q10 Qp_11 0 0 0, aW X (Qp_11 0) 10 z0, aW X (Qp_11 1) 8 z0, aW X (Qp_11 2) 8 z0, aW X (Qp_11 3) 8 z0, aW X (Qp_11 4) 8 z0, aW X (Qp_11 5) 20 z0, aW X (Qp_11 6) 20 z0, aW X (Qp_11 7) 20 z0, aW X (Qp_11 8) 20 z0, poW q6 Qp_7 0 0 0, aW X (Qp_7 0) 10 z0, aW X (Qp_7 1) 8 z0, aW X (Qp_7 2) 8 z0, aW X (Qp_7 3) 8 z0, aW X (Qp_7 4) 8 z0, aW X (Qp_7 5) 20 z0, aW X (Qp_7 6) 20 z0, aW X (Qp_7 7) 20 z0, aW X (Qp_7 8) 20 z0, poW q2 Qp_3 0 0 0, aW X (Qp_3 0) 10 z0, aW X (Qp_3 1) 8 z0, aW X (Qp_3 2) 8 z0, aW X (Qp_3 3) 8 z0, aW X (Qp_3 4) 8 z0, aW X (Qp_3 5) 20 z0, aW X (Qp_3 6) 20 z0, aW X (Qp_3 7) 20 z0, aW X (Qp_3 8) 20 z0, obW qh 1 [.int (iI 0), .ref (q1)], pfW X q1 (va_up (va_up (fun _ => none) 0 (some (q2))) 1 (some (q6)))].flatten H := hH
        refine zv_aast2 (w2 := [poW q10 Qp_11 0 0 0, aW X (Qp_11 0) 10 z0, aW X (Qp_11 1) 8 z0, aW X (Qp_11 2) 8 z0, aW X (Qp_11 3) 8 z0, aW X (Qp_11 4) 8 z0, aW X (Qp_11 5) 20 z0, aW X (Qp_11 6) 20 z0, aW X (Qp_11 7) 20 z0, aW X (Qp_11 8) 20 z0, poW q6 Qp_7 0 0 0, aW X (Qp_7 0) 10 z0, aW X (Qp_7 1) 8 z0, aW X (Qp_7 2) 8 z0, aW X (Qp_7 3) 8 z0, aW X (Qp_7 4) 8 z0, aW X (Qp_7 5) 20 z0, aW X (Qp_7 6) 20 z0, aW X (Qp_7 7) 20 z0, aW X (Qp_7 8) 20 z0, poW q2 Qp_3 0 0 0, aW X (Qp_3 0) 10 z0, aW X (Qp_3 1) 8 z0, aW X (Qp_3 2) 8 z0, aW X (Qp_3 3) 8 z0, aW X (Qp_3 4) 8 z0, aW X (Qp_3 5) 20 z0, aW X (Qp_3 6) 20 z0, aW X (Qp_3 7) 20 z0, aW X (Qp_3 8) 20 z0, obW qh 1 [.int (iI 0), .ref (q1)], pfW X q1 (va_up (va_up (va_up (fun _ => none) 0 (some (q2))) 1 (some (q6))) 2 (some (q10)))].flatten) S hAM hH hS 31 rfl (qk := 0) rfl (2) rfl (by decide) (by decide) rfl dX1_init_31 (fun H locs hH hS => ?_)
        refine zv_iinc (z := ((3 : Nat) : Int)) (lv' := [(1, .int (iI ((3 : Nat) : Int))), (0, .ref (qh))]) S dX1_init_32 hl (k := 0) rfl (by decide) (by decide) rfl (fun ls hl => ?_)
        refine lv_goto (tgt := 14) S.1 S.2.1 dX1_init_35 (by decide) ?_
        refine lv_iload_n S.1 S.2.1 dX1_init_14 rfl (lv_at hl 0 rfl) ?_
        refine lv_iconst (v := iI (((5 : Nat) : Int))) S.1 S.2.1 dX1_init_15 (by decide) ?_
        refine zv_icmp_ge (tgt := 38) S dX1_init_16 (by decide) (by decide) (by decide) (fun c_16 => ?_) (fun c_16 => ?_)
        · exact (show False by omega).elim
        · skip
          refine lv_aload_n S.1 S.2.1 dX1_init_19 rfl (lv_at hl 1 rfl) ?_
          refine zv_get (v := .ref (q1)) S hAM hH nX1_init_X1 30 rfl rfl 1 (by decide) mX1_init_5 rfl rfl dX1_init_20 ?_
          refine lv_iload_n S.1 S.2.1 dX1_init_23 rfl (lv_at hl 0 rfl) ?_
          refine zv_new (ci := 2) (fs := [.int (iI 0), .int (iI 0), .int (iI 0), .null, .null, .null, .null, .null, .null, .null, .null, .null]) S hAM hH hS hA nX1_init_X2 tyX2 tyX2_ok mX1_init_4 mX1_init_6 mX1_init_7 rfl (by intro j hj; rcases (show j = 0 ∨ j = 1 ∨ j = 2 ∨ j = 3 ∨ j = 4 ∨ j = 5 ∨ j = 6 ∨ j = 7 ∨ j = 8 ∨ j = 9 ∨ j = 10 ∨ j = 11 by omega) with rfl | rfl | rfl | rfl | rfl | rfl | rfl | rfl | rfl | rfl | rfl | rfl <;> rfl) (Nat.le_of_ble_eq_true rfl) (Nat.le_of_ble_eq_true rfl) dX1_init_24 (fun q14 H hH hS => ?_)
          have hH : Hold X A [poW q10 Qp_11 0 0 0, aW X (Qp_11 0) 10 z0, aW X (Qp_11 1) 8 z0, aW X (Qp_11 2) 8 z0, aW X (Qp_11 3) 8 z0, aW X (Qp_11 4) 8 z0, aW X (Qp_11 5) 20 z0, aW X (Qp_11 6) 20 z0, aW X (Qp_11 7) 20 z0, aW X (Qp_11 8) 20 z0, poW q6 Qp_7 0 0 0, aW X (Qp_7 0) 10 z0, aW X (Qp_7 1) 8 z0, aW X (Qp_7 2) 8 z0, aW X (Qp_7 3) 8 z0, aW X (Qp_7 4) 8 z0, aW X (Qp_7 5) 20 z0, aW X (Qp_7 6) 20 z0, aW X (Qp_7 7) 20 z0, aW X (Qp_7 8) 20 z0, poW q2 Qp_3 0 0 0, aW X (Qp_3 0) 10 z0, aW X (Qp_3 1) 8 z0, aW X (Qp_3 2) 8 z0, aW X (Qp_3 3) 8 z0, aW X (Qp_3 4) 8 z0, aW X (Qp_3 5) 20 z0, aW X (Qp_3 6) 20 z0, aW X (Qp_3 7) 20 z0, aW X (Qp_3 8) 20 z0, obW qh 1 [.int (iI 0), .ref (q1)], pfW X q1 (va_up (va_up (va_up (fun _ => none) 0 (some (q2))) 1 (some (q6))) 2 (some (q10))), obW q14 2 [.int (iI 0), .int (iI 0), .int (iI 0), .null, .null, .null, .null, .null, .null, .null, .null, .null]].flatten H := hH
          refine lv_dup S.1 S.2.1 dX1_init_27 rfl ?_
          refine zc_INv (n := 0) (As := []) (rest := [.ref (q14), .int (iI ((3 : Nat) : Int)), .ref (q1)]) S hAM hA (kX2_init l X q14 ) rfl ggX1_init_X2_init hAM.2.1.2.2.2.1 mX1_init_7 mX1_init_8 rfl (by decide +kernel) ⟨Nat.le_of_ble_eq_true rfl, Nat.le_of_ble_eq_true rfl⟩ hH hS [32, 0, 1, 2, 3, 4, 5, 6, 7, 8, 9, 10, 11, 12, 13, 14, 15, 16, 17, 18, 19, 20, 21, 22, 23, 24, 25, 26, 27, 28, 29, 30, 31] rfl 33 rfl (by decide)  rfl hl.1 rfl (Nat.le_of_ble_eq_true rfl) dX1_init_28 ⟨Nat.le_of_ble_eq_true rfl, Nat.le_of_ble_eq_true rfl⟩ (fun Qp_15 H locs hp17 hH hS => ?_)
          have hH : Hold X A [poW q14 Qp_15 0 0 0, aW X (Qp_15 0) 10 z0, aW X (Qp_15 1) 8 z0, aW X (Qp_15 2) 8 z0, aW X (Qp_15 3) 8 z0, aW X (Qp_15 4) 8 z0, aW X (Qp_15 5) 20 z0, aW X (Qp_15 6) 20 z0, aW X (Qp_15 7) 20 z0, aW X (Qp_15 8) 20 z0, poW q10 Qp_11 0 0 0, aW X (Qp_11 0) 10 z0, aW X (Qp_11 1) 8 z0, aW X (Qp_11 2) 8 z0, aW X (Qp_11 3) 8 z0, aW X (Qp_11 4) 8 z0, aW X (Qp_11 5) 20 z0, aW X (Qp_11 6) 20 z0, aW X (Qp_11 7) 20 z0, aW X (Qp_11 8) 20 z0, poW q6 Qp_7 0 0 0, aW X (Qp_7 0) 10 z0, aW X (Qp_7 1) 8 z0, aW X (Qp_7 2) 8 z0, aW X (Qp_7 3) 8 z0, aW X (Qp_7 4) 8 z0, aW X (Qp_7 5) 20 z0, aW X (Qp_7 6) 20 z0, aW X (Qp_7 7) 20 z0, aW X (Qp_7 8) 20 z0, poW q2 Qp_3 0 0 0, aW X (Qp_3 0) 10 z0, aW X (Qp_3 1) 8 z0, aW X (Qp_3 2) 8 z0, aW X (Qp_3 3) 8 z0, aW X (Qp_3 4) 8 z0, aW X (Qp_3 5) 20 z0, aW X (Qp_3 6) 20 z0, aW X (Qp_3 7) 20 z0, aW X (Qp_3 8) 20 z0, obW qh 1 [.int (iI 0), .ref (q1)], pfW X q1 (va_up (va_up (va_up (fun _ => none) 0 (some (q2))) 1 (some (q6))) 2 (some (q10)))].flatten H := hH
          refine zv_aast2 (w2 := [poW q14 Qp_15 0 0 0, aW X (Qp_15 0) 10 z0, aW X (Qp_15 1) 8 z0, aW X (Qp_15 2) 8 z0, aW X (Qp_15 3) 8 z0, aW X (Qp_15 4) 8 z0, aW X (Qp_15 5) 20 z0, aW X (Qp_15 6) 20 z0, aW X (Qp_15 7) 20 z0, aW X (Qp_15 8) 20 z0, poW q10 Qp_11 0 0 0, aW X (Qp_11 0) 10 z0, aW X (Qp_11 1) 8 z0, aW X (Qp_11 2) 8 z0, aW X (Qp_11 3) 8 z0, aW X (Qp_11 4) 8 z0, aW X (Qp_11 5) 20 z0, aW X (Qp_11 6) 20 z0, aW X (Qp_11 7) 20 z0, aW X (Qp_11 8) 20 z0, poW q6 Qp_7 0 0 0, aW X (Qp_7 0) 10 z0, aW X (Qp_7 1) 8 z0, aW X (Qp_7 2) 8 z0, aW X (Qp_7 3) 8 z0, aW X (Qp_7 4) 8 z0, aW X (Qp_7 5) 20 z0, aW X (Qp_7 6) 20 z0, aW X (Qp_7 7) 20 z0, aW X (Qp_7 8) 20 z0, poW q2 Qp_3 0 0 0, aW X (Qp_3 0) 10 z0, aW X (Qp_3 1) 8 z0, aW X (Qp_3 2) 8 z0, aW X (Qp_3 3) 8 z0, aW X (Qp_3 4) 8 z0, aW X (Qp_3 5) 20 z0, aW X (Qp_3 6) 20 z0, aW X (Qp_3 7) 20 z0, aW X (Qp_3 8) 20 z0, obW qh 1 [.int (iI 0), .ref (q1)], pfW X q1 (va_up (va_up (va_up (va_up (fun _ => none) 0 (some (q2))) 1 (some (q6))) 2 (some (q10))) 3 (some (q14)))].flatten) S hAM hH hS 41 rfl (qk := 0) rfl (3) rfl (by decide) (by decide) rfl dX1_init_31 (fun H locs hH hS => ?_)
          refine zv_iinc (z := ((4 : Nat) : Int)) (lv' := [(1, .int (iI ((4 : Nat) : Int))), (0, .ref (qh))]) S dX1_init_32 hl (k := 0) rfl (by decide) (by decide) rfl (fun ls hl => ?_)
          refine lv_goto (tgt := 14) S.1 S.2.1 dX1_init_35 (by decide) ?_
          refine lv_iload_n S.1 S.2.1 dX1_init_14 rfl (lv_at hl 0 rfl) ?_
          refine lv_iconst (v := iI (((5 : Nat) : Int))) S.1 S.2.1 dX1_init_15 (by decide) ?_
          refine zv_icmp_ge (tgt := 38) S dX1_init_16 (by decide) (by decide) (by decide) (fun c_16 => ?_) (fun c_16 => ?_)
          · exact (show False by omega).elim
          · skip
            refine lv_aload_n S.1 S.2.1 dX1_init_19 rfl (lv_at hl 1 rfl) ?_
            refine zv_get (v := .ref (q1)) S hAM hH nX1_init_X1 40 rfl rfl 1 (by decide) mX1_init_5 rfl rfl dX1_init_20 ?_
            refine lv_iload_n S.1 S.2.1 dX1_init_23 rfl (lv_at hl 0 rfl) ?_
            refine zv_new (ci := 2) (fs := [.int (iI 0), .int (iI 0), .int (iI 0), .null, .null, .null, .null, .null, .null, .null, .null, .null]) S hAM hH hS hA nX1_init_X2 tyX2 tyX2_ok mX1_init_4 mX1_init_6 mX1_init_7 rfl (by intro j hj; rcases (show j = 0 ∨ j = 1 ∨ j = 2 ∨ j = 3 ∨ j = 4 ∨ j = 5 ∨ j = 6 ∨ j = 7 ∨ j = 8 ∨ j = 9 ∨ j = 10 ∨ j = 11 by omega) with rfl | rfl | rfl | rfl | rfl | rfl | rfl | rfl | rfl | rfl | rfl | rfl <;> rfl) (Nat.le_of_ble_eq_true rfl) (Nat.le_of_ble_eq_true rfl) dX1_init_24 (fun q18 H hH hS => ?_)
            have hH : Hold X A [poW q14 Qp_15 0 0 0, aW X (Qp_15 0) 10 z0, aW X (Qp_15 1) 8 z0, aW X (Qp_15 2) 8 z0, aW X (Qp_15 3) 8 z0, aW X (Qp_15 4) 8 z0, aW X (Qp_15 5) 20 z0, aW X (Qp_15 6) 20 z0, aW X (Qp_15 7) 20 z0, aW X (Qp_15 8) 20 z0, poW q10 Qp_11 0 0 0, aW X (Qp_11 0) 10 z0, aW X (Qp_11 1) 8 z0, aW X (Qp_11 2) 8 z0, aW X (Qp_11 3) 8 z0, aW X (Qp_11 4) 8 z0, aW X (Qp_11 5) 20 z0, aW X (Qp_11 6) 20 z0, aW X (Qp_11 7) 20 z0, aW X (Qp_11 8) 20 z0, poW q6 Qp_7 0 0 0, aW X (Qp_7 0) 10 z0, aW X (Qp_7 1) 8 z0, aW X (Qp_7 2) 8 z0, aW X (Qp_7 3) 8 z0, aW X (Qp_7 4) 8 z0, aW X (Qp_7 5) 20 z0, aW X (Qp_7 6) 20 z0, aW X (Qp_7 7) 20 z0, aW X (Qp_7 8) 20 z0, poW q2 Qp_3 0 0 0, aW X (Qp_3 0) 10 z0, aW X (Qp_3 1) 8 z0, aW X (Qp_3 2) 8 z0, aW X (Qp_3 3) 8 z0, aW X (Qp_3 4) 8 z0, aW X (Qp_3 5) 20 z0, aW X (Qp_3 6) 20 z0, aW X (Qp_3 7) 20 z0, aW X (Qp_3 8) 20 z0, obW qh 1 [.int (iI 0), .ref (q1)], pfW X q1 (va_up (va_up (va_up (va_up (fun _ => none) 0 (some (q2))) 1 (some (q6))) 2 (some (q10))) 3 (some (q14))), obW q18 2 [.int (iI 0), .int (iI 0), .int (iI 0), .null, .null, .null, .null, .null, .null, .null, .null, .null]].flatten H := hH
            refine lv_dup S.1 S.2.1 dX1_init_27 rfl ?_
            refine zc_INv (n := 0) (As := []) (rest := [.ref (q18), .int (iI ((4 : Nat) : Int)), .ref (q1)]) S hAM hA (kX2_init l X q18 ) rfl ggX1_init_X2_init hAM.2.1.2.2.2.1 mX1_init_7 mX1_init_8 rfl (by decide +kernel) ⟨Nat.le_of_ble_eq_true rfl, Nat.le_of_ble_eq_true rfl⟩ hH hS [42, 0, 1, 2, 3, 4, 5, 6, 7, 8, 9, 10, 11, 12, 13, 14, 15, 16, 17, 18, 19, 20, 21, 22, 23, 24, 25, 26, 27, 28, 29, 30, 31, 32, 33, 34, 35, 36, 37, 38, 39, 40, 41] rfl 43 rfl (by decide)  rfl hl.1 rfl (Nat.le_of_ble_eq_true rfl) dX1_init_28 ⟨Nat.le_of_ble_eq_true rfl, Nat.le_of_ble_eq_true rfl⟩ (fun Qp_19 H locs hp21 hH hS => ?_)
            have hH : Hold X A [poW q18 Qp_19 0 0 0, aW X (Qp_19 0) 10 z0, aW X (Qp_19 1) 8 z0, aW X (Qp_19 2) 8 z0, aW X (Qp_19 3) 8 z0, aW X (Qp_19 4) 8 z0, aW X (Qp_19 5) 20 z0, aW X (Qp_19 6) 20 z0, aW X (Qp_19 7) 20 z0, aW X (Qp_19 8) 20 z0, poW q14 Qp_15 0 0 0, aW X (Qp_15 0) 10 z0, aW X (Qp_15 1) 8 z0, aW X (Qp_15 2) 8 z0, aW X (Qp_15 3) 8 z0, aW X (Qp_15 4) 8 z0, aW X (Qp_15 5) 20 z0, aW X (Qp_15 6) 20 z0, aW X (Qp_15 7) 20 z0, aW X (Qp_15 8) 20 z0, poW q10 Qp_11 0 0 0, aW X (Qp_11 0) 10 z0, aW X (Qp_11 1) 8 z0, aW X (Qp_11 2) 8 z0, aW X (Qp_11 3) 8 z0, aW X (Qp_11 4) 8 z0, aW X (Qp_11 5) 20 z0, aW X (Qp_11 6) 20 z0, aW X (Qp_11 7) 20 z0, aW X (Qp_11 8) 20 z0, poW q6 Qp_7 0 0 0, aW X (Qp_7 0) 10 z0, aW X (Qp_7 1) 8 z0, aW X (Qp_7 2) 8 z0, aW X (Qp_7 3) 8 z0, aW X (Qp_7 4) 8 z0, aW X (Qp_7 5) 20 z0, aW X (Qp_7 6) 20 z0, aW X (Qp_7 7) 20 z0, aW X (Qp_7 8) 20 z0, poW q2 Qp_3 0 0 0, aW X (Qp_3 0) 10 z0, aW X (Qp_3 1) 8 z0, aW X (Qp_3 2) 8 z0, aW X (Qp_3 3) 8 z0, aW X (Qp_3 4) 8 z0, aW X (Qp_3 5) 20 z0, aW X (Qp_3 6) 20 z0, aW X (Qp_3 7) 20 z0, aW X (Qp_3 8) 20 z0, obW qh 1 [.int (iI 0), .ref (q1)], pfW X q1 (va_up (va_up (va_up (va_up (fun _ => none) 0 (some (q2))) 1 (some (q6))) 2 (some (q10))) 3 (some (q14)))].flatten H := hH
            refine zv_aast2 (w2 := [poW q18 Qp_19 0 0 0, aW X (Qp_19 0) 10 z0, aW X (Qp_19 1) 8 z0, aW X (Qp_19 2) 8 z0, aW X (Qp_19 3) 8 z0, aW X (Qp_19 4) 8 z0, aW X (Qp_19 5) 20 z0, aW X (Qp_19 6) 20 z0, aW X (Qp_19 7) 20 z0, aW X (Qp_19 8) 20 z0, poW q14 Qp_15 0 0 0, aW X (Qp_15 0) 10 z0, aW X (Qp_15 1) 8 z0, aW X (Qp_15 2) 8 z0, aW X (Qp_15 3) 8 z0, aW X (Qp_15 4) 8 z0, aW X (Qp_15 5) 20 z0, aW X (Qp_15 6) 20 z0, aW X (Qp_15 7) 20 z0, aW X (Qp_15 8) 20 z0, poW q10 Qp_11 0 0 0, aW X (Qp_11 0) 10 z0, aW X (Qp_11 1) 8 z0, aW X (Qp_11 2) 8 z0, aW X (Qp_11 3) 8 z0, aW X (Qp_11 4) 8 z0, aW X (Qp_11 5) 20 z0, aW X (Qp_11 6) 20 z0, aW X (Qp_11 7) 20 z0, aW X (Qp_11 8) 20 z0, poW q6 Qp_7 0 0 0, aW X (Qp_7 0) 10 z0, aW X (Qp_7 1) 8 z0, aW X (Qp_7 2) 8 z0, aW X (Qp_7 3) 8 z0, aW X (Qp_7 4) 8 z0, aW X (Qp_7 5) 20 z0, aW X (Qp_7 6) 20 z0, aW X (Qp_7 7) 20 z0, aW X (Qp_7 8) 20 z0, poW q2 Qp_3 0 0 0, aW X (Qp_3 0) 10 z0, aW X (Qp_3 1) 8 z0, aW X (Qp_3 2) 8 z0, aW X (Qp_3 3) 8 z0, aW X (Qp_3 4) 8 z0, aW X (Qp_3 5) 20 z0, aW X (Qp_3 6) 20 z0, aW X (Qp_3 7) 20 z0, aW X (Qp_3 8) 20 z0, obW qh 1 [.int (iI 0), .ref (q1)], pfW X q1 (va_up (va_up (va_up (va_up (va_up (fun _ => none) 0 (some (q2))) 1 (some (q6))) 2 (some (q10))) 3 (some (q14))) 4 (some (q18)))].flatten) S hAM hH hS 51 rfl (qk := 0) rfl (4) rfl (by decide) (by decide) rfl dX1_init_31 (fun H locs hH hS => ?_)
            refine zv_iinc (z := ((5 : Nat) : Int)) (lv' := [(1, .int (iI ((5 : Nat) : Int))), (0, .ref (qh))]) S dX1_init_32 hl (k := 0) rfl (by decide) (by decide) rfl (fun ls hl => ?_)
            refine lv_goto (tgt := 14) S.1 S.2.1 dX1_init_35 (by decide) ?_
            refine lv_iload_n S.1 S.2.1 dX1_init_14 rfl (lv_at hl 0 rfl) ?_
            refine lv_iconst (v := iI (((5 : Nat) : Int))) S.1 S.2.1 dX1_init_15 (by decide) ?_
            refine zv_icmp_ge (tgt := 38) S dX1_init_16 (by decide) (by decide) (by decide) (fun c_16 => ?_) (fun c_16 => ?_)
            · skip
              have hH : Hold X A [poW q18 Qp_19 0 0 0, aW X (Qp_19 0) 10 z0, aW X (Qp_19 1) 8 z0, aW X (Qp_19 2) 8 z0, aW X (Qp_19 3) 8 z0, aW X (Qp_19 4) 8 z0, aW X (Qp_19 5) 20 z0, aW X (Qp_19 6) 20 z0, aW X (Qp_19 7) 20 z0, aW X (Qp_19 8) 20 z0, poW q14 Qp_15 0 0 0, aW X (Qp_15 0) 10 z0, aW X (Qp_15 1) 8 z0, aW X (Qp_15 2) 8 z0, aW X (Qp_15 3) 8 z0, aW X (Qp_15 4) 8 z0, aW X (Qp_15 5) 20 z0, aW X (Qp_15 6) 20 z0, aW X (Qp_15 7) 20 z0, aW X (Qp_15 8) 20 z0, poW q10 Qp_11 0 0 0, aW X (Qp_11 0) 10 z0, aW X (Qp_11 1) 8 z0, aW X (Qp_11 2) 8 z0, aW X (Qp_11 3) 8 z0, aW X (Qp_11 4) 8 z0, aW X (Qp_11 5) 20 z0, aW X (Qp_11 6) 20 z0, aW X (Qp_11 7) 20 z0, aW X (Qp_11 8) 20 z0, poW q6 Qp_7 0 0 0, aW X (Qp_7 0) 10 z0, aW X (Qp_7 1) 8 z0, aW X (Qp_7 2) 8 z0, aW X (Qp_7 3) 8 z0, aW X (Qp_7 4) 8 z0, aW X (Qp_7 5) 20 z0, aW X (Qp_7 6) 20 z0, aW X (Qp_7 7) 20 z0, aW X (Qp_7 8) 20 z0, poW q2 Qp_3 0 0 0, aW X (Qp_3 0) 10 z0, aW X (Qp_3 1) 8 z0, aW X (Qp_3 2) 8 z0, aW X (Qp_3 3) 8 z0, aW X (Qp_3 4) 8 z0, aW X (Qp_3 5) 20 z0, aW X (Qp_3 6) 20 z0, aW X (Qp_3 7) 20 z0, aW X (Qp_3 8) 20 z0, obW qh 1 [.int (iI 0), .ref (q1)], pfW X q1 (fun i => some ((mkQ [q2, q6, q10, q14, q18]) i))].flatten _ := Hold.congR (f2 := fun i => some ((mkQ [q2, q6, q10, q14, q18]) i)) hH 51 rfl (by intro k hk; rcases (show k = 0 ∨ k = 1 ∨ k = 2 ∨ k = 3 ∨ k = 4 by omega) with rfl | rfl | rfl | rfl | rfl <;> rfl) rfl
              have hH : Hold X A [obW qh 1 [.int (iI 0), .ref (q1)], pfW X q1 (fun i => some ((mkQ [q2, q6, q10, q14, q18]) i)), poW q2 Qp_3 0 0 0, aW X (Qp_3 0) 10 z0, aW X (Qp_3 1) 8 z0, aW X (Qp_3 2) 8 z0, aW X (Qp_3 3) 8 z0, aW X (Qp_3 4) 8 z0, aW X (Qp_3 5) 20 z0, aW X (Qp_3 6) 20 z0, aW X (Qp_3 7) 20 z0, aW X (Qp_3 8) 20 z0, poW q6 Qp_7 0 0 0, aW X (Qp_7 0) 10 z0, aW X (Qp_7 1) 8 z0, aW X (Qp_7 2) 8 z0, aW X (Qp_7 3) 8 z0, aW X (Qp_7 4) 8 z0, aW X (Qp_7 5) 20 z0, aW X (Qp_7 6) 20 z0, aW X (Qp_7 7) 20 z0, aW X (Qp_7 8) 20 z0, poW q10 Qp_11 0 0 0, aW X (Qp_11 0) 10 z0, aW X (Qp_11 1) 8 z0, aW X (Qp_11 2) 8 z0, aW X (Qp_11 3) 8 z0, aW X (Qp_11 4) 8 z0, aW X (Qp_11 5) 20 z0, aW X (Qp_11 6) 20 z0, aW X (Qp_11 7) 20 z0, aW X (Qp_11 8) 20 z0, poW q14 Qp_15 0 0 0, aW X (Qp_15 0) 10 z0, aW X (Qp_15 1) 8 z0, aW X (Qp_15 2) 8 z0, aW X (Qp_15 3) 8 z0, aW X (Qp_15 4) 8 z0, aW X (Qp_15 5) 20 z0, aW X (Qp_15 6) 20 z0, aW X (Qp_15 7) 20 z0, aW X (Qp_15 8) 20 z0, poW q18 Qp_19 0 0 0, aW X (Qp_19 0) 10 z0, aW X (Qp_19 1) 8 z0, aW X (Qp_19 2) 8 z0, aW X (Qp_19 3) 8 z0, aW X (Qp_19 4) 8 z0, aW X (Qp_19 5) 20 z0, aW X (Qp_19 6) 20 z0, aW X (Qp_19 7) 20 z0, aW X (Qp_19 8) 20 z0].flatten _ := Hold.pick hH [50, 51, 40, 41, 42, 43, 44, 45, 46, 47, 48, 49, 30, 31, 32, 33, 34, 35, 36, 37, 38, 39, 20, 21, 22, 23, 24, 25, 26, 27, 28, 29, 10, 11, 12, 13, 14, 15, 16, 17, 18, 19, 0, 1, 2, 3, 4, 5, 6, 7, 8, 9] rfl 52 rfl (by decide)
              have hH : Hold X A [hiW qh q1 ((0 : Nat) : Int), pfW X q1 (fun i => some ((mkQ [q2, q6, q10, q14, q18]) i)), plW X ((mkQ [q2, q6, q10, q14, q18]) 0) ((mkF [Qp_3, Qp_7, Qp_11, Qp_15, Qp_19]) 0) ((fun _ => (mkD 0 0 0 z0 z0 z0 z0 z0 z0 z0 z0 z0)) 0), plW X ((mkQ [q2, q6, q10, q14, q18]) 1) ((mkF [Qp_3, Qp_7, Qp_11, Qp_15, Qp_19]) 1) ((fun _ => (mkD 0 0 0 z0 z0 z0 z0 z0 z0 z0 z0 z0)) 1), plW X ((mkQ [q2, q6, q10, q14, q18]) 2) ((mkF [Qp_3, Qp_7, Qp_11, Qp_15, Qp_19]) 2) ((fun _ => (mkD 0 0 0 z0 z0 z0 z0 z0 z0 z0 z0 z0)) 2), plW X ((mkQ [q2, q6, q10, q14, q18]) 3) ((mkF [Qp_3, Qp_7, Qp_11, Qp_15, Qp_19]) 3) ((fun _ => (mkD 0 0 0 z0 z0 z0 z0 z0 z0 z0 z0 z0)) 3), plW X ((mkQ [q2, q6, q10, q14, q18]) 4) ((mkF [Qp_3, Qp_7, Qp_11, Qp_15, Qp_19]) 4) ((fun _ => (mkD 0 0 0 z0 z0 z0 z0 z0 z0 z0 z0 z0)) 4)].flatten _ := hH
              exact hret 38 ls _ _ (q1, (mkQ [q2, q6, q10, q14, q18]), (mkF [Qp_3, Qp_7, Qp_11, Qp_15, Qp_19])) dX1_init_38 trivial hH hS
            · exact (show False by omega).elim
