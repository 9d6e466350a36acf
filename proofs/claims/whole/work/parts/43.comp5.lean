theorem mX5_lesserSlack_1 : Cond.methodLink RX5 216 Lib.Math.min.name ∈ wsX5_lesserSlack := List.mem_of_getElem? (i := 1) rfl
theorem mX5_lesserSlack_2 : Cond.static Lib.Math.min.name ∈ wsX5_lesserSlack := List.mem_of_getElem? (i := 2) rfl
theorem mX5_lesserSlack_3 : Cond.initialized "java/lang/Math" ∈ wsX5_lesserSlack := List.mem_of_getElem? (i := 3) rfl
theorem mX5_lesserSlack_4 : Cond.code Lib.Math.min.name Lib.Math.min.code 2 (some .int) ∈ wsX5_lesserSlack := List.mem_of_getElem? (i := 4) rfl
set_option maxHeartbeats 4000000 in
set_option maxRecDepth 100000 in
theorem kX5_lesserSlack (l : Launch) (X : XT) (x : Int) (y : Int) (hx : inR x) (hy : inR y) : Ci l yX5_lesserSlack wsX5_lesserSlack (rmD 1) X [.int (iI (x)), .int (iI (y))] [] (fun (z : Int) (_ : Unit) => z = lsS x y) (fun (_ : Unit) => []) := by
  refine Ci.ofW (cc := cX5_lesserSlack) (maxL := 2) (by decide) rfl (Nat.le_of_ble_eq_true rfl) ?_
  intro p_ e_ s_ m_ below meth c_ A Q_ S hA hAM hH hS hret ls hl
  have hl : lv_has ls 2 [(0, .int (iI (x))), (1, .int (iI (y)))] := hl
  refine lv_iload_n S.1 S.2.1 dX5_lesserSlack_0 rfl (lv_at hl 0 rfl) ?_
  refine lv_sipush (v := iI (-1004)) S.1 S.2.1 dX5_lesserSlack_1 (by decide) ?_
  refine zv_icmp_ne (tgt := 9) S dX5_lesserSlack_4 (by decide) (by omega) (by decide) (fun c_4 => ?_) (fun c_4 => ?_)
  · skip
    refine lv_iload_n S.1 S.2.1 dX5_lesserSlack_9 rfl (lv_at hl 1 rfl) ?_
    refine lv_sipush (v := iI (-1004)) S.1 S.2.1 dX5_lesserSlack_10 (by decide) ?_
    refine zv_icmp_ne (tgt := 20) S dX5_lesserSlack_13 (by decide) (by omega) (by decide) (fun c_13 => ?_) (fun c_13 => ?_)
    · skip
      refine lv_iload_n S.1 S.2.1 dX5_lesserSlack_20 rfl (lv_at hl 0 rfl) ?_
      refine lv_iload_n S.1 S.2.1 dX5_lesserSlack_21 rfl (lv_at hl 1 rfl) ?_
      refine zv_mmin (z := (min x y)) S hl.1 mX5_lesserSlack_1 mX5_lesserSlack_2 mX5_lesserSlack_3 mX5_lesserSlack_4 (by omega) (by omega) (by omega) (Nat.le_of_ble_eq_true rfl) (Nat.le_of_ble_eq_true rfl) (Nat.le_of_ble_eq_true rfl) (Nat.le_of_ble_eq_true rfl) dX5_lesserSlack_22 ?_
      exact hret 25 ls _ _ ((min x y)) () dX5_lesserSlack_25 rfl (by unfold lsS; (repeat' split) <;> first | rfl | omega) hH hS
    · skip
      refine lv_iload_n S.1 S.2.1 dX5_lesserSlack_16 rfl (lv_at hl 0 rfl) ?_
      refine lv_goto (tgt := 25) S.1 S.2.1 dX5_lesserSlack_17 (by decide) ?_
      exact hret 25 ls _ _ (x) () dX5_lesserSlack_25 rfl (by unfold lsS; (repeat' split) <;> first | rfl | omega) hH hS
  · skip
    refine lv_iload_n S.1 S.2.1 dX5_lesserSlack_7 rfl (lv_at hl 1 rfl) ?_
    exact hret 8 ls _ _ (y) () dX5_lesserSlack_8 rfl (by unfold lsS; (repeat' split) <;> first | rfl | omega) hH hS

theorem mX4_slackFrom_1 : Cond.fieldLink RX4 16 "RoleDoublingPlanner$Slacks" "play" "LRoleDoublingPlanner$Play;" ∈ wsX4_slackFrom := List.mem_of_getElem? (i := 1) rfl
theorem nX4_slackFrom_X4 : ∀ w ∈ wsX40, w ∈ wsX4_slackFrom := fun _ h => List.mem_cons_of_mem _ (List.mem_append_left _ (List.mem_append_right _ h))
theorem mX4_slackFrom_2 : Cond.fieldLink RX4 47 "RoleDoublingPlanner$Play" "out" "[I" ∈ wsX4_slackFrom := List.mem_of_getElem? (i := 2) rfl
theorem nX4_slackFrom_X2 : ∀ w ∈ wsX20, w ∈ wsX4_slackFrom := fun _ h => List.mem_cons_of_mem _ (List.mem_append_right _ h)
theorem mX4_slackFrom_3 : Cond.fieldLink RX4 30 "RoleDoublingPlanner$Play" "appearing" "[I" ∈ wsX4_slackFrom := List.mem_of_getElem? (i := 3) rfl
theorem mX4_slackFrom_4 : Cond.fieldLink RX4 50 "RoleDoublingPlanner$Play" "in" "[I" ∈ wsX4_slackFrom := List.mem_of_getElem? (i := 4) rfl
theorem mX4_slackFrom_5 : Cond.fieldLink RX4 37 "RoleDoublingPlanner$Play" "enterTime" "[I" ∈ wsX4_slackFrom := List.mem_of_getElem? (i := 5) rfl
theorem mX4_slackFrom_6 : Cond.fieldLink RX4 34 "RoleDoublingPlanner$Play" "exitTime" "[I" ∈ wsX4_slackFrom := List.mem_of_getElem? (i := 6) rfl
set_option maxHeartbeats 4000000 in
set_option maxRecDepth 100000 in
theorem kX4_slackFrom (l : Launch) (X : XT) (qs : Nat) (qT : Nat) (Qs : Nat → Nat) (T : Nat → Nat → Int) (q : Nat) (Qp : Nat → Nat) (v : Nat → Int) (sl : Nat → Int) (vo : Nat → Int) (ou : Nat → Int) (inn : Nat → Int) (ac : Nat → Int) (ag : Nat → Int) (ai : Nat → Int) (et : Nat → Int) (xt : Nat → Int) (a : Nat) (b : Nat) (hv : okR v) (hP : PA v sl vo ou inn ac ag ai et xt) (ha : a < na v) (hb : b < na v) : Ci l yX4_slackFrom wsX4_slackFrom (rmD 1) X [.ref qs, .int (iI ((a : Nat) : Int)), .int (iI ((b : Nat) : Int))] [tbW X qT Qs T, slW qs q qT, poW q Qp ((ns v : Nat) : Int) ((nr v : Nat) : Int) ((na v : Nat) : Int), aW X (Qp 0) 10 sl, aW X (Qp 1) 8 vo, aW X (Qp 2) 8 ou, aW X (Qp 3) 8 inn, aW X (Qp 4) 8 ac, aW X (Qp 5) 20 ag, aW X (Qp 6) 20 ai, aW X (Qp 7) 20 et, aW X (Qp 8) 20 xt] (fun (z : Int) (_ : Unit) => z = slF v a b) (fun (_ : Unit) => [tbW X qT Qs T, slW qs q qT, poW q Qp ((ns v : Nat) : Int) ((nr v : Nat) : Int) ((na v : Nat) : Int), aW X (Qp 0) 10 sl, aW X (Qp 1) 8 vo, aW X (Qp 2) 8 ou, aW X (Qp 3) 8 inn, aW X (Qp 4) 8 ac, aW X (Qp 5) 20 ag, aW X (Qp 6) 20 ai, aW X (Qp 7) 20 et, aW X (Qp 8) 20 xt]) := by
  refine Ci.ofW (cc := cX4_slackFrom) (maxL := 4) (by decide) rfl (Nat.le_of_ble_eq_true rfl) ?_
  intro p_ e_ s_ m_ below meth c_ A Q_ S hA hAM hH hS hret ls hl
  have hl : lv_has ls 4 [(0, .ref (qs)), (1, .int (iI ((a : Nat) : Int))), (2, .int (iI ((b : Nat) : Int)))] := hl
  have hk1 := hv.nr8
  have hk2 := hv.na20
  have hk3 := hv.ns10
  have ra_ := hv.rlr a ha
  have rb_ := hv.rlr b hb
  refine lv_aload_n S.1 S.2.1 dX4_slackFrom_0 rfl (lv_at hl 0 rfl) ?_
  refine zv_get (v := .ref (q)) S hAM hH nX4_slackFrom_X4 9 rfl rfl 0 (by decide) mX4_slackFrom_1 rfl rfl dX4_slackFrom_1 ?_
  refine zv_get (v := .ref (Qp 2)) S hAM hH nX4_slackFrom_X2 10 rfl rfl 5 (by decide) mX4_slackFrom_2 rfl rfl dX4_slackFrom_4 ?_
  refine lv_aload_n S.1 S.2.1 dX4_slackFrom_7 rfl (lv_at hl 0 rfl) ?_
  refine zv_get (v := .ref (q)) S hAM hH nX4_slackFrom_X4 9 rfl rfl 0 (by decide) mX4_slackFrom_1 rfl rfl dX4_slackFrom_8 ?_
  refine zv_get (v := .ref (Qp 5)) S hAM hH nX4_slackFrom_X2 10 rfl rfl 8 (by decide) mX4_slackFrom_3 rfl rfl dX4_slackFrom_11 ?_
  refine lv_iload_n S.1 S.2.1 dX4_slackFrom_14 rfl (lv_at hl 1 rfl) ?_
  refine zv_iald S hAM hH 16 rfl (a) rfl (by omega) (by decide) dX4_slackFrom_15 ?_
  refine zv_top (z := ag a) (z2 := ((rl v a : Nat) : Int)) ((hP.2.2 a (by omega)).1.trans (hv.rlE a (by omega))) ?_
  refine zv_iald S hAM hH 13 rfl (rl v a) rfl (by omega) (by decide) dX4_slackFrom_16 ?_
  refine zv_top (z := ou (rl v a)) (z2 := v (20 + (rl v a))) (hP.2.1 (rl v a) (by omega)).2.1 ?_
  refine lv_aload_n S.1 S.2.1 dX4_slackFrom_17 rfl (lv_at hl 0 rfl) ?_
  refine zv_get (v := .ref (q)) S hAM hH nX4_slackFrom_X4 9 rfl rfl 0 (by decide) mX4_slackFrom_1 rfl rfl dX4_slackFrom_18 ?_
  refine zv_get (v := .ref (Qp 3)) S hAM hH nX4_slackFrom_X2 10 rfl rfl 6 (by decide) mX4_slackFrom_4 rfl rfl dX4_slackFrom_21 ?_
  refine lv_aload_n S.1 S.2.1 dX4_slackFrom_24 rfl (lv_at hl 0 rfl) ?_
  refine zv_get (v := .ref (q)) S hAM hH nX4_slackFrom_X4 9 rfl rfl 0 (by decide) mX4_slackFrom_1 rfl rfl dX4_slackFrom_25 ?_
  refine zv_get (v := .ref (Qp 5)) S hAM hH nX4_slackFrom_X2 10 rfl rfl 8 (by decide) mX4_slackFrom_3 rfl rfl dX4_slackFrom_28 ?_
  refine lv_iload_n S.1 S.2.1 dX4_slackFrom_31 rfl (lv_at hl 2 rfl) ?_
  refine zv_iald S hAM hH 16 rfl (b) rfl (by omega) (by decide) dX4_slackFrom_32 ?_
  refine zv_top (z := ag b) (z2 := ((rl v b : Nat) : Int)) ((hP.2.2 b (by omega)).1.trans (hv.rlE b (by omega))) ?_
  refine zv_iald S hAM hH 14 rfl (rl v b) rfl (by omega) (by decide) dX4_slackFrom_33 ?_
  refine zv_top (z := inn (rl v b)) (z2 := v (28 + (rl v b))) (hP.2.1 (rl v b) (by omega)).2.2.1 ?_
  refine zv_iadd (z := (v (20 + (rl v a)) + v (28 + (rl v b)))) S dX4_slackFrom_34 rfl ?_
  refine lv_istore_n (lv' := [(3, .int (iI ((v (20 + (rl v a)) + v (28 + (rl v b)))))), (0, .ref (qs)), (1, .int (iI ((a : Nat) : Int))), (2, .int (iI ((b : Nat) : Int)))]) S.1 S.2.1 dX4_slackFrom_35 rfl hl (by decide) rfl (fun ls hl => ?_)
  refine lv_aload_n S.1 S.2.1 dX4_slackFrom_36 rfl (lv_at hl 1 rfl) ?_
  refine zv_get (v := .ref (q)) S hAM hH nX4_slackFrom_X4 9 rfl rfl 0 (by decide) mX4_slackFrom_1 rfl rfl dX4_slackFrom_37 ?_
  refine zv_get (v := .ref (Qp 7)) S hAM hH nX4_slackFrom_X2 10 rfl rfl 10 (by decide) mX4_slackFrom_5 rfl rfl dX4_slackFrom_40 ?_
  refine lv_iload_n S.1 S.2.1 dX4_slackFrom_43 rfl (lv_at hl 3 rfl) ?_
  refine zv_iald S hAM hH 18 rfl (b) rfl (by omega) (by decide) dX4_slackFrom_44 ?_
  refine zv_top (z := et b) (z2 := eT v b) (hP.2.2 b (by omega)).2.2.1 ?_
  refine lv_aload_n S.1 S.2.1 dX4_slackFrom_45 rfl (lv_at hl 1 rfl) ?_
  refine zv_get (v := .ref (q)) S hAM hH nX4_slackFrom_X4 9 rfl rfl 0 (by decide) mX4_slackFrom_1 rfl rfl dX4_slackFrom_46 ?_
  refine zv_get (v := .ref (Qp 8)) S hAM hH nX4_slackFrom_X2 10 rfl rfl 11 (by decide) mX4_slackFrom_6 rfl rfl dX4_slackFrom_49 ?_
  refine lv_iload_n S.1 S.2.1 dX4_slackFrom_52 rfl (lv_at hl 2 rfl) ?_
  refine zv_iald S hAM hH 19 rfl (a) rfl (by omega) (by decide) dX4_slackFrom_53 ?_
  refine zv_top (z := xt a) (z2 := xT v a) (hP.2.2 a (by omega)).2.2.2 ?_
  refine zv_isub (z := (eT v b - xT v a)) S dX4_slackFrom_54 rfl ?_
  refine lv_iload_n S.1 S.2.1 dX4_slackFrom_55 rfl (lv_at hl 0 rfl) ?_
  refine zv_isub (z := ((eT v b - xT v a) - (v (20 + (rl v a)) + v (28 + (rl v b))))) S dX4_slackFrom_56 rfl ?_
  exact hret 57 ls _ _ (((eT v b - xT v a) - (v (20 + (rl v a)) + v (28 + (rl v b))))) () dX4_slackFrom_57 rfl rfl hH hS

theorem mX4_compare_1 : Cond.fieldLink RX4 16 "RoleDoublingPlanner$Slacks" "play" "LRoleDoublingPlanner$Play;" ∈ wsX4_compare := List.mem_of_getElem? (i := 1) rfl
theorem nX4_compare_X4 : ∀ w ∈ wsX40, w ∈ wsX4_compare := fun _ h => List.mem_cons_of_mem _ (List.mem_append_left _ (List.mem_append_right _ h))
theorem mX4_compare_2 : Cond.fieldLink RX4 30 "RoleDoublingPlanner$Play" "appearing" "[I" ∈ wsX4_compare := List.mem_of_getElem? (i := 2) rfl
theorem nX4_compare_X2 : ∀ w ∈ wsX20, w ∈ wsX4_compare := fun _ h => List.mem_cons_of_mem _ (List.mem_append_right _ h)
theorem mX4_compare_3 : Cond.fieldLink RX4 11 "RoleDoublingPlanner$Slacks" "table" "[[I" ∈ wsX4_compare := List.mem_of_getElem? (i := 3) rfl
theorem mX4_compare_4 : Cond.fieldLink RX4 34 "RoleDoublingPlanner$Play" "exitTime" "[I" ∈ wsX4_compare := List.mem_of_getElem? (i := 4) rfl
theorem mX4_compare_5 : Cond.fieldLink RX4 37 "RoleDoublingPlanner$Play" "enterTime" "[I" ∈ wsX4_compare := List.mem_of_getElem? (i := 5) rfl
theorem mX4_compare_14 : Cond.initialized RX5 ∈ wsX4_compare := List.mem_of_getElem? (i := 14) rfl
theorem mX4_compare_13 : Cond.static yX5_lesserSlack ∈ wsX4_compare := List.mem_of_getElem? (i := 13) rfl
set_option maxHeartbeats 4000000 in
set_option maxRecDepth 100000 in
theorem kX4_compare (l : Launch) (X : XT) (qs : Nat) (qT : Nat) (Qs : Nat → Nat) (T : Nat → Nat → Int) (q : Nat) (Qp : Nat → Nat) (v : Nat → Int) (sl : Nat → Int) (vo : Nat → Int) (ou : Nat → Int) (inn : Nat → Int) (ac : Nat → Int) (ag : Nat → Int) (ai : Nat → Int) (et : Nat → Int) (xt : Nat → Int) (a : Nat) (b : Nat) (hv : okR v) (hP : PA v sl vo ou inn ac ag ai et xt) (ha : a < na v) (hb : b < na v) (hTb : rl v a ≠ rl v b → -2000 ≤ T (rl v a) (rl v b) ∧ T (rl v a) (rl v b) ≤ 2000) : Cv l yX4_compare wsX4_compare (rmD 2) X [.ref qs, .int (iI ((a : Nat) : Int)), .int (iI ((b : Nat) : Int))] [tbW X qT Qs T, slW qs q qT, poW q Qp ((ns v : Nat) : Int) ((nr v : Nat) : Int) ((na v : Nat) : Int), aW X (Qp 0) 10 sl, aW X (Qp 1) 8 vo, aW X (Qp 2) 8 ou, aW X (Qp 3) 8 inn, aW X (Qp 4) 8 ac, aW X (Qp 5) 20 ag, aW X (Qp 6) 20 ai, aW X (Qp 7) 20 et, aW X (Qp 8) 20 xt] (fun (_ : Unit) => True) (fun (_ : Unit) => [tbW X qT Qs (cpT v a b T), slW qs q qT, poW q Qp ((ns v : Nat) : Int) ((nr v : Nat) : Int) ((na v : Nat) : Int), aW X (Qp 0) 10 sl, aW X (Qp 1) 8 vo, aW X (Qp 2) 8 ou, aW X (Qp 3) 8 inn, aW X (Qp 4) 8 ac, aW X (Qp 5) 20 ag, aW X (Qp 6) 20 ai, aW X (Qp 7) 20 et, aW X (Qp 8) 20 xt]) := by
  refine Cv.ofW (cc := cX4_compare) (maxL := 6) (by decide) rfl (Nat.le_of_ble_eq_true rfl) ?_
  intro p_ e_ s_ m_ below meth c_ A Q_ S hA hAM hH hS hmn hret ls hl
  have hl : lv_has ls 6 [(0, .ref (qs)), (1, .int (iI ((a : Nat) : Int))), (2, .int (iI ((b : Nat) : Int)))] := hl
  have hk1 := hv.nr8
  have hk2 := hv.na20
  have hk3 := hv.ns10
  have ra_ := hv.rlr a ha
  have rb_ := hv.rlr b hb
  have ra8 := hv.rl8 a (by omega)
  have rb8 := hv.rl8 b (by omega)
  refine lv_aload_n S.1 S.2.1 dX4_compare_0 rfl (lv_at hl 0 rfl) ?_
  refine zv_get (v := .ref (q)) S hAM hH nX4_compare_X4 9 rfl rfl 0 (by decide) mX4_compare_1 rfl rfl dX4_compare_1 ?_
  refine zv_get (v := .ref (Qp 5)) S hAM hH nX4_compare_X2 10 rfl rfl 8 (by decide) mX4_compare_2 rfl rfl dX4_compare_4 ?_
  refine lv_iload_n S.1 S.2.1 dX4_compare_7 rfl (lv_at hl 1 rfl) ?_
  refine zv_iald S hAM hH 16 rfl (a) rfl (by omega) (by decide) dX4_compare_8 ?_
  refine zv_top (z := ag a) (z2 := ((rl v a : Nat) : Int)) ((hP.2.2 a (by omega)).1.trans (hv.rlE a (by omega))) ?_
  refine lv_istore_n (lv' := [(3, .int (iI ((rl v a : Nat) : Int))), (0, .ref (qs)), (1, .int (iI ((a : Nat) : Int))), (2, .int (iI ((b : Nat) : Int)))]) S.1 S.2.1 dX4_compare_9 rfl hl (by decide) rfl (fun ls hl => ?_)
  refine lv_aload_n S.1 S.2.1 dX4_compare_10 rfl (lv_at hl 1 rfl) ?_
  refine zv_get (v := .ref (q)) S hAM hH nX4_compare_X4 9 rfl rfl 0 (by decide) mX4_compare_1 rfl rfl dX4_compare_11 ?_
  refine zv_get (v := .ref (Qp 5)) S hAM hH nX4_compare_X2 10 rfl rfl 8 (by decide) mX4_compare_2 rfl rfl dX4_compare_14 ?_
  refine lv_iload_n S.1 S.2.1 dX4_compare_17 rfl (lv_at hl 3 rfl) ?_
  refine zv_iald S hAM hH 16 rfl (b) rfl (by omega) (by decide) dX4_compare_18 ?_
  refine zv_top (z := ag b) (z2 := ((rl v b : Nat) : Int)) ((hP.2.2 b (by omega)).1.trans (hv.rlE b (by omega))) ?_
  refine lv_istore (lv' := [(4, .int (iI ((rl v b : Nat) : Int))), (3, .int (iI ((rl v a : Nat) : Int))), (0, .ref (qs)), (1, .int (iI ((a : Nat) : Int))), (2, .int (iI ((b : Nat) : Int)))]) S.1 S.2.1 dX4_compare_19 hl (by decide) rfl (fun ls hl => ?_)
  refine lv_iload_n S.1 S.2.1 dX4_compare_21 rfl (lv_at hl 1 rfl) ?_
  refine lv_iload S.1 S.2.1 dX4_compare_22 (lv_at hl 0 rfl) ?_
  refine zv_icmp_eq (tgt := 42) S dX4_compare_24 (by decide) (by have := hv.rl8 a (by omega); omega) (by have := hv.rl8 b (by omega); omega) (fun c_24 => ?_) (fun c_24 => ?_)
  · skip
    rw [show cpT v a b T = T from if_pos (by omega)] at hret
    exact hret 42 ls _ _ () dX4_compare_42 trivial hH hS
  · skip
    refine lv_aload_n S.1 S.2.1 dX4_compare_27 rfl (lv_at hl 2 rfl) ?_
    refine zv_get (v := .ref (qT)) S hAM hH nX4_compare_X4 9 rfl rfl 1 (by decide) mX4_compare_3 rfl rfl dX4_compare_28 ?_
    refine lv_iload_n S.1 S.2.1 dX4_compare_31 rfl (lv_at hl 1 rfl) ?_
    refine zv_aald3 (q := Qs (rl v a)) S hAM hH 0 rfl (rl v a) rfl (by omega) (by decide) rfl dX4_compare_32 ?_
    refine lv_iload S.1 S.2.1 dX4_compare_33 (lv_at hl 0 rfl) ?_
    refine zv_iald (g := T (rl v a)) S hAM hH (1 + (rl v a)) (tb_get (X := X) (qT := qT) (Qs := Qs) (T := T) (rest := [slW qs q qT, poW q Qp ((ns v : Nat) : Int) ((nr v : Nat) : Int) ((na v : Nat) : Int), aW X (Qp 0) 10 sl, aW X (Qp 1) 8 vo, aW X (Qp 2) 8 ou, aW X (Qp 3) 8 inn, aW X (Qp 4) 8 ac, aW X (Qp 5) 20 ag, aW X (Qp 6) 20 ai, aW X (Qp 7) 20 et, aW X (Qp 8) 20 xt].flatten) (r := (rl v a)) (by omega)) (rl v b) rfl (by omega) (by decide) dX4_compare_35 ?_
    refine lv_sipush (v := iI (-1002)) S.1 S.2.1 dX4_compare_36 (by decide) ?_
    refine zv_icmp_ne (tgt := 43) S dX4_compare_39 (by decide) (by have := hTb (by omega); omega) (by decide) (fun c_39 => ?_) (fun c_39 => ?_)
    · skip
      refine lv_sipush (v := iI (-1002)) S.1 S.2.1 dX4_compare_43 (by decide) ?_
      refine lv_istore (lv' := [(5, .int (iI (-1002))), (4, .int (iI ((rl v b : Nat) : Int))), (3, .int (iI ((rl v a : Nat) : Int))), (0, .ref (qs)), (1, .int (iI ((a : Nat) : Int))), (2, .int (iI ((b : Nat) : Int)))]) S.1 S.2.1 dX4_compare_46 hl (by decide) rfl (fun ls hl => ?_)
      refine lv_aload_n S.1 S.2.1 dX4_compare_48 rfl (lv_at hl 3 rfl) ?_
      refine zv_get (v := .ref (q)) S hAM hH nX4_compare_X4 9 rfl rfl 0 (by decide) mX4_compare_1 rfl rfl dX4_compare_49 ?_
      refine zv_get (v := .ref (Qp 8)) S hAM hH nX4_compare_X2 10 rfl rfl 11 (by decide) mX4_compare_4 rfl rfl dX4_compare_52 ?_
      refine lv_iload_n S.1 S.2.1 dX4_compare_55 rfl (lv_at hl 4 rfl) ?_
      refine zv_iald S hAM hH 19 rfl (a) rfl (by omega) (by decide) dX4_compare_56 ?_
      refine zv_top (z := xt a) (z2 := xT v a) (hP.2.2 a (by omega)).2.2.2 ?_
      refine lv_aload_n S.1 S.2.1 dX4_compare_57 rfl (lv_at hl 3 rfl) ?_
      refine zv_get (v := .ref (q)) S hAM hH nX4_compare_X4 9 rfl rfl 0 (by decide) mX4_compare_1 rfl rfl dX4_compare_58 ?_
      refine zv_get (v := .ref (Qp 7)) S hAM hH nX4_compare_X2 10 rfl rfl 10 (by decide) mX4_compare_5 rfl rfl dX4_compare_61 ?_
      refine lv_iload_n S.1 S.2.1 dX4_compare_64 rfl (lv_at hl 5 rfl) ?_
      refine zv_iald S hAM hH 18 rfl (b) rfl (by omega) (by decide) dX4_compare_65 ?_
      refine zv_top (z := et b) (z2 := eT v b) (hP.2.2 b (by omega)).2.2.1 ?_
      refine zv_icmp_gt (tgt := 92) S dX4_compare_66 (by decide) (hv.xTR _ (by omega)) (hv.eTR _ (by omega)) (fun c_66 => ?_) (fun c_66 => ?_)
      · skip
        refine lv_aload_n S.1 S.2.1 dX4_compare_92 rfl (lv_at hl 3 rfl) ?_
        refine zv_get (v := .ref (q)) S hAM hH nX4_compare_X4 9 rfl rfl 0 (by decide) mX4_compare_1 rfl rfl dX4_compare_93 ?_
        refine zv_get (v := .ref (Qp 8)) S hAM hH nX4_compare_X2 10 rfl rfl 11 (by decide) mX4_compare_4 rfl rfl dX4_compare_96 ?_
        refine lv_iload_n S.1 S.2.1 dX4_compare_99 rfl (lv_at hl 5 rfl) ?_
        refine zv_iald S hAM hH 19 rfl (b) rfl (by omega) (by decide) dX4_compare_100 ?_
        refine zv_top (z := xt b) (z2 := xT v b) (hP.2.2 b (by omega)).2.2.2 ?_
        refine lv_aload_n S.1 S.2.1 dX4_compare_101 rfl (lv_at hl 3 rfl) ?_
        refine zv_get (v := .ref (q)) S hAM hH nX4_compare_X4 9 rfl rfl 0 (by decide) mX4_compare_1 rfl rfl dX4_compare_102 ?_
        refine zv_get (v := .ref (Qp 7)) S hAM hH nX4_compare_X2 10 rfl rfl 10 (by decide) mX4_compare_5 rfl rfl dX4_compare_105 ?_
        refine lv_iload_n S.1 S.2.1 dX4_compare_108 rfl (lv_at hl 4 rfl) ?_
        refine zv_iald S hAM hH 18 rfl (a) rfl (by omega) (by decide) dX4_compare_109 ?_
        refine zv_top (z := et a) (z2 := eT v a) (hP.2.2 a (by omega)).2.2.1 ?_
        refine zv_icmp_gt (tgt := 133) S dX4_compare_110 (by decide) (hv.xTR _ (by omega)) (hv.eTR _ (by omega)) (fun c_110 => ?_) (fun c_110 => ?_)
        · skip
          refine lv_aload_n S.1 S.2.1 dX4_compare_133 rfl (lv_at hl 3 rfl) ?_
          refine zv_get (v := .ref (qT)) S hAM hH nX4_compare_X4 9 rfl rfl 1 (by decide) mX4_compare_3 rfl rfl dX4_compare_134 ?_
          refine lv_iload_n S.1 S.2.1 dX4_compare_137 rfl (lv_at hl 2 rfl) ?_
          refine zv_aald3 (q := Qs (rl v a)) S hAM hH 0 rfl (rl v a) rfl (by omega) (by decide) rfl dX4_compare_138 ?_
          refine lv_iload S.1 S.2.1 dX4_compare_139 (lv_at hl 1 rfl) ?_
          refine lv_iload S.1 S.2.1 dX4_compare_141 (lv_at hl 0 rfl) ?_
          refine zv_iast (g := (T (rl v a))) (z := -1002) (w2 := [tbW X qT Qs (uT T (rl v a) (uI (T (rl v a)) (rl v b) (-1002))), slW qs q qT, poW q Qp ((ns v : Nat) : Int) ((nr v : Nat) : Int) ((na v : Nat) : Int), aW X (Qp 0) 10 sl, aW X (Qp 1) 8 vo, aW X (Qp 2) 8 ou, aW X (Qp 3) 8 inn, aW X (Qp 4) 8 ac, aW X (Qp 5) 20 ag, aW X (Qp 6) 20 ai, aW X (Qp 7) 20 et, aW X (Qp 8) 20 xt].flatten) S hAM hH hS (1 + (rl v a)) (tb_get (X := X) (qT := qT) (Qs := Qs) (T := T) (rest := [slW qs q qT, poW q Qp ((ns v : Nat) : Int) ((nr v : Nat) : Int) ((na v : Nat) : Int), aW X (Qp 0) 10 sl, aW X (Qp 1) 8 vo, aW X (Qp 2) 8 ou, aW X (Qp 3) 8 inn, aW X (Qp 4) 8 ac, aW X (Qp 5) 20 ag, aW X (Qp 6) 20 ai, aW X (Qp 7) 20 et, aW X (Qp 8) 20 xt].flatten) (r := (rl v a)) (by omega)) (rl v b) rfl (by omega) (by decide) (tb_set (X := X) (qT := qT) (Qs := Qs) (T := T) (rest := [slW qs q qT, poW q Qp ((ns v : Nat) : Int) ((nr v : Nat) : Int) ((na v : Nat) : Int), aW X (Qp 0) 10 sl, aW X (Qp 1) 8 vo, aW X (Qp 2) 8 ou, aW X (Qp 3) 8 inn, aW X (Qp 4) 8 ac, aW X (Qp 5) 20 ag, aW X (Qp 6) 20 ai, aW X (Qp 7) 20 et, aW X (Qp 8) 20 xt].flatten) (r := (rl v a)) (g := uI (T (rl v a)) (rl v b) (-1002)) (by omega)) dX4_compare_143 (fun H locs hH hS => ?_)
          refine lv_aload_n S.1 S.2.1 dX4_compare_144 rfl (lv_at hl 3 rfl) ?_
          refine zv_get (v := .ref (qT)) S hAM hH nX4_compare_X4 9 rfl rfl 1 (by decide) mX4_compare_3 rfl rfl dX4_compare_145 ?_
          refine lv_iload S.1 S.2.1 dX4_compare_148 (lv_at hl 1 rfl) ?_
          refine zv_aald3 (q := Qs (rl v b)) S hAM hH 0 rfl (rl v b) rfl (by omega) (by decide) rfl dX4_compare_150 ?_
          refine lv_iload_n S.1 S.2.1 dX4_compare_151 rfl (lv_at hl 2 rfl) ?_
          refine lv_iload S.1 S.2.1 dX4_compare_152 (lv_at hl 0 rfl) ?_
          refine zv_iast (g := ((uT T (rl v a) (uI (T (rl v a)) (rl v b) (-1002))) (rl v b))) (z := -1002) (w2 := [tbW X qT Qs (uT (uT T (rl v a) (uI (T (rl v a)) (rl v b) (-1002))) (rl v b) (uI ((uT T (rl v a) (uI (T (rl v a)) (rl v b) (-1002))) (rl v b)) (rl v a) (-1002))), slW qs q qT, poW q Qp ((ns v : Nat) : Int) ((nr v : Nat) : Int) ((na v : Nat) : Int), aW X (Qp 0) 10 sl, aW X (Qp 1) 8 vo, aW X (Qp 2) 8 ou, aW X (Qp 3) 8 inn, aW X (Qp 4) 8 ac, aW X (Qp 5) 20 ag, aW X (Qp 6) 20 ai, aW X (Qp 7) 20 et, aW X (Qp 8) 20 xt].flatten) S hAM hH hS (1 + (rl v b)) (tb_get (X := X) (qT := qT) (Qs := Qs) (T := uT T (rl v a) (uI (T (rl v a)) (rl v b) (-1002))) (rest := [slW qs q qT, poW q Qp ((ns v : Nat) : Int) ((nr v : Nat) : Int) ((na v : Nat) : Int), aW X (Qp 0) 10 sl, aW X (Qp 1) 8 vo, aW X (Qp 2) 8 ou, aW X (Qp 3) 8 inn, aW X (Qp 4) 8 ac, aW X (Qp 5) 20 ag, aW X (Qp 6) 20 ai, aW X (Qp 7) 20 et, aW X (Qp 8) 20 xt].flatten) (r := (rl v b)) (by omega)) (rl v a) rfl (by omega) (by decide) (tb_set (X := X) (qT := qT) (Qs := Qs) (T := uT T (rl v a) (uI (T (rl v a)) (rl v b) (-1002))) (rest := [slW qs q qT, poW q Qp ((ns v : Nat) : Int) ((nr v : Nat) : Int) ((na v : Nat) : Int), aW X (Qp 0) 10 sl, aW X (Qp 1) 8 vo, aW X (Qp 2) 8 ou, aW X (Qp 3) 8 inn, aW X (Qp 4) 8 ac, aW X (Qp 5) 20 ag, aW X (Qp 6) 20 ai, aW X (Qp 7) 20 et, aW X (Qp 8) 20 xt].flatten) (r := (rl v b)) (g := uI ((uT T (rl v a) (uI (T (rl v a)) (rl v b) (-1002))) (rl v b)) (rl v a) (-1002)) (by omega)) dX4_compare_154 (fun H locs hH hS => ?_)
          have e9 : cpT v a b T = uT (uT T (rl v a) (uI (T (rl v a)) (rl v b) (-1002))) (rl v b) (uI ((uT T (rl v a) (uI (T (rl v a)) (rl v b) (-1002))) (rl v b)) (rl v a) (-1002)) := by unfold cpT nxT; rw [if_neg (by omega), if_neg (by omega), uT_n (by omega)]; first | (rw [if_pos (by omega)]; done) | (rw [if_neg (by omega), if_pos (by omega)]; done) | (rw [if_neg (by omega), if_neg (by omega)])
          rw [e9] at hret
          exact hret 155 ls _ _ () dX4_compare_155 trivial hH hS
        · skip
          refine lv_aload_n S.1 S.2.1 dX4_compare_113 rfl (lv_at hl 3 rfl) ?_
          refine zv_get (v := .ref (qT)) S hAM hH nX4_compare_X4 9 rfl rfl 1 (by decide) mX4_compare_3 rfl rfl dX4_compare_114 ?_
          refine lv_iload_n S.1 S.2.1 dX4_compare_117 rfl (lv_at hl 2 rfl) ?_
          refine zv_aald3 (q := Qs (rl v a)) S hAM hH 0 rfl (rl v a) rfl (by omega) (by decide) rfl dX4_compare_118 ?_
          refine lv_iload S.1 S.2.1 dX4_compare_119 (lv_at hl 1 rfl) ?_
          refine zv_iald (g := T (rl v a)) S hAM hH (1 + (rl v a)) (tb_get (X := X) (qT := qT) (Qs := Qs) (T := T) (rest := [slW qs q qT, poW q Qp ((ns v : Nat) : Int) ((nr v : Nat) : Int) ((na v : Nat) : Int), aW X (Qp 0) 10 sl, aW X (Qp 1) 8 vo, aW X (Qp 2) 8 ou, aW X (Qp 3) 8 inn, aW X (Qp 4) 8 ac, aW X (Qp 5) 20 ag, aW X (Qp 6) 20 ai, aW X (Qp 7) 20 et, aW X (Qp 8) 20 xt].flatten) (r := (rl v a)) (by omega)) (rl v b) rfl (by omega) (by decide) dX4_compare_121 ?_
          refine lv_aload_n S.1 S.2.1 dX4_compare_122 rfl (lv_at hl 3 rfl) ?_
          refine lv_iload_n S.1 S.2.1 dX4_compare_123 rfl (lv_at hl 5 rfl) ?_
          refine lv_iload_n S.1 S.2.1 dX4_compare_124 rfl (lv_at hl 4 rfl) ?_
          refine zc_Vi (n := 2) (As := [.int (iI ((b : Nat) : Int)), .int (iI ((a : Nat) : Int))]) (rest := [.int (iI (T (rl v a) (rl v b)))]) S hAM hA (kX4_slackFrom l X qs qT Qs T q Qp v sl vo ou inn ac ag ai et xt b a hv hP (by omega) (by omega)) rfl gX4_compare_X4_slackFrom  (by decide +kernel) ⟨Nat.le_of_ble_eq_true rfl, Nat.le_of_ble_eq_true rfl⟩ hH hS [0, 1, 2, 3, 4, 5, 6, 7, 8, 9, 10, 11] rfl 12 rfl (List.Perm.refl _) 4 9 rfl rfl rfl hl.1 rfl (Nat.le_of_ble_eq_true rfl) dX4_compare_125 ⟨Nat.le_of_ble_eq_true rfl, Nat.le_of_ble_eq_true rfl⟩ (fun z2 _ H locs hp3 hH hS => ?_)
          have hH : Hold X A [tbW X qT Qs T, slW qs q qT, poW q Qp ((ns v : Nat) : Int) ((nr v : Nat) : Int) ((na v : Nat) : Int), aW X (Qp 0) 10 sl, aW X (Qp 1) 8 vo, aW X (Qp 2) 8 ou, aW X (Qp 3) 8 inn, aW X (Qp 4) 8 ac, aW X (Qp 5) 20 ag, aW X (Qp 6) 20 ai, aW X (Qp 7) 20 et, aW X (Qp 8) 20 xt].flatten H := hH
          obtain rfl := hp3
          refine zc_Ni (n := 2) (As := [.int (iI (T (rl v a) (rl v b))), .int (iI (slF v b a))]) (rest := []) S hAM hA (kX5_lesserSlack l X (T (rl v a) (rl v b)) (slF v b a) (by have := hTb (by omega); omega) (by have := hv.slB (a := b) (b := a) (by omega) (by omega) (by omega); omega)) rfl ggX4_compare_X5_lesserSlack hAM.2.1.2.2.2.2.2.1 mX4_compare_14 mX4_compare_13 (by decide +kernel) ⟨Nat.le_of_ble_eq_true rfl, Nat.le_of_ble_eq_true rfl⟩ hH hS [0, 1, 2, 3, 4, 5, 6, 7, 8, 9, 10, 11] rfl 12 rfl (List.Perm.refl _)  rfl hl.1 rfl (Nat.le_of_ble_eq_true rfl) dX4_compare_128 ⟨Nat.le_of_ble_eq_true rfl, Nat.le_of_ble_eq_true rfl⟩ (fun z5 _ H locs hp6 hH hS => ?_)
          have hH : Hold X A [tbW X qT Qs T, slW qs q qT, poW q Qp ((ns v : Nat) : Int) ((nr v : Nat) : Int) ((na v : Nat) : Int), aW X (Qp 0) 10 sl, aW X (Qp 1) 8 vo, aW X (Qp 2) 8 ou, aW X (Qp 3) 8 inn, aW X (Qp 4) 8 ac, aW X (Qp 5) 20 ag, aW X (Qp 6) 20 ai, aW X (Qp 7) 20 et, aW X (Qp 8) 20 xt].flatten H := hH
          obtain rfl := hp6
          refine lv_istore (lv' := [(5, .int (iI (lsS (T (rl v a) (rl v b)) (slF v b a)))), (4, .int (iI ((rl v b : Nat) : Int))), (3, .int (iI ((rl v a : Nat) : Int))), (0, .ref (qs)), (1, .int (iI ((a : Nat) : Int))), (2, .int (iI ((b : Nat) : Int)))]) S.1 S.2.1 dX4_compare_131 hl (by decide) rfl (fun ls hl => ?_)
          refine lv_aload_n S.1 S.2.1 dX4_compare_133 rfl (lv_at hl 3 rfl) ?_
          refine zv_get (v := .ref (qT)) S hAM hH nX4_compare_X4 9 rfl rfl 1 (by decide) mX4_compare_3 rfl rfl dX4_compare_134 ?_
          refine lv_iload_n S.1 S.2.1 dX4_compare_137 rfl (lv_at hl 2 rfl) ?_
          refine zv_aald3 (q := Qs (rl v a)) S hAM hH 0 rfl (rl v a) rfl (by omega) (by decide) rfl dX4_compare_138 ?_
          refine lv_iload S.1 S.2.1 dX4_compare_139 (lv_at hl 1 rfl) ?_
          refine lv_iload S.1 S.2.1 dX4_compare_141 (lv_at hl 0 rfl) ?_
          refine zv_iast (g := (T (rl v a))) (z := lsS (T (rl v a) (rl v b)) (slF v b a)) (w2 := [tbW X qT Qs (uT T (rl v a) (uI (T (rl v a)) (rl v b) (lsS (T (rl v a) (rl v b)) (slF v b a)))), slW qs q qT, poW q Qp ((ns v : Nat) : Int) ((nr v : Nat) : Int) ((na v : Nat) : Int), aW X (Qp 0) 10 sl, aW X (Qp 1) 8 vo, aW X (Qp 2) 8 ou, aW X (Qp 3) 8 inn, aW X (Qp 4) 8 ac, aW X (Qp 5) 20 ag, aW X (Qp 6) 20 ai, aW X (Qp 7) 20 et, aW X (Qp 8) 20 xt].flatten) S hAM hH hS (1 + (rl v a)) (tb_get (X := X) (qT := qT) (Qs := Qs) (T := T) (rest := [slW qs q qT, poW q Qp ((ns v : Nat) : Int) ((nr v : Nat) : Int) ((na v : Nat) : Int), aW X (Qp 0) 10 sl, aW X (Qp 1) 8 vo, aW X (Qp 2) 8 ou, aW X (Qp 3) 8 inn, aW X (Qp 4) 8 ac, aW X (Qp 5) 20 ag, aW X (Qp 6) 20 ai, aW X (Qp 7) 20 et, aW X (Qp 8) 20 xt].flatten) (r := (rl v a)) (by omega)) (rl v b) rfl (by omega) (by decide) (tb_set (X := X) (qT := qT) (Qs := Qs) (T := T) (rest := [slW qs q qT, poW q Qp ((ns v : Nat) : Int) ((nr v : Nat) : Int) ((na v : Nat) : Int), aW X (Qp 0) 10 sl, aW X (Qp 1) 8 vo, aW X (Qp 2) 8 ou, aW X (Qp 3) 8 inn, aW X (Qp 4) 8 ac, aW X (Qp 5) 20 ag, aW X (Qp 6) 20 ai, aW X (Qp 7) 20 et, aW X (Qp 8) 20 xt].flatten) (r := (rl v a)) (g := uI (T (rl v a)) (rl v b) (lsS (T (rl v a) (rl v b)) (slF v b a))) (by omega)) dX4_compare_143 (fun H locs hH hS => ?_)
          refine lv_aload_n S.1 S.2.1 dX4_compare_144 rfl (lv_at hl 3 rfl) ?_
          refine zv_get (v := .ref (qT)) S hAM hH nX4_compare_X4 9 rfl rfl 1 (by decide) mX4_compare_3 rfl rfl dX4_compare_145 ?_
          refine lv_iload S.1 S.2.1 dX4_compare_148 (lv_at hl 1 rfl) ?_
          refine zv_aald3 (q := Qs (rl v b)) S hAM hH 0 rfl (rl v b) rfl (by omega) (by decide) rfl dX4_compare_150 ?_
          refine lv_iload_n S.1 S.2.1 dX4_compare_151 rfl (lv_at hl 2 rfl) ?_
          refine lv_iload S.1 S.2.1 dX4_compare_152 (lv_at hl 0 rfl) ?_
          refine zv_iast (g := ((uT T (rl v a) (uI (T (rl v a)) (rl v b) (lsS (T (rl v a) (rl v b)) (slF v b a)))) (rl v b))) (z := lsS (T (rl v a) (rl v b)) (slF v b a)) (w2 := [tbW X qT Qs (uT (uT T (rl v a) (uI (T (rl v a)) (rl v b) (lsS (T (rl v a) (rl v b)) (slF v b a)))) (rl v b) (uI ((uT T (rl v a) (uI (T (rl v a)) (rl v b) (lsS (T (rl v a) (rl v b)) (slF v b a)))) (rl v b)) (rl v a) (lsS (T (rl v a) (rl v b)) (slF v b a)))), slW qs q qT, poW q Qp ((ns v : Nat) : Int) ((nr v : Nat) : Int) ((na v : Nat) : Int), aW X (Qp 0) 10 sl, aW X (Qp 1) 8 vo, aW X (Qp 2) 8 ou, aW X (Qp 3) 8 inn, aW X (Qp 4) 8 ac, aW X (Qp 5) 20 ag, aW X (Qp 6) 20 ai, aW X (Qp 7) 20 et, aW X (Qp 8) 20 xt].flatten) S hAM hH hS (1 + (rl v b)) (tb_get (X := X) (qT := qT) (Qs := Qs) (T := uT T (rl v a) (uI (T (rl v a)) (rl v b) (lsS (T (rl v a) (rl v b)) (slF v b a)))) (rest := [slW qs q qT, poW q Qp ((ns v : Nat) : Int) ((nr v : Nat) : Int) ((na v : Nat) : Int), aW X (Qp 0) 10 sl, aW X (Qp 1) 8 vo, aW X (Qp 2) 8 ou, aW X (Qp 3) 8 inn, aW X (Qp 4) 8 ac, aW X (Qp 5) 20 ag, aW X (Qp 6) 20 ai, aW X (Qp 7) 20 et, aW X (Qp 8) 20 xt].flatten) (r := (rl v b)) (by omega)) (rl v a) rfl (by omega) (by decide) (tb_set (X := X) (qT := qT) (Qs := Qs) (T := uT T (rl v a) (uI (T (rl v a)) (rl v b) (lsS (T (rl v a) (rl v b)) (slF v b a)))) (rest := [slW qs q qT, poW q Qp ((ns v : Nat) : Int) ((nr v : Nat) : Int) ((na v : Nat) : Int), aW X (Qp 0) 10 sl, aW X (Qp 1) 8 vo, aW X (Qp 2) 8 ou, aW X (Qp 3) 8 inn, aW X (Qp 4) 8 ac, aW X (Qp 5) 20 ag, aW X (Qp 6) 20 ai, aW X (Qp 7) 20 et, aW X (Qp 8) 20 xt].flatten) (r := (rl v b)) (g := uI ((uT T (rl v a) (uI (T (rl v a)) (rl v b) (lsS (T (rl v a) (rl v b)) (slF v b a)))) (rl v b)) (rl v a) (lsS (T (rl v a) (rl v b)) (slF v b a))) (by omega)) dX4_compare_154 (fun H locs hH hS => ?_)
          have e9 : cpT v a b T = uT (uT T (rl v a) (uI (T (rl v a)) (rl v b) (lsS (T (rl v a) (rl v b)) (slF v b a)))) (rl v b) (uI ((uT T (rl v a) (uI (T (rl v a)) (rl v b) (lsS (T (rl v a) (rl v b)) (slF v b a)))) (rl v b)) (rl v a) (lsS (T (rl v a) (rl v b)) (slF v b a))) := by unfold cpT nxT; rw [if_neg (by omega), if_neg (by omega), uT_n (by omega)]; first | (rw [if_pos (by omega)]; done) | (rw [if_neg (by omega), if_pos (by omega)]; done) | (rw [if_neg (by omega), if_neg (by omega)])
          rw [e9] at hret
          exact hret 155 ls _ _ () dX4_compare_155 trivial hH hS
      · skip
        refine lv_aload_n S.1 S.2.1 dX4_compare_69 rfl (lv_at hl 3 rfl) ?_
        refine zv_get (v := .ref (qT)) S hAM hH nX4_compare_X4 9 rfl rfl 1 (by decide) mX4_compare_3 rfl rfl dX4_compare_70 ?_
        refine lv_iload_n S.1 S.2.1 dX4_compare_73 rfl (lv_at hl 2 rfl) ?_
        refine zv_aald3 (q := Qs (rl v a)) S hAM hH 0 rfl (rl v a) rfl (by omega) (by decide) rfl dX4_compare_74 ?_
        refine lv_iload S.1 S.2.1 dX4_compare_75 (lv_at hl 1 rfl) ?_
        refine zv_iald (g := T (rl v a)) S hAM hH (1 + (rl v a)) (tb_get (X := X) (qT := qT) (Qs := Qs) (T := T) (rest := [slW qs q qT, poW q Qp ((ns v : Nat) : Int) ((nr v : Nat) : Int) ((na v : Nat) : Int), aW X (Qp 0) 10 sl, aW X (Qp 1) 8 vo, aW X (Qp 2) 8 ou, aW X (Qp 3) 8 inn, aW X (Qp 4) 8 ac, aW X (Qp 5) 20 ag, aW X (Qp 6) 20 ai, aW X (Qp 7) 20 et, aW X (Qp 8) 20 xt].flatten) (r := (rl v a)) (by omega)) (rl v b) rfl (by omega) (by decide) dX4_compare_77 ?_
        refine lv_aload_n S.1 S.2.1 dX4_compare_78 rfl (lv_at hl 3 rfl) ?_
        refine lv_iload_n S.1 S.2.1 dX4_compare_79 rfl (lv_at hl 4 rfl) ?_
        refine lv_iload_n S.1 S.2.1 dX4_compare_80 rfl (lv_at hl 5 rfl) ?_
        refine zc_Vi (n := 2) (As := [.int (iI ((a : Nat) : Int)), .int (iI ((b : Nat) : Int))]) (rest := [.int (iI (T (rl v a) (rl v b)))]) S hAM hA (kX4_slackFrom l X qs qT Qs T q Qp v sl vo ou inn ac ag ai et xt a b hv hP (by omega) (by omega)) rfl gX4_compare_X4_slackFrom  (by decide +kernel) ⟨Nat.le_of_ble_eq_true rfl, Nat.le_of_ble_eq_true rfl⟩ hH hS [0, 1, 2, 3, 4, 5, 6, 7, 8, 9, 10, 11] rfl 12 rfl (List.Perm.refl _) 4 9 rfl rfl rfl hl.1 rfl (Nat.le_of_ble_eq_true rfl) dX4_compare_81 ⟨Nat.le_of_ble_eq_true rfl, Nat.le_of_ble_eq_true rfl⟩ (fun z8 _ H locs hp9 hH hS => ?_)
        have hH : Hold X A [tbW X qT Qs T, slW qs q qT, poW q Qp ((ns v : Nat) : Int) ((nr v : Nat) : Int) ((na v : Nat) : Int), aW X (Qp 0) 10 sl, aW X (Qp 1) 8 vo, aW X (Qp 2) 8 ou, aW X (Qp 3) 8 inn, aW X (Qp 4) 8 ac, aW X (Qp 5) 20 ag, aW X (Qp 6) 20 ai, aW X (Qp 7) 20 et, aW X (Qp 8) 20 xt].flatten H := hH
        obtain rfl := hp9
        refine zc_Ni (n := 2) (As := [.int (iI (T (rl v a) (rl v b))), .int (iI (slF v a b))]) (rest := []) S hAM hA (kX5_lesserSlack l X (T (rl v a) (rl v b)) (slF v a b) (by have := hTb (by omega); omega) (by have := hv.slB (a := a) (b := b) (by omega) (by omega) (by omega); omega)) rfl ggX4_compare_X5_lesserSlack hAM.2.1.2.2.2.2.2.1 mX4_compare_14 mX4_compare_13 (by decide +kernel) ⟨Nat.le_of_ble_eq_true rfl, Nat.le_of_ble_eq_true rfl⟩ hH hS [0, 1, 2, 3, 4, 5, 6, 7, 8, 9, 10, 11] rfl 12 rfl (List.Perm.refl _)  rfl hl.1 rfl (Nat.le_of_ble_eq_true rfl) dX4_compare_84 ⟨Nat.le_of_ble_eq_true rfl, Nat.le_of_ble_eq_true rfl⟩ (fun z11 _ H locs hp12 hH hS => ?_)
        have hH : Hold X A [tbW X qT Qs T, slW qs q qT, poW q Qp ((ns v : Nat) : Int) ((nr v : Nat) : Int) ((na v : Nat) : Int), aW X (Qp 0) 10 sl, aW X (Qp 1) 8 vo, aW X (Qp 2) 8 ou, aW X (Qp 3) 8 inn, aW X (Qp 4) 8 ac, aW X (Qp 5) 20 ag, aW X (Qp 6) 20 ai, aW X (Qp 7) 20 et, aW X (Qp 8) 20 xt].flatten H := hH
        obtain rfl := hp12
        refine lv_istore (lv' := [(5, .int (iI (lsS (T (rl v a) (rl v b)) (slF v a b)))), (4, .int (iI ((rl v b : Nat) : Int))), (3, .int (iI ((rl v a : Nat) : Int))), (0, .ref (qs)), (1, .int (iI ((a : Nat) : Int))), (2, .int (iI ((b : Nat) : Int)))]) S.1 S.2.1 dX4_compare_87 hl (by decide) rfl (fun ls hl => ?_)
        refine lv_goto (tgt := 133) S.1 S.2.1 dX4_compare_89 (by decide) ?_
        refine lv_aload_n S.1 S.2.1 dX4_compare_133 rfl (lv_at hl 3 rfl) ?_
        refine zv_get (v := .ref (qT)) S hAM hH nX4_compare_X4 9 rfl rfl 1 (by decide) mX4_compare_3 rfl rfl dX4_compare_134 ?_
        refine lv_iload_n S.1 S.2.1 dX4_compare_137 rfl (lv_at hl 2 rfl) ?_
        refine zv_aald3 (q := Qs (rl v a)) S hAM hH 0 rfl (rl v a) rfl (by omega) (by decide) rfl dX4_compare_138 ?_
        refine lv_iload S.1 S.2.1 dX4_compare_139 (lv_at hl 1 rfl) ?_
        refine lv_iload S.1 S.2.1 dX4_compare_141 (lv_at hl 0 rfl) ?_
        refine zv_iast (g := (T (rl v a))) (z := lsS (T (rl v a) (rl v b)) (slF v a b)) (w2 := [tbW X qT Qs (uT T (rl v a) (uI (T (rl v a)) (rl v b) (lsS (T (rl v a) (rl v b)) (slF v a b)))), slW qs q qT, poW q Qp ((ns v : Nat) : Int) ((nr v : Nat) : Int) ((na v : Nat) : Int), aW X (Qp 0) 10 sl, aW X (Qp 1) 8 vo, aW X (Qp 2) 8 ou, aW X (Qp 3) 8 inn, aW X (Qp 4) 8 ac, aW X (Qp 5) 20 ag, aW X (Qp 6) 20 ai, aW X (Qp 7) 20 et, aW X (Qp 8) 20 xt].flatten) S hAM hH hS (1 + (rl v a)) (tb_get (X := X) (qT := qT) (Qs := Qs) (T := T) (rest := [slW qs q qT, poW q Qp ((ns v : Nat) : Int) ((nr v : Nat) : Int) ((na v : Nat) : Int), aW X (Qp 0) 10 sl, aW X (Qp 1) 8 vo, aW X (Qp 2) 8 ou, aW X (Qp 3) 8 inn, aW X (Qp 4) 8 ac, aW X (Qp 5) 20 ag, aW X (Qp 6) 20 ai, aW X (Qp 7) 20 et, aW X (Qp 8) 20 xt].flatten) (r := (rl v a)) (by omega)) (rl v b) rfl (by omega) (by decide) (tb_set (X := X) (qT := qT) (Qs := Qs) (T := T) (rest := [slW qs q qT, poW q Qp ((ns v : Nat) : Int) ((nr v : Nat) : Int) ((na v : Nat) : Int), aW X (Qp 0) 10 sl, aW X (Qp 1) 8 vo, aW X (Qp 2) 8 ou, aW X (Qp 3) 8 inn, aW X (Qp 4) 8 ac, aW X (Qp 5) 20 ag, aW X (Qp 6) 20 ai, aW X (Qp 7) 20 et, aW X (Qp 8) 20 xt].flatten) (r := (rl v a)) (g := uI (T (rl v a)) (rl v b) (lsS (T (rl v a) (rl v b)) (slF v a b))) (by omega)) dX4_compare_143 (fun H locs hH hS => ?_)
        refine lv_aload_n S.1 S.2.1 dX4_compare_144 rfl (lv_at hl 3 rfl) ?_
        refine zv_get (v := .ref (qT)) S hAM hH nX4_compare_X4 9 rfl rfl 1 (by decide) mX4_compare_3 rfl rfl dX4_compare_145 ?_
        refine lv_iload S.1 S.2.1 dX4_compare_148 (lv_at hl 1 rfl) ?_
        refine zv_aald3 (q := Qs (rl v b)) S hAM hH 0 rfl (rl v b) rfl (by omega) (by decide) rfl dX4_compare_150 ?_
        refine lv_iload_n S.1 S.2.1 dX4_compare_151 rfl (lv_at hl 2 rfl) ?_
        refine lv_iload S.1 S.2.1 dX4_compare_152 (lv_at hl 0 rfl) ?_
        refine zv_iast (g := ((uT T (rl v a) (uI (T (rl v a)) (rl v b) (lsS (T (rl v a) (rl v b)) (slF v a b)))) (rl v b))) (z := lsS (T (rl v a) (rl v b)) (slF v a b)) (w2 := [tbW X qT Qs (uT (uT T (rl v a) (uI (T (rl v a)) (rl v b) (lsS (T (rl v a) (rl v b)) (slF v a b)))) (rl v b) (uI ((uT T (rl v a) (uI (T (rl v a)) (rl v b) (lsS (T (rl v a) (rl v b)) (slF v a b)))) (rl v b)) (rl v a) (lsS (T (rl v a) (rl v b)) (slF v a b)))), slW qs q qT, poW q Qp ((ns v : Nat) : Int) ((nr v : Nat) : Int) ((na v : Nat) : Int), aW X (Qp 0) 10 sl, aW X (Qp 1) 8 vo, aW X (Qp 2) 8 ou, aW X (Qp 3) 8 inn, aW X (Qp 4) 8 ac, aW X (Qp 5) 20 ag, aW X (Qp 6) 20 ai, aW X (Qp 7) 20 et, aW X (Qp 8) 20 xt].flatten) S hAM hH hS (1 + (rl v b)) (tb_get (X := X) (qT := qT) (Qs := Qs) (T := uT T (rl v a) (uI (T (rl v a)) (rl v b) (lsS (T (rl v a) (rl v b)) (slF v a b)))) (rest := [slW qs q qT, poW q Qp ((ns v : Nat) : Int) ((nr v : Nat) : Int) ((na v : Nat) : Int), aW X (Qp 0) 10 sl, aW X (Qp 1) 8 vo, aW X (Qp 2) 8 ou, aW X (Qp 3) 8 inn, aW X (Qp 4) 8 ac, aW X (Qp 5) 20 ag, aW X (Qp 6) 20 ai, aW X (Qp 7) 20 et, aW X (Qp 8) 20 xt].flatten) (r := (rl v b)) (by omega)) (rl v a) rfl (by omega) (by decide) (tb_set (X := X) (qT := qT) (Qs := Qs) (T := uT T (rl v a) (uI (T (rl v a)) (rl v b) (lsS (T (rl v a) (rl v b)) (slF v a b)))) (rest := [slW qs q qT, poW q Qp ((ns v : Nat) : Int) ((nr v : Nat) : Int) ((na v : Nat) : Int), aW X (Qp 0) 10 sl, aW X (Qp 1) 8 vo, aW X (Qp 2) 8 ou, aW X (Qp 3) 8 inn, aW X (Qp 4) 8 ac, aW X (Qp 5) 20 ag, aW X (Qp 6) 20 ai, aW X (Qp 7) 20 et, aW X (Qp 8) 20 xt].flatten) (r := (rl v b)) (g := uI ((uT T (rl v a) (uI (T (rl v a)) (rl v b) (lsS (T (rl v a) (rl v b)) (slF v a b)))) (rl v b)) (rl v a) (lsS (T (rl v a) (rl v b)) (slF v a b))) (by omega)) dX4_compare_154 (fun H locs hH hS => ?_)
        have e9 : cpT v a b T = uT (uT T (rl v a) (uI (T (rl v a)) (rl v b) (lsS (T (rl v a) (rl v b)) (slF v a b)))) (rl v b) (uI ((uT T (rl v a) (uI (T (rl v a)) (rl v b) (lsS (T (rl v a) (rl v b)) (slF v a b)))) (rl v b)) (rl v a) (lsS (T (rl v a) (rl v b)) (slF v a b))) := by unfold cpT nxT; rw [if_neg (by omega), if_neg (by omega), uT_n (by omega)]; first | (rw [if_pos (by omega)]; done) | (rw [if_neg (by omega), if_pos (by omega)]; done) | (rw [if_neg (by omega), if_neg (by omega)])
        rw [e9] at hret
        exact hret 155 ls _ _ () dX4_compare_155 trivial hH hS
    · skip
      rw [show cpT v a b T = T from if_pos (by omega)] at hret
      exact hret 42 ls _ _ () dX4_compare_42 trivial hH hS

theorem mX4_measure_2 : Cond.fieldLink RX4 16 "RoleDoublingPlanner$Slacks" "play" "LRoleDoublingPlanner$Play;" ∈ wsX4_measure := List.mem_of_getElem? (i := 2) rfl
theorem nX4_measure_X4 : ∀ w ∈ wsX40, w ∈ wsX4_measure := fun _ h => List.mem_cons_of_mem _ (List.mem_append_left _ (List.mem_append_right _ h))
theorem mX4_measure_3 : Cond.fieldLink RX4 20 "RoleDoublingPlanner$Play" "appearances" "I" ∈ wsX4_measure := List.mem_of_getElem? (i := 3) rfl
theorem nX4_measure_X2 : ∀ w ∈ wsX20, w ∈ wsX4_measure := fun _ h => List.mem_cons_of_mem _ (List.mem_append_right _ h)
theorem mX4_measure_1 : Cond.fieldLink RX4 11 "RoleDoublingPlanner$Slacks" "table" "[[I" ∈ wsX4_measure := List.mem_of_getElem? (i := 1) rfl
set_option maxHeartbeats 4000000 in
set_option maxRecDepth 100000 in
theorem kX4_measure (l : Launch) (X : XT) (qs : Nat) (qT : Nat) (Qs : Nat → Nat) (T : Nat → Nat → Int) (q : Nat) (Qp : Nat → Nat) (v : Nat → Int) (sl : Nat → Int) (vo : Nat → Int) (ou : Nat → Int) (inn : Nat → Int) (ac : Nat → Int) (ag : Nat → Int) (ai : Nat → Int) (et : Nat → Int) (xt : Nat → Int) (hv : okR v) (hP : PA v sl vo ou inn ac ag ai et xt) : Cv l yX4_measure wsX4_measure (rmD 3) X [.ref qs] [tbW X qT Qs T, slW qs q qT, poW q Qp ((ns v : Nat) : Int) ((nr v : Nat) : Int) ((na v : Nat) : Int), aW X (Qp 0) 10 sl, aW X (Qp 1) 8 vo, aW X (Qp 2) 8 ou, aW X (Qp 3) 8 inn, aW X (Qp 4) 8 ac, aW X (Qp 5) 20 ag, aW X (Qp 6) 20 ai, aW X (Qp 7) 20 et, aW X (Qp 8) 20 xt] (fun (T2 : Nat → Nat → Int) => TbOK T2 v) (fun (T2 : Nat → Nat → Int) => [tbW X qT Qs T2, slW qs q qT, poW q Qp ((ns v : Nat) : Int) ((nr v : Nat) : Int) ((na v : Nat) : Int), aW X (Qp 0) 10 sl, aW X (Qp 1) 8 vo, aW X (Qp 2) 8 ou, aW X (Qp 3) 8 inn, aW X (Qp 4) 8 ac, aW X (Qp 5) 20 ag, aW X (Qp 6) 20 ai, aW X (Qp 7) 20 et, aW X (Qp 8) 20 xt]) := by
  refine Cv.ofW (cc := cX4_measure) (maxL := 3) (by decide) rfl (Nat.le_of_ble_eq_true rfl) ?_
  intro p_ e_ s_ m_ below meth c_ A Q_ S hA hAM hH hS hmn hret ls hl
  have hl : lv_has ls 3 [(0, .ref (qs))] := hl
  have hk1 := hv.nr8
  have hk2 := hv.na20
  have hk3 := hv.ns10
  refine lv_iconst (v := iI (((0 : Nat) : Int))) S.1 S.2.1 dX4_measure_0 (by decide) ?_
  refine lv_istore_n (lv' := [(1, .int (iI ((0 : Nat) : Int))), (0, .ref (qs))]) S.1 S.2.1 dX4_measure_1 rfl hl (by decide) rfl (fun ls hl => ?_)
  have lp2 : ∀ (fu_ : Nat) (r : Nat) (T1 : Nat → Nat → Int), 8 - r < fu_ → (r ≤ 8) → (clr r 0 T1) → ∀ (H : Heap) (locs : List Loc), Hold X A [tbW X qT Qs T1, slW qs q qT, poW q Qp ((ns v : Nat) : Int) ((nr v : Nat) : Int) ((na v : Nat) : Int), aW X (Qp 0) 10 sl, aW X (Qp 1) 8 vo, aW X (Qp 2) 8 ou, aW X (Qp 3) 8 inn, aW X (Qp 4) 8 ac, aW X (Qp 5) 20 ag, aW X (Qp 6) 20 ai, aW X (Qp 7) 20 et, aW X (Qp 8) 20 xt].flatten H → va_S A s_.heap H locs → ∀ ls : Array Slot, lv_has ls 3 [(1, .int (iI ((r : Nat) : Int))), (0, .ref (qs))] → W p_ l e_ (rmD 3) s_ m_ (List.toArray [.ref (qs)]) below meth c_ H locs 0 0 Q_ (F0 m_ 2 ls []) := by
    intro fu_
    induction fu_ with
    | zero => intro r T1 hmu hr hc H locs hH hS ls hl; exact absurd hmu (Nat.not_lt_zero _)
    | succ fu_ ih2 => 
      intro r T1 hmu hr hc H locs hH hS ls hl
      refine lv_iload_n S.1 S.2.1 dX4_measure_2 rfl (lv_at hl 0 rfl) ?_
      refine lv_bipush (v := iI (((8 : Nat) : Int))) S.1 S.2.1 dX4_measure_3 (by decide) ?_
      refine zv_icmp_ge (tgt := 39) S dX4_measure_5 (by decide) (by omega) (by decide) (fun c_5 => ?_) (fun c_5 => ?_)
      · skip
        refine lv_iconst (v := iI (((1 : Nat) : Int))) S.1 S.2.1 dX4_measure_39 (by decide) ?_
        refine lv_istore_n (lv' := [(1, .int (iI ((1 : Nat) : Int))), (0, .ref (qs))]) S.1 S.2.1 dX4_measure_40 rfl hl (by decide) rfl (fun ls hl => ?_)
        have lp41 : ∀ (fu_ : Nat) (a : Nat) (T1 : Nat → Nat → Int), na v + 1 - a < fu_ → (1 ≤ a ∧ a ≤ 1 + na v) → (okTb v (DD v a 0) T1) → ∀ (H : Heap) (locs : List Loc), Hold X A [tbW X qT Qs T1, slW qs q qT, poW q Qp ((ns v : Nat) : Int) ((nr v : Nat) : Int) ((na v : Nat) : Int), aW X (Qp 0) 10 sl, aW X (Qp 1) 8 vo, aW X (Qp 2) 8 ou, aW X (Qp 3) 8 inn, aW X (Qp 4) 8 ac, aW X (Qp 5) 20 ag, aW X (Qp 6) 20 ai, aW X (Qp 7) 20 et, aW X (Qp 8) 20 xt].flatten H → va_S A s_.heap H locs → ∀ ls : Array Slot, lv_has ls 3 [(1, .int (iI ((a : Nat) : Int))), (0, .ref (qs))] → W p_ l e_ (rmD 3) s_ m_ (List.toArray [.ref (qs)]) below meth c_ H locs 0 0 Q_ (F0 m_ 41 ls []) := by
          intro fu_
          induction fu_ with
          | zero => intro a T1 hmu ha1 hT H locs hH hS ls hl; exact absurd hmu (Nat.not_lt_zero _)
          | succ fu_ ih41 => 
            intro a T1 hmu ha1 hT H locs hH hS ls hl
            refine lv_iload_n S.1 S.2.1 dX4_measure_41 rfl (lv_at hl 0 rfl) ?_
            refine lv_aload_n S.1 S.2.1 dX4_measure_42 rfl (lv_at hl 1 rfl) ?_
            refine zv_get (v := .ref (q)) S hAM hH nX4_measure_X4 9 rfl rfl 0 (by decide) mX4_measure_2 rfl rfl dX4_measure_43 ?_
            refine zv_get (v := .int (iI ((na v : Nat) : Int))) S hAM hH nX4_measure_X2 10 rfl rfl 2 (by decide) mX4_measure_3 rfl rfl dX4_measure_46 ?_
            refine zv_icmp_ge (tgt := 77) S dX4_measure_49 (by decide) (by omega) (by omega) (fun c_49 => ?_) (fun c_49 => ?_)
            · skip
              exact hret 77 ls _ _ T1 dX4_measure_77 (okTb_end hv hT (by omega)) hH hS
            · skip
              refine lv_iconst (v := iI (((0 : Nat) : Int))) S.1 S.2.1 dX4_measure_52 (by decide) ?_
              refine lv_istore_n (lv' := [(2, .int (iI ((0 : Nat) : Int))), (1, .int (iI ((a : Nat) : Int))), (0, .ref (qs))]) S.1 S.2.1 dX4_measure_53 rfl hl (by decide) rfl (fun ls hl => ?_)
              have lp54 : ∀ (fu_ : Nat) (b : Nat) (T1 : Nat → Nat → Int), a - b < fu_ → (b ≤ a) → (okTb v (DD v a b) T1) → ∀ (H : Heap) (locs : List Loc), Hold X A [tbW X qT Qs T1, slW qs q qT, poW q Qp ((ns v : Nat) : Int) ((nr v : Nat) : Int) ((na v : Nat) : Int), aW X (Qp 0) 10 sl, aW X (Qp 1) 8 vo, aW X (Qp 2) 8 ou, aW X (Qp 3) 8 inn, aW X (Qp 4) 8 ac, aW X (Qp 5) 20 ag, aW X (Qp 6) 20 ai, aW X (Qp 7) 20 et, aW X (Qp 8) 20 xt].flatten H → va_S A s_.heap H locs → ∀ ls : Array Slot, lv_has ls 3 [(2, .int (iI ((b : Nat) : Int))), (1, .int (iI ((a : Nat) : Int))), (0, .ref (qs))] → W p_ l e_ (rmD 3) s_ m_ (List.toArray [.ref (qs)]) below meth c_ H locs 0 0 Q_ (F0 m_ 54 ls []) := by
                intro fu_
                induction fu_ with
                | zero => intro b T1 hmu hb1 hT H locs hH hS ls hl; exact absurd hmu (Nat.not_lt_zero _)
                | succ fu_ ih54 => 
                  intro b T1 hmu hb1 hT H locs hH hS ls hl
                  have ra8 := hv.rl8 a (by omega)
                  have rb8 := hv.rl8 b (by omega)
                  refine lv_iload_n S.1 S.2.1 dX4_measure_54 rfl (lv_at hl 0 rfl) ?_
                  refine lv_iload_n S.1 S.2.1 dX4_measure_55 rfl (lv_at hl 1 rfl) ?_
                  refine zv_icmp_ge (tgt := 71) S dX4_measure_56 (by decide) (by omega) (by omega) (fun c_56 => ?_) (fun c_56 => ?_)
                  · skip
                    refine zv_iinc (z := (((a + 1) : Nat) : Int)) (lv' := [(1, .int (iI (((a + 1) : Nat) : Int))), (2, .int (iI ((b : Nat) : Int))), (0, .ref (qs))]) S dX4_measure_71 hl (k := 1) rfl (by omega) (by decide) rfl (fun ls hl => ?_)
                    refine lv_goto (tgt := 41) S.1 S.2.1 dX4_measure_74 (by decide) ?_
                    exact ih41  ((a + 1)) (T1) (by omega) (by omega) (okTb_out hT (by omega)) _ _ hH hS ls (lv_sub hl [0, 2] rfl)
                  · skip
                    refine lv_aload_n S.1 S.2.1 dX4_measure_59 rfl (lv_at hl 2 rfl) ?_
                    refine lv_iload_n S.1 S.2.1 dX4_measure_60 rfl (lv_at hl 1 rfl) ?_
                    refine lv_iload_n S.1 S.2.1 dX4_measure_61 rfl (lv_at hl 0 rfl) ?_
                    refine zc_Vv (n := 2) (As := [.int (iI ((a : Nat) : Int)), .int (iI ((b : Nat) : Int))]) (rest := []) S hAM hA (kX4_compare l X qs qT Qs T1 q Qp v sl vo ou inn ac ag ai et xt a b hv hP (by omega) (by omega) (fun z => okX_b (hT _ _ (by omega) (by omega) z).2)) rfl gX4_measure_X4_compare  (by decide +kernel) ⟨Nat.le_of_ble_eq_true rfl, Nat.le_of_ble_eq_true rfl⟩ hH hS [0, 1, 2, 3, 4, 5, 6, 7, 8, 9, 10, 11] rfl 12 rfl (List.Perm.refl _) 4 9 rfl rfl rfl hl.1 rfl (Nat.le_of_ble_eq_true rfl) dX4_measure_62 ⟨Nat.le_of_ble_eq_true rfl, Nat.le_of_ble_eq_true rfl⟩ (fun _ H locs hp3 hH hS => ?_)
                    have hH : Hold X A [tbW X qT Qs (cpT v a b T1), slW qs q qT, poW q Qp ((ns v : Nat) : Int) ((nr v : Nat) : Int) ((na v : Nat) : Int), aW X (Qp 0) 10 sl, aW X (Qp 1) 8 vo, aW X (Qp 2) 8 ou, aW X (Qp 3) 8 inn, aW X (Qp 4) 8 ac, aW X (Qp 5) 20 ag, aW X (Qp 6) 20 ai, aW X (Qp 7) 20 et, aW X (Qp 8) 20 xt].flatten H := hH
                    refine zv_iinc (z := (((b + 1) : Nat) : Int)) (lv' := [(2, .int (iI (((b + 1) : Nat) : Int))), (1, .int (iI ((a : Nat) : Int))), (0, .ref (qs))]) S dX4_measure_65 hl (k := 0) rfl (by omega) (by decide) rfl (fun ls hl => ?_)
                    refine lv_goto (tgt := 54) S.1 S.2.1 dX4_measure_68 (by decide) ?_
                    exact ih54  ((b + 1)) (cpT v a b T1) (by omega) (by omega) (okTb_in hv hT (by omega) (by omega)) _ _ hH hS ls (lv_sub hl [0, 1, 2] rfl)
              exact lp54 (a - (0) + 1) (0) (T1) (Nat.lt_succ_self _) (Nat.zero_le _) hT _ _ hH hS ls (lv_sub hl [0, 1, 2] rfl)
        exact lp41 (na v + 1 - (1) + 1) (1) (T1) (Nat.lt_succ_self _) (by omega) (okTb_0 (fun i j hi hj => hc i j hj (by omega))) _ _ hH hS ls (lv_sub hl [0, 1] rfl)
      · skip
        refine lv_iconst (v := iI (((0 : Nat) : Int))) S.1 S.2.1 dX4_measure_8 (by decide) ?_
        refine lv_istore_n (lv' := [(2, .int (iI ((0 : Nat) : Int))), (1, .int (iI ((r : Nat) : Int))), (0, .ref (qs))]) S.1 S.2.1 dX4_measure_9 rfl hl (by decide) rfl (fun ls hl => ?_)
        have lp10 : ∀ (fu_ : Nat) (o : Nat) (T1 : Nat → Nat → Int), 8 - o < fu_ → (o ≤ 8) → (clr r o T1) → ∀ (H : Heap) (locs : List Loc), Hold X A [tbW X qT Qs T1, slW qs q qT, poW q Qp ((ns v : Nat) : Int) ((nr v : Nat) : Int) ((na v : Nat) : Int), aW X (Qp 0) 10 sl, aW X (Qp 1) 8 vo, aW X (Qp 2) 8 ou, aW X (Qp 3) 8 inn, aW X (Qp 4) 8 ac, aW X (Qp 5) 20 ag, aW X (Qp 6) 20 ai, aW X (Qp 7) 20 et, aW X (Qp 8) 20 xt].flatten H → va_S A s_.heap H locs → ∀ ls : Array Slot, lv_has ls 3 [(2, .int (iI ((o : Nat) : Int))), (1, .int (iI ((r : Nat) : Int))), (0, .ref (qs))] → W p_ l e_ (rmD 3) s_ m_ (List.toArray [.ref (qs)]) below meth c_ H locs 0 0 Q_ (F0 m_ 10 ls []) := by
          intro fu_
          induction fu_ with
          | zero => intro o T1 hmu ho hc H locs hH hS ls hl; exact absurd hmu (Nat.not_lt_zero _)
          | succ fu_ ih10 => 
            intro o T1 hmu ho hc H locs hH hS ls hl
            refine lv_iload_n S.1 S.2.1 dX4_measure_10 rfl (lv_at hl 0 rfl) ?_
            refine lv_bipush (v := iI (((8 : Nat) : Int))) S.1 S.2.1 dX4_measure_11 (by decide) ?_
            refine zv_icmp_ge (tgt := 33) S dX4_measure_13 (by decide) (by omega) (by decide) (fun c_13 => ?_) (fun c_13 => ?_)
            · skip
              refine zv_iinc (z := (((r + 1) : Nat) : Int)) (lv' := [(1, .int (iI (((r + 1) : Nat) : Int))), (2, .int (iI ((o : Nat) : Int))), (0, .ref (qs))]) S dX4_measure_33 hl (k := 1) rfl (by omega) (by decide) rfl (fun ls hl => ?_)
              refine lv_goto (tgt := 2) S.1 S.2.1 dX4_measure_36 (by decide) ?_
              exact ih2  ((r + 1)) (T1) (by omega) (by omega) (clr_out hc (by omega)) _ _ hH hS ls (lv_sub hl [0, 2] rfl)
            · skip
              refine lv_aload_n S.1 S.2.1 dX4_measure_16 rfl (lv_at hl 2 rfl) ?_
              refine zv_get (v := .ref (qT)) S hAM hH nX4_measure_X4 9 rfl rfl 1 (by decide) mX4_measure_1 rfl rfl dX4_measure_17 ?_
              refine lv_iload_n S.1 S.2.1 dX4_measure_20 rfl (lv_at hl 1 rfl) ?_
              refine zv_aald3 (q := Qs r) S hAM hH 0 rfl (r) rfl (by omega) (by decide) rfl dX4_measure_21 ?_
              refine lv_iload_n S.1 S.2.1 dX4_measure_22 rfl (lv_at hl 0 rfl) ?_
              refine lv_sipush (v := iI (-1004)) S.1 S.2.1 dX4_measure_23 (by decide) ?_
              refine zv_iast (g := (T1 r)) (z := -1004) (w2 := [tbW X qT Qs (uT T1 r (uI (T1 r) o (-1004))), slW qs q qT, poW q Qp ((ns v : Nat) : Int) ((nr v : Nat) : Int) ((na v : Nat) : Int), aW X (Qp 0) 10 sl, aW X (Qp 1) 8 vo, aW X (Qp 2) 8 ou, aW X (Qp 3) 8 inn, aW X (Qp 4) 8 ac, aW X (Qp 5) 20 ag, aW X (Qp 6) 20 ai, aW X (Qp 7) 20 et, aW X (Qp 8) 20 xt].flatten) S hAM hH hS (1 + r) (tb_get (X := X) (qT := qT) (Qs := Qs) (T := T1) (rest := [slW qs q qT, poW q Qp ((ns v : Nat) : Int) ((nr v : Nat) : Int) ((na v : Nat) : Int), aW X (Qp 0) 10 sl, aW X (Qp 1) 8 vo, aW X (Qp 2) 8 ou, aW X (Qp 3) 8 inn, aW X (Qp 4) 8 ac, aW X (Qp 5) 20 ag, aW X (Qp 6) 20 ai, aW X (Qp 7) 20 et, aW X (Qp 8) 20 xt].flatten) (r := r) (by omega)) (o) rfl (by omega) (by decide) (tb_set (X := X) (qT := qT) (Qs := Qs) (T := T1) (rest := [slW qs q qT, poW q Qp ((ns v : Nat) : Int) ((nr v : Nat) : Int) ((na v : Nat) : Int), aW X (Qp 0) 10 sl, aW X (Qp 1) 8 vo, aW X (Qp 2) 8 ou, aW X (Qp 3) 8 inn, aW X (Qp 4) 8 ac, aW X (Qp 5) 20 ag, aW X (Qp 6) 20 ai, aW X (Qp 7) 20 et, aW X (Qp 8) 20 xt].flatten) (r := r) (g := uI (T1 r) o (-1004)) (by omega)) dX4_measure_26 (fun H locs hH hS => ?_)
              refine zv_iinc (z := (((o + 1) : Nat) : Int)) (lv' := [(2, .int (iI (((o + 1) : Nat) : Int))), (1, .int (iI ((r : Nat) : Int))), (0, .ref (qs))]) S dX4_measure_27 hl (k := 0) rfl (by omega) (by decide) rfl (fun ls hl => ?_)
              refine lv_goto (tgt := 10) S.1 S.2.1 dX4_measure_30 (by decide) ?_
              exact ih10  ((o + 1)) (uT T1 r (uI (T1 r) o (-1004))) (by omega) (by omega) (clr_in hc) _ _ hH hS ls (lv_sub hl [0, 1, 2] rfl)
        exact lp10 (8 - (0) + 1) (0) (T1) (Nat.lt_succ_self _) (Nat.zero_le _) hc _ _ hH hS ls (lv_sub hl [0, 1, 2] rfl)
  exact lp2 (8 - (0) + 1) (0) (T) (Nat.lt_succ_self _) (Nat.zero_le _) (fun i j hj hi => absurd hi (by omega)) _ _ hH hS ls (lv_sub hl [0, 1] rfl)

theorem mX4_reason_1 : Cond.fieldLink RX4 16 "RoleDoublingPlanner$Slacks" "play" "LRoleDoublingPlanner$Play;" ∈ wsX4_reason := List.mem_of_getElem? (i := 1) rfl
theorem nX4_reason_X4 : ∀ w ∈ wsX40, w ∈ wsX4_reason := fun _ h => List.mem_cons_of_mem _ (List.mem_append_left _ (List.mem_append_right _ h))
theorem mX4_reason_2 : Cond.fieldLink RX4 53 "RoleDoublingPlanner$Play" "voice" "[I" ∈ wsX4_reason := List.mem_of_getElem? (i := 2) rfl
theorem nX4_reason_X2 : ∀ w ∈ wsX20, w ∈ wsX4_reason := fun _ h => List.mem_cons_of_mem _ (List.mem_append_right _ h)
theorem mX4_reason_3 : Cond.fieldLink RX4 11 "RoleDoublingPlanner$Slacks" "table" "[[I" ∈ wsX4_reason := List.mem_of_getElem? (i := 3) rfl
set_option maxHeartbeats 4000000 in
set_option maxRecDepth 100000 in
theorem kX4_reason (l : Launch) (X : XT) (qs : Nat) (qT : Nat) (Qs : Nat → Nat) (T : Nat → Nat → Int) (q : Nat) (Qp : Nat → Nat) (v : Nat → Int) (sl : Nat → Int) (vo : Nat → Int) (ou : Nat → Int) (inn : Nat → Int) (ac : Nat → Int) (ag : Nat → Int) (ai : Nat → Int) (et : Nat → Int) (xt : Nat → Int) (r : Nat) (o : Nat) (f : Int) (hv : okR v) (hP : PA v sl vo ou inn ac ag ai et xt) (hT : TbOK T v) (hr : r < nr v) (ho : o < nr v) (hne : r ≠ o) (hf : 0 ≤ f ∧ f ≤ 120) : Ci l yX4_reason wsX4_reason (rmD 1) X [.ref qs, .int (iI ((r : Nat) : Int)), .int (iI ((o : Nat) : Int)), .int (iI (f))] [tbW X qT Qs T, slW qs q qT, poW q Qp ((ns v : Nat) : Int) ((nr v : Nat) : Int) ((na v : Nat) : Int), aW X (Qp 0) 10 sl, aW X (Qp 1) 8 vo, aW X (Qp 2) 8 ou, aW X (Qp 3) 8 inn, aW X (Qp 4) 8 ac, aW X (Qp 5) 20 ag, aW X (Qp 6) 20 ai, aW X (Qp 7) 20 et, aW X (Qp 8) 20 xt] (fun (z : Int) (_ : Unit) => z = ((rsn v r o f : Nat) : Int)) (fun (_ : Unit) => [tbW X qT Qs T, slW qs q qT, poW q Qp ((ns v : Nat) : Int) ((nr v : Nat) : Int) ((na v : Nat) : Int), aW X (Qp 0) 10 sl, aW X (Qp 1) 8 vo, aW X (Qp 2) 8 ou, aW X (Qp 3) 8 inn, aW X (Qp 4) 8 ac, aW X (Qp 5) 20 ag, aW X (Qp 6) 20 ai, aW X (Qp 7) 20 et, aW X (Qp 8) 20 xt]) := by
  refine Ci.ofW (cc := cX4_reason) (maxL := 5) (by decide) rfl (Nat.le_of_ble_eq_true rfl) ?_
  intro p_ e_ s_ m_ below meth c_ A Q_ S hA hAM hH hS hret ls hl
  have hl : lv_has ls 5 [(0, .ref (qs)), (1, .int (iI ((r : Nat) : Int))), (2, .int (iI ((o : Nat) : Int))), (3, .int (iI (f)))] := hl
  have hk1 := hv.nr8
  have hk2 := hv.na20
  have hk3 := hv.ns10
  have htb := tbV_b hv r o
  refine lv_aload_n S.1 S.2.1 dX4_reason_0 rfl (lv_at hl 0 rfl) ?_
  refine zv_get (v := .ref (q)) S hAM hH nX4_reason_X4 9 rfl rfl 0 (by decide) mX4_reason_1 rfl rfl dX4_reason_1 ?_
  refine zv_get (v := .ref (Qp 1)) S hAM hH nX4_reason_X2 10 rfl rfl 4 (by decide) mX4_reason_2 rfl rfl dX4_reason_4 ?_
  refine lv_iload_n S.1 S.2.1 dX4_reason_7 rfl (lv_at hl 1 rfl) ?_
  refine zv_iald S hAM hH 12 rfl (r) rfl (by omega) (by decide) dX4_reason_8 ?_
  refine zv_top (z := vo r) (z2 := v (12 + r)) (hP.2.1 r (by omega)).1 ?_
  refine lv_aload_n S.1 S.2.1 dX4_reason_9 rfl (lv_at hl 0 rfl) ?_
  refine zv_get (v := .ref (q)) S hAM hH nX4_reason_X4 9 rfl rfl 0 (by decide) mX4_reason_1 rfl rfl dX4_reason_10 ?_
  refine zv_get (v := .ref (Qp 1)) S hAM hH nX4_reason_X2 10 rfl rfl 4 (by decide) mX4_reason_2 rfl rfl dX4_reason_13 ?_
  refine lv_iload_n S.1 S.2.1 dX4_reason_16 rfl (lv_at hl 2 rfl) ?_
  refine zv_iald S hAM hH 12 rfl (o) rfl (by omega) (by decide) dX4_reason_17 ?_
  refine zv_top (z := vo o) (z2 := v (12 + o)) (hP.2.1 o (by omega)).1 ?_
  refine zv_icmp_eq (tgt := 23) S dX4_reason_18 (by decide) (hv.inRk _ (by omega)) (hv.inRk _ (by omega)) (fun c_18 => ?_) (fun c_18 => ?_)
  · skip
    refine lv_aload_n S.1 S.2.1 dX4_reason_23 rfl (lv_at hl 0 rfl) ?_
    refine zv_get (v := .ref (qT)) S hAM hH nX4_reason_X4 9 rfl rfl 1 (by decide) mX4_reason_3 rfl rfl dX4_reason_24 ?_
    refine lv_iload_n S.1 S.2.1 dX4_reason_27 rfl (lv_at hl 1 rfl) ?_
    refine zv_aald3 (q := Qs r) S hAM hH 0 rfl (r) rfl (by omega) (by decide) rfl dX4_reason_28 ?_
    refine lv_iload_n S.1 S.2.1 dX4_reason_29 rfl (lv_at hl 2 rfl) ?_
    refine zv_iald (g := T r) S hAM hH (1 + r) (tb_get (X := X) (qT := qT) (Qs := Qs) (T := T) (rest := [slW qs q qT, poW q Qp ((ns v : Nat) : Int) ((nr v : Nat) : Int) ((na v : Nat) : Int), aW X (Qp 0) 10 sl, aW X (Qp 1) 8 vo, aW X (Qp 2) 8 ou, aW X (Qp 3) 8 inn, aW X (Qp 4) 8 ac, aW X (Qp 5) 20 ag, aW X (Qp 6) 20 ai, aW X (Qp 7) 20 et, aW X (Qp 8) 20 xt].flatten) (r := r) (by omega)) (o) rfl (by omega) (by decide) dX4_reason_30 ?_
    refine zv_top (z := T r o) (z2 := tbV v r o) (hT r o (by omega) (by omega) hne) ?_
    refine lv_istore (lv' := [(4, .int (iI (tbV v r o))), (0, .ref (qs)), (1, .int (iI ((r : Nat) : Int))), (2, .int (iI ((o : Nat) : Int))), (3, .int (iI (f)))]) S.1 S.2.1 dX4_reason_31 hl (by decide) rfl (fun ls hl => ?_)
    refine lv_iload S.1 S.2.1 dX4_reason_33 (lv_at hl 0 rfl) ?_
    refine lv_sipush (v := iI (-1002)) S.1 S.2.1 dX4_reason_35 (by decide) ?_
    refine zv_icmp_ne (tgt := 43) S dX4_reason_38 (by decide) (by omega) (by decide) (fun c_38 => ?_) (fun c_38 => ?_)
    · skip
      refine lv_iload S.1 S.2.1 dX4_reason_43 (lv_at hl 0 rfl) ?_
      refine lv_sipush (v := iI (-1004)) S.1 S.2.1 dX4_reason_45 (by decide) ?_
      refine zv_icmp_ne (tgt := 53) S dX4_reason_48 (by decide) (by omega) (by decide) (fun c_48 => ?_) (fun c_48 => ?_)
      · skip
        refine lv_iload S.1 S.2.1 dX4_reason_53 (lv_at hl 0 rfl) ?_
        refine lv_iload_n S.1 S.2.1 dX4_reason_55 rfl (lv_at hl 4 rfl) ?_
        refine zv_iadd (z := (tbV v r o + f)) S dX4_reason_56 rfl ?_
        refine zv_if_ge (tgt := 64) S dX4_reason_57 (by decide) (by omega) (fun c_57 => ?_) (fun c_57 => ?_)
        · skip
          refine lv_iconst (v := iI (((0 : Nat) : Int))) S.1 S.2.1 dX4_reason_64 (by decide) ?_
          exact hret 65 ls _ _ (((0 : Nat) : Int)) () dX4_reason_65 rfl (by rw [rsn_tb hv hne hf.1 hf.2]; (repeat' split) <;> first | rfl | (exfalso; omega)) hH hS
        · skip
          refine lv_iconst (v := iI (((3 : Nat) : Int))) S.1 S.2.1 dX4_reason_60 (by decide) ?_
          refine lv_goto (tgt := 65) S.1 S.2.1 dX4_reason_61 (by decide) ?_
          exact hret 65 ls _ _ (((3 : Nat) : Int)) () dX4_reason_65 rfl (by rw [rsn_tb hv hne hf.1 hf.2]; (repeat' split) <;> first | rfl | (exfalso; omega)) hH hS
      · skip
        refine lv_iconst (v := iI (((0 : Nat) : Int))) S.1 S.2.1 dX4_reason_51 (by decide) ?_
        exact hret 52 ls _ _ (((0 : Nat) : Int)) () dX4_reason_52 rfl (by rw [rsn_tb hv hne hf.1 hf.2]; (repeat' split) <;> first | rfl | (exfalso; omega)) hH hS
    · skip
      refine lv_iconst (v := iI (((2 : Nat) : Int))) S.1 S.2.1 dX4_reason_41 (by decide) ?_
      exact hret 42 ls _ _ (((2 : Nat) : Int)) () dX4_reason_42 rfl (by rw [rsn_tb hv hne hf.1 hf.2]; (repeat' split) <;> first | rfl | (exfalso; omega)) hH hS
  · skip
    refine lv_iconst (v := iI (((1 : Nat) : Int))) S.1 S.2.1 dX4_reason_21 (by decide) ?_
    exact hret 22 ls _ _ (((1 : Nat) : Int)) () dX4_reason_22 rfl (by rw [rsn_tb hv hne hf.1 hf.2]; (repeat' split) <;> first | rfl | (exfalso; omega)) hH hS
