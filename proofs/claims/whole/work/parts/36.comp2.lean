theorem mX2_copyFrom_1 : Cond.fieldLink RX2 39 "RoleDoublingPlanner$Play" "scenes" "I" ∈ wsX2_copyFrom := List.mem_of_getElem? (i := 1) rfl
theorem nX2_copyFrom_X2 : ∀ w ∈ wsX20, w ∈ wsX2_copyFrom := fun _ h => List.mem_cons_of_mem _ (List.mem_append_right _ h)
theorem mX2_copyFrom_2 : Cond.fieldLink RX2 43 "RoleDoublingPlanner$Play" "roles" "I" ∈ wsX2_copyFrom := List.mem_of_getElem? (i := 2) rfl
theorem mX2_copyFrom_3 : Cond.fieldLink RX2 46 "RoleDoublingPlanner$Play" "appearances" "I" ∈ wsX2_copyFrom := List.mem_of_getElem? (i := 3) rfl
theorem mX2_copyFrom_4 : Cond.fieldLink RX2 9 "RoleDoublingPlanner$Play" "sceneLength" "[I" ∈ wsX2_copyFrom := List.mem_of_getElem? (i := 4) rfl
theorem mX2_copyFrom_5 : Cond.methodLink RX2 49 arraycopyName ∈ wsX2_copyFrom := List.mem_of_getElem? (i := 5) rfl
theorem mX2_copyFrom_6 : Cond.native arraycopyName ∈ wsX2_copyFrom := List.mem_of_getElem? (i := 6) rfl
theorem mX2_copyFrom_7 : Cond.static arraycopyName ∈ wsX2_copyFrom := List.mem_of_getElem? (i := 7) rfl
theorem mX2_copyFrom_8 : Cond.initialized "java/lang/System" ∈ wsX2_copyFrom := List.mem_of_getElem? (i := 8) rfl
theorem mX2_copyFrom_9 : Cond.fieldLink RX2 15 "RoleDoublingPlanner$Play" "voice" "[I" ∈ wsX2_copyFrom := List.mem_of_getElem? (i := 9) rfl
theorem mX2_copyFrom_10 : Cond.fieldLink RX2 18 "RoleDoublingPlanner$Play" "out" "[I" ∈ wsX2_copyFrom := List.mem_of_getElem? (i := 10) rfl
theorem mX2_copyFrom_11 : Cond.fieldLink RX2 21 "RoleDoublingPlanner$Play" "in" "[I" ∈ wsX2_copyFrom := List.mem_of_getElem? (i := 11) rfl
theorem mX2_copyFrom_12 : Cond.fieldLink RX2 24 "RoleDoublingPlanner$Play" "actor" "[I" ∈ wsX2_copyFrom := List.mem_of_getElem? (i := 12) rfl
theorem mX2_copyFrom_13 : Cond.fieldLink RX2 27 "RoleDoublingPlanner$Play" "appearing" "[I" ∈ wsX2_copyFrom := List.mem_of_getElem? (i := 13) rfl
theorem mX2_copyFrom_14 : Cond.fieldLink RX2 30 "RoleDoublingPlanner$Play" "appearingIn" "[I" ∈ wsX2_copyFrom := List.mem_of_getElem? (i := 14) rfl
theorem mX2_copyFrom_15 : Cond.fieldLink RX2 33 "RoleDoublingPlanner$Play" "enterTime" "[I" ∈ wsX2_copyFrom := List.mem_of_getElem? (i := 15) rfl
theorem mX2_copyFrom_16 : Cond.fieldLink RX2 36 "RoleDoublingPlanner$Play" "exitTime" "[I" ∈ wsX2_copyFrom := List.mem_of_getElem? (i := 16) rfl
set_option maxHeartbeats 4000000 in
set_option maxRecDepth 100000 in
theorem kX2_copyFrom (l : Launch) (X : XT) (q : Nat) (Qp : Nat → Nat) (sc : Int) (ro : Int) (ap : Int) (sl : Nat → Int) (vo : Nat → Int) (ou : Nat → Int) (inn : Nat → Int) (ac : Nat → Int) (ag : Nat → Int) (ai : Nat → Int) (et : Nat → Int) (xt : Nat → Int) (q2 : Nat) (Qo : Nat → Nat) (tc : Int) (tr : Int) (ta : Int) (osl : Nat → Int) (ovo : Nat → Int) (oou : Nat → Int) (oinn : Nat → Int) (oac : Nat → Int) (oag : Nat → Int) (oai : Nat → Int) (oet : Nat → Int) (oxt : Nat → Int)  : Cv l yX2_copyFrom wsX2_copyFrom (rmD 1) X [.ref q, .ref (q2)] [poW q Qp sc ro ap, aW X (Qp 0) 10 sl, aW X (Qp 1) 8 vo, aW X (Qp 2) 8 ou, aW X (Qp 3) 8 inn, aW X (Qp 4) 8 ac, aW X (Qp 5) 20 ag, aW X (Qp 6) 20 ai, aW X (Qp 7) 20 et, aW X (Qp 8) 20 xt, poW q2 Qo tc tr ta, aW X (Qo 0) 10 osl, aW X (Qo 1) 8 ovo, aW X (Qo 2) 8 oou, aW X (Qo 3) 8 oinn, aW X (Qo 4) 8 oac, aW X (Qo 5) 20 oag, aW X (Qo 6) 20 oai, aW X (Qo 7) 20 oet, aW X (Qo 8) 20 oxt] (fun (_ : Unit) => True) (fun (_ : Unit) => [poW q Qp tc tr ta, aW X (Qp 0) 10 osl, aW X (Qp 1) 8 ovo, aW X (Qp 2) 8 oou, aW X (Qp 3) 8 oinn, aW X (Qp 4) 8 oac, aW X (Qp 5) 20 oag, aW X (Qp 6) 20 oai, aW X (Qp 7) 20 oet, aW X (Qp 8) 20 oxt, poW q2 Qo tc tr ta, aW X (Qo 0) 10 osl, aW X (Qo 1) 8 ovo, aW X (Qo 2) 8 oou, aW X (Qo 3) 8 oinn, aW X (Qo 4) 8 oac, aW X (Qo 5) 20 oag, aW X (Qo 6) 20 oai, aW X (Qo 7) 20 oet, aW X (Qo 8) 20 oxt]) := by
  refine Cv.ofW (cc := cX2_copyFrom) (maxL := 2) (by decide) rfl (Nat.le_of_ble_eq_true rfl) ?_
  intro p_ e_ s_ m_ below meth c_ A Q_ S hA hAM hH hS hmn hret ls hl
  have hl : lv_has ls 2 [(0, .ref (q)), (1, .ref (q2))] := hl
  refine lv_aload_n S.1 S.2.1 dX2_copyFrom_0 rfl (lv_at hl 0 rfl) ?_
  refine lv_aload_n S.1 S.2.1 dX2_copyFrom_1 rfl (lv_at hl 1 rfl) ?_
  refine zv_get (v := .int (iI (tc))) S hAM hH nX2_copyFrom_X2 10 rfl rfl 0 (by decide) mX2_copyFrom_1 rfl rfl dX2_copyFrom_2 ?_
  refine zv_put (v := .int (iI (tc))) (w2 := [poW q Qp tc ro ap, aW X (Qp 0) 10 sl, aW X (Qp 1) 8 vo, aW X (Qp 2) 8 ou, aW X (Qp 3) 8 inn, aW X (Qp 4) 8 ac, aW X (Qp 5) 20 ag, aW X (Qp 6) 20 ai, aW X (Qp 7) 20 et, aW X (Qp 8) 20 xt, poW q2 Qo tc tr ta, aW X (Qo 0) 10 osl, aW X (Qo 1) 8 ovo, aW X (Qo 2) 8 oou, aW X (Qo 3) 8 oinn, aW X (Qo 4) 8 oac, aW X (Qo 5) 20 oag, aW X (Qo 6) 20 oai, aW X (Qo 7) 20 oet, aW X (Qo 8) 20 oxt].flatten) S hAM hH hS nX2_copyFrom_X2 tyX2 tyX2_ok nmX2 0 rfl rfl 0 (by decide) mX2_copyFrom_1 rfl rfl rfl rfl (Nat.le_of_ble_eq_true rfl) rfl dX2_copyFrom_5 (fun H locs hH hS => ?_)
  refine lv_aload_n S.1 S.2.1 dX2_copyFrom_8 rfl (lv_at hl 0 rfl) ?_
  refine lv_aload_n S.1 S.2.1 dX2_copyFrom_9 rfl (lv_at hl 1 rfl) ?_
  refine zv_get (v := .int (iI (tr))) S hAM hH nX2_copyFrom_X2 10 rfl rfl 1 (by decide) mX2_copyFrom_2 rfl rfl dX2_copyFrom_10 ?_
  refine zv_put (v := .int (iI (tr))) (w2 := [poW q Qp tc tr ap, aW X (Qp 0) 10 sl, aW X (Qp 1) 8 vo, aW X (Qp 2) 8 ou, aW X (Qp 3) 8 inn, aW X (Qp 4) 8 ac, aW X (Qp 5) 20 ag, aW X (Qp 6) 20 ai, aW X (Qp 7) 20 et, aW X (Qp 8) 20 xt, poW q2 Qo tc tr ta, aW X (Qo 0) 10 osl, aW X (Qo 1) 8 ovo, aW X (Qo 2) 8 oou, aW X (Qo 3) 8 oinn, aW X (Qo 4) 8 oac, aW X (Qo 5) 20 oag, aW X (Qo 6) 20 oai, aW X (Qo 7) 20 oet, aW X (Qo 8) 20 oxt].flatten) S hAM hH hS nX2_copyFrom_X2 tyX2 tyX2_ok nmX2 0 rfl rfl 1 (by decide) mX2_copyFrom_2 rfl rfl rfl rfl (Nat.le_of_ble_eq_true rfl) rfl dX2_copyFrom_13 (fun H locs hH hS => ?_)
  refine lv_aload_n S.1 S.2.1 dX2_copyFrom_16 rfl (lv_at hl 0 rfl) ?_
  refine lv_aload_n S.1 S.2.1 dX2_copyFrom_17 rfl (lv_at hl 1 rfl) ?_
  refine zv_get (v := .int (iI (ta))) S hAM hH nX2_copyFrom_X2 10 rfl rfl 2 (by decide) mX2_copyFrom_3 rfl rfl dX2_copyFrom_18 ?_
  refine zv_put (v := .int (iI (ta))) (w2 := [poW q Qp tc tr ta, aW X (Qp 0) 10 sl, aW X (Qp 1) 8 vo, aW X (Qp 2) 8 ou, aW X (Qp 3) 8 inn, aW X (Qp 4) 8 ac, aW X (Qp 5) 20 ag, aW X (Qp 6) 20 ai, aW X (Qp 7) 20 et, aW X (Qp 8) 20 xt, poW q2 Qo tc tr ta, aW X (Qo 0) 10 osl, aW X (Qo 1) 8 ovo, aW X (Qo 2) 8 oou, aW X (Qo 3) 8 oinn, aW X (Qo 4) 8 oac, aW X (Qo 5) 20 oag, aW X (Qo 6) 20 oai, aW X (Qo 7) 20 oet, aW X (Qo 8) 20 oxt].flatten) S hAM hH hS nX2_copyFrom_X2 tyX2 tyX2_ok nmX2 0 rfl rfl 2 (by decide) mX2_copyFrom_3 rfl rfl rfl rfl (Nat.le_of_ble_eq_true rfl) rfl dX2_copyFrom_21 (fun H locs hH hS => ?_)
  refine lv_aload_n S.1 S.2.1 dX2_copyFrom_24 rfl (lv_at hl 1 rfl) ?_
  refine zv_get (v := .ref (Qo 0)) S hAM hH nX2_copyFrom_X2 10 rfl rfl 3 (by decide) mX2_copyFrom_4 rfl rfl dX2_copyFrom_25 ?_
  refine lv_iconst (v := iI (((0 : Nat) : Int))) S.1 S.2.1 dX2_copyFrom_28 (by decide) ?_
  refine lv_aload_n S.1 S.2.1 dX2_copyFrom_29 rfl (lv_at hl 0 rfl) ?_
  refine zv_get (v := .ref (Qp 0)) S hAM hH nX2_copyFrom_X2 0 rfl rfl 3 (by decide) mX2_copyFrom_4 rfl rfl dX2_copyFrom_30 ?_
  refine lv_iconst (v := iI (((0 : Nat) : Int))) S.1 S.2.1 dX2_copyFrom_33 (by decide) ?_
  refine lv_bipush (v := iI (((10 : Nat) : Int))) S.1 S.2.1 dX2_copyFrom_34 (by decide) ?_
  refine zv_copy (w2 := [poW q Qp tc tr ta, aW X (Qp 0) 10 osl, aW X (Qp 1) 8 vo, aW X (Qp 2) 8 ou, aW X (Qp 3) 8 inn, aW X (Qp 4) 8 ac, aW X (Qp 5) 20 ag, aW X (Qp 6) 20 ai, aW X (Qp 7) 20 et, aW X (Qp 8) 20 xt, poW q2 Qo tc tr ta, aW X (Qo 0) 10 osl, aW X (Qo 1) 8 ovo, aW X (Qo 2) 8 oou, aW X (Qo 3) 8 oinn, aW X (Qo 4) 8 oac, aW X (Qo 5) 20 oag, aW X (Qo 6) 20 oai, aW X (Qo 7) 20 oet, aW X (Qo 8) 20 oxt].flatten) S hAM hH hS hl.1 mX2_copyFrom_5 mX2_copyFrom_6 mX2_copyFrom_7 mX2_copyFrom_8 11 1 rfl rfl (by decide) rfl (Nat.le_of_ble_eq_true rfl) (Nat.le_of_ble_eq_true rfl) dX2_copyFrom_36 (fun H locs hH hS => ?_)
  refine lv_aload_n S.1 S.2.1 dX2_copyFrom_39 rfl (lv_at hl 1 rfl) ?_
  refine zv_get (v := .ref (Qo 1)) S hAM hH nX2_copyFrom_X2 10 rfl rfl 4 (by decide) mX2_copyFrom_9 rfl rfl dX2_copyFrom_40 ?_
  refine lv_iconst (v := iI (((0 : Nat) : Int))) S.1 S.2.1 dX2_copyFrom_43 (by decide) ?_
  refine lv_aload_n S.1 S.2.1 dX2_copyFrom_44 rfl (lv_at hl 0 rfl) ?_
  refine zv_get (v := .ref (Qp 1)) S hAM hH nX2_copyFrom_X2 0 rfl rfl 4 (by decide) mX2_copyFrom_9 rfl rfl dX2_copyFrom_45 ?_
  refine lv_iconst (v := iI (((0 : Nat) : Int))) S.1 S.2.1 dX2_copyFrom_48 (by decide) ?_
  refine lv_bipush (v := iI (((8 : Nat) : Int))) S.1 S.2.1 dX2_copyFrom_49 (by decide) ?_
  refine zv_copy (w2 := [poW q Qp tc tr ta, aW X (Qp 0) 10 osl, aW X (Qp 1) 8 ovo, aW X (Qp 2) 8 ou, aW X (Qp 3) 8 inn, aW X (Qp 4) 8 ac, aW X (Qp 5) 20 ag, aW X (Qp 6) 20 ai, aW X (Qp 7) 20 et, aW X (Qp 8) 20 xt, poW q2 Qo tc tr ta, aW X (Qo 0) 10 osl, aW X (Qo 1) 8 ovo, aW X (Qo 2) 8 oou, aW X (Qo 3) 8 oinn, aW X (Qo 4) 8 oac, aW X (Qo 5) 20 oag, aW X (Qo 6) 20 oai, aW X (Qo 7) 20 oet, aW X (Qo 8) 20 oxt].flatten) S hAM hH hS hl.1 mX2_copyFrom_5 mX2_copyFrom_6 mX2_copyFrom_7 mX2_copyFrom_8 12 2 rfl rfl (by decide) rfl (Nat.le_of_ble_eq_true rfl) (Nat.le_of_ble_eq_true rfl) dX2_copyFrom_51 (fun H locs hH hS => ?_)
  refine lv_aload_n S.1 S.2.1 dX2_copyFrom_54 rfl (lv_at hl 1 rfl) ?_
  refine zv_get (v := .ref (Qo 2)) S hAM hH nX2_copyFrom_X2 10 rfl rfl 5 (by decide) mX2_copyFrom_10 rfl rfl dX2_copyFrom_55 ?_
  refine lv_iconst (v := iI (((0 : Nat) : Int))) S.1 S.2.1 dX2_copyFrom_58 (by decide) ?_
  refine lv_aload_n S.1 S.2.1 dX2_copyFrom_59 rfl (lv_at hl 0 rfl) ?_
  refine zv_get (v := .ref (Qp 2)) S hAM hH nX2_copyFrom_X2 0 rfl rfl 5 (by decide) mX2_copyFrom_10 rfl rfl dX2_copyFrom_60 ?_
  refine lv_iconst (v := iI (((0 : Nat) : Int))) S.1 S.2.1 dX2_copyFrom_63 (by decide) ?_
  refine lv_bipush (v := iI (((8 : Nat) : Int))) S.1 S.2.1 dX2_copyFrom_64 (by decide) ?_
  refine zv_copy (w2 := [poW q Qp tc tr ta, aW X (Qp 0) 10 osl, aW X (Qp 1) 8 ovo, aW X (Qp 2) 8 oou, aW X (Qp 3) 8 inn, aW X (Qp 4) 8 ac, aW X (Qp 5) 20 ag, aW X (Qp 6) 20 ai, aW X (Qp 7) 20 et, aW X (Qp 8) 20 xt, poW q2 Qo tc tr ta, aW X (Qo 0) 10 osl, aW X (Qo 1) 8 ovo, aW X (Qo 2) 8 oou, aW X (Qo 3) 8 oinn, aW X (Qo 4) 8 oac, aW X (Qo 5) 20 oag, aW X (Qo 6) 20 oai, aW X (Qo 7) 20 oet, aW X (Qo 8) 20 oxt].flatten) S hAM hH hS hl.1 mX2_copyFrom_5 mX2_copyFrom_6 mX2_copyFrom_7 mX2_copyFrom_8 13 3 rfl rfl (by decide) rfl (Nat.le_of_ble_eq_true rfl) (Nat.le_of_ble_eq_true rfl) dX2_copyFrom_66 (fun H locs hH hS => ?_)
  refine lv_aload_n S.1 S.2.1 dX2_copyFrom_69 rfl (lv_at hl 1 rfl) ?_
  refine zv_get (v := .ref (Qo 3)) S hAM hH nX2_copyFrom_X2 10 rfl rfl 6 (by decide) mX2_copyFrom_11 rfl rfl dX2_copyFrom_70 ?_
  refine lv_iconst (v := iI (((0 : Nat) : Int))) S.1 S.2.1 dX2_copyFrom_73 (by decide) ?_
  refine lv_aload_n S.1 S.2.1 dX2_copyFrom_74 rfl (lv_at hl 0 rfl) ?_
  refine zv_get (v := .ref (Qp 3)) S hAM hH nX2_copyFrom_X2 0 rfl rfl 6 (by decide) mX2_copyFrom_11 rfl rfl dX2_copyFrom_75 ?_
  refine lv_iconst (v := iI (((0 : Nat) : Int))) S.1 S.2.1 dX2_copyFrom_78 (by decide) ?_
  refine lv_bipush (v := iI (((8 : Nat) : Int))) S.1 S.2.1 dX2_copyFrom_79 (by decide) ?_
  refine zv_copy (w2 := [poW q Qp tc tr ta, aW X (Qp 0) 10 osl, aW X (Qp 1) 8 ovo, aW X (Qp 2) 8 oou, aW X (Qp 3) 8 oinn, aW X (Qp 4) 8 ac, aW X (Qp 5) 20 ag, aW X (Qp 6) 20 ai, aW X (Qp 7) 20 et, aW X (Qp 8) 20 xt, poW q2 Qo tc tr ta, aW X (Qo 0) 10 osl, aW X (Qo 1) 8 ovo, aW X (Qo 2) 8 oou, aW X (Qo 3) 8 oinn, aW X (Qo 4) 8 oac, aW X (Qo 5) 20 oag, aW X (Qo 6) 20 oai, aW X (Qo 7) 20 oet, aW X (Qo 8) 20 oxt].flatten) S hAM hH hS hl.1 mX2_copyFrom_5 mX2_copyFrom_6 mX2_copyFrom_7 mX2_copyFrom_8 14 4 rfl rfl (by decide) rfl (Nat.le_of_ble_eq_true rfl) (Nat.le_of_ble_eq_true rfl) dX2_copyFrom_81 (fun H locs hH hS => ?_)
  refine lv_aload_n S.1 S.2.1 dX2_copyFrom_84 rfl (lv_at hl 1 rfl) ?_
  refine zv_get (v := .ref (Qo 4)) S hAM hH nX2_copyFrom_X2 10 rfl rfl 7 (by decide) mX2_copyFrom_12 rfl rfl dX2_copyFrom_85 ?_
  refine lv_iconst (v := iI (((0 : Nat) : Int))) S.1 S.2.1 dX2_copyFrom_88 (by decide) ?_
  refine lv_aload_n S.1 S.2.1 dX2_copyFrom_89 rfl (lv_at hl 0 rfl) ?_
  refine zv_get (v := .ref (Qp 4)) S hAM hH nX2_copyFrom_X2 0 rfl rfl 7 (by decide) mX2_copyFrom_12 rfl rfl dX2_copyFrom_90 ?_
  refine lv_iconst (v := iI (((0 : Nat) : Int))) S.1 S.2.1 dX2_copyFrom_93 (by decide) ?_
  refine lv_bipush (v := iI (((8 : Nat) : Int))) S.1 S.2.1 dX2_copyFrom_94 (by decide) ?_
  refine zv_copy (w2 := [poW q Qp tc tr ta, aW X (Qp 0) 10 osl, aW X (Qp 1) 8 ovo, aW X (Qp 2) 8 oou, aW X (Qp 3) 8 oinn, aW X (Qp 4) 8 oac, aW X (Qp 5) 20 ag, aW X (Qp 6) 20 ai, aW X (Qp 7) 20 et, aW X (Qp 8) 20 xt, poW q2 Qo tc tr ta, aW X (Qo 0) 10 osl, aW X (Qo 1) 8 ovo, aW X (Qo 2) 8 oou, aW X (Qo 3) 8 oinn, aW X (Qo 4) 8 oac, aW X (Qo 5) 20 oag, aW X (Qo 6) 20 oai, aW X (Qo 7) 20 oet, aW X (Qo 8) 20 oxt].flatten) S hAM hH hS hl.1 mX2_copyFrom_5 mX2_copyFrom_6 mX2_copyFrom_7 mX2_copyFrom_8 15 5 rfl rfl (by decide) rfl (Nat.le_of_ble_eq_true rfl) (Nat.le_of_ble_eq_true rfl) dX2_copyFrom_96 (fun H locs hH hS => ?_)
  refine lv_aload_n S.1 S.2.1 dX2_copyFrom_99 rfl (lv_at hl 1 rfl) ?_
  refine zv_get (v := .ref (Qo 5)) S hAM hH nX2_copyFrom_X2 10 rfl rfl 8 (by decide) mX2_copyFrom_13 rfl rfl dX2_copyFrom_100 ?_
  refine lv_iconst (v := iI (((0 : Nat) : Int))) S.1 S.2.1 dX2_copyFrom_103 (by decide) ?_
  refine lv_aload_n S.1 S.2.1 dX2_copyFrom_104 rfl (lv_at hl 0 rfl) ?_
  refine zv_get (v := .ref (Qp 5)) S hAM hH nX2_copyFrom_X2 0 rfl rfl 8 (by decide) mX2_copyFrom_13 rfl rfl dX2_copyFrom_105 ?_
  refine lv_iconst (v := iI (((0 : Nat) : Int))) S.1 S.2.1 dX2_copyFrom_108 (by decide) ?_
  refine lv_bipush (v := iI (((20 : Nat) : Int))) S.1 S.2.1 dX2_copyFrom_109 (by decide) ?_
  refine zv_copy (w2 := [poW q Qp tc tr ta, aW X (Qp 0) 10 osl, aW X (Qp 1) 8 ovo, aW X (Qp 2) 8 oou, aW X (Qp 3) 8 oinn, aW X (Qp 4) 8 oac, aW X (Qp 5) 20 oag, aW X (Qp 6) 20 ai, aW X (Qp 7) 20 et, aW X (Qp 8) 20 xt, poW q2 Qo tc tr ta, aW X (Qo 0) 10 osl, aW X (Qo 1) 8 ovo, aW X (Qo 2) 8 oou, aW X (Qo 3) 8 oinn, aW X (Qo 4) 8 oac, aW X (Qo 5) 20 oag, aW X (Qo 6) 20 oai, aW X (Qo 7) 20 oet, aW X (Qo 8) 20 oxt].flatten) S hAM hH hS hl.1 mX2_copyFrom_5 mX2_copyFrom_6 mX2_copyFrom_7 mX2_copyFrom_8 16 6 rfl rfl (by decide) rfl (Nat.le_of_ble_eq_true rfl) (Nat.le_of_ble_eq_true rfl) dX2_copyFrom_111 (fun H locs hH hS => ?_)
  refine lv_aload_n S.1 S.2.1 dX2_copyFrom_114 rfl (lv_at hl 1 rfl) ?_
  refine zv_get (v := .ref (Qo 6)) S hAM hH nX2_copyFrom_X2 10 rfl rfl 9 (by decide) mX2_copyFrom_14 rfl rfl dX2_copyFrom_115 ?_
  refine lv_iconst (v := iI (((0 : Nat) : Int))) S.1 S.2.1 dX2_copyFrom_118 (by decide) ?_
  refine lv_aload_n S.1 S.2.1 dX2_copyFrom_119 rfl (lv_at hl 0 rfl) ?_
  refine zv_get (v := .ref (Qp 6)) S hAM hH nX2_copyFrom_X2 0 rfl rfl 9 (by decide) mX2_copyFrom_14 rfl rfl dX2_copyFrom_120 ?_
  refine lv_iconst (v := iI (((0 : Nat) : Int))) S.1 S.2.1 dX2_copyFrom_123 (by decide) ?_
  refine lv_bipush (v := iI (((20 : Nat) : Int))) S.1 S.2.1 dX2_copyFrom_124 (by decide) ?_
  refine zv_copy (w2 := [poW q Qp tc tr ta, aW X (Qp 0) 10 osl, aW X (Qp 1) 8 ovo, aW X (Qp 2) 8 oou, aW X (Qp 3) 8 oinn, aW X (Qp 4) 8 oac, aW X (Qp 5) 20 oag, aW X (Qp 6) 20 oai, aW X (Qp 7) 20 et, aW X (Qp 8) 20 xt, poW q2 Qo tc tr ta, aW X (Qo 0) 10 osl, aW X (Qo 1) 8 ovo, aW X (Qo 2) 8 oou, aW X (Qo 3) 8 oinn, aW X (Qo 4) 8 oac, aW X (Qo 5) 20 oag, aW X (Qo 6) 20 oai, aW X (Qo 7) 20 oet, aW X (Qo 8) 20 oxt].flatten) S hAM hH hS hl.1 mX2_copyFrom_5 mX2_copyFrom_6 mX2_copyFrom_7 mX2_copyFrom_8 17 7 rfl rfl (by decide) rfl (Nat.le_of_ble_eq_true rfl) (Nat.le_of_ble_eq_true rfl) dX2_copyFrom_126 (fun H locs hH hS => ?_)
  refine lv_aload_n S.1 S.2.1 dX2_copyFrom_129 rfl (lv_at hl 1 rfl) ?_
  refine zv_get (v := .ref (Qo 7)) S hAM hH nX2_copyFrom_X2 10 rfl rfl 10 (by decide) mX2_copyFrom_15 rfl rfl dX2_copyFrom_130 ?_
  refine lv_iconst (v := iI (((0 : Nat) : Int))) S.1 S.2.1 dX2_copyFrom_133 (by decide) ?_
  refine lv_aload_n S.1 S.2.1 dX2_copyFrom_134 rfl (lv_at hl 0 rfl) ?_
  refine zv_get (v := .ref (Qp 7)) S hAM hH nX2_copyFrom_X2 0 rfl rfl 10 (by decide) mX2_copyFrom_15 rfl rfl dX2_copyFrom_135 ?_
  refine lv_iconst (v := iI (((0 : Nat) : Int))) S.1 S.2.1 dX2_copyFrom_138 (by decide) ?_
  refine lv_bipush (v := iI (((20 : Nat) : Int))) S.1 S.2.1 dX2_copyFrom_139 (by decide) ?_
  refine zv_copy (w2 := [poW q Qp tc tr ta, aW X (Qp 0) 10 osl, aW X (Qp 1) 8 ovo, aW X (Qp 2) 8 oou, aW X (Qp 3) 8 oinn, aW X (Qp 4) 8 oac, aW X (Qp 5) 20 oag, aW X (Qp 6) 20 oai, aW X (Qp 7) 20 oet, aW X (Qp 8) 20 xt, poW q2 Qo tc tr ta, aW X (Qo 0) 10 osl, aW X (Qo 1) 8 ovo, aW X (Qo 2) 8 oou, aW X (Qo 3) 8 oinn, aW X (Qo 4) 8 oac, aW X (Qo 5) 20 oag, aW X (Qo 6) 20 oai, aW X (Qo 7) 20 oet, aW X (Qo 8) 20 oxt].flatten) S hAM hH hS hl.1 mX2_copyFrom_5 mX2_copyFrom_6 mX2_copyFrom_7 mX2_copyFrom_8 18 8 rfl rfl (by decide) rfl (Nat.le_of_ble_eq_true rfl) (Nat.le_of_ble_eq_true rfl) dX2_copyFrom_141 (fun H locs hH hS => ?_)
  refine lv_aload_n S.1 S.2.1 dX2_copyFrom_144 rfl (lv_at hl 1 rfl) ?_
  refine zv_get (v := .ref (Qo 8)) S hAM hH nX2_copyFrom_X2 10 rfl rfl 11 (by decide) mX2_copyFrom_16 rfl rfl dX2_copyFrom_145 ?_
  refine lv_iconst (v := iI (((0 : Nat) : Int))) S.1 S.2.1 dX2_copyFrom_148 (by decide) ?_
  refine lv_aload_n S.1 S.2.1 dX2_copyFrom_149 rfl (lv_at hl 0 rfl) ?_
  refine zv_get (v := .ref (Qp 8)) S hAM hH nX2_copyFrom_X2 0 rfl rfl 11 (by decide) mX2_copyFrom_16 rfl rfl dX2_copyFrom_150 ?_
  refine lv_iconst (v := iI (((0 : Nat) : Int))) S.1 S.2.1 dX2_copyFrom_153 (by decide) ?_
  refine lv_bipush (v := iI (((20 : Nat) : Int))) S.1 S.2.1 dX2_copyFrom_154 (by decide) ?_
  refine zv_copy (w2 := [poW q Qp tc tr ta, aW X (Qp 0) 10 osl, aW X (Qp 1) 8 ovo, aW X (Qp 2) 8 oou, aW X (Qp 3) 8 oinn, aW X (Qp 4) 8 oac, aW X (Qp 5) 20 oag, aW X (Qp 6) 20 oai, aW X (Qp 7) 20 oet, aW X (Qp 8) 20 oxt, poW q2 Qo tc tr ta, aW X (Qo 0) 10 osl, aW X (Qo 1) 8 ovo, aW X (Qo 2) 8 oou, aW X (Qo 3) 8 oinn, aW X (Qo 4) 8 oac, aW X (Qo 5) 20 oag, aW X (Qo 6) 20 oai, aW X (Qo 7) 20 oet, aW X (Qo 8) 20 oxt].flatten) S hAM hH hS hl.1 mX2_copyFrom_5 mX2_copyFrom_6 mX2_copyFrom_7 mX2_copyFrom_8 19 9 rfl rfl (by decide) rfl (Nat.le_of_ble_eq_true rfl) (Nat.le_of_ble_eq_true rfl) dX2_copyFrom_156 (fun H locs hH hS => ?_)
  exact hret 159 ls _ _ () dX2_copyFrom_159 trivial hH hS

theorem mX2_dropAppearance_1 : Cond.fieldLink RX2 46 "RoleDoublingPlanner$Play" "appearances" "I" ∈ wsX2_dropAppearance := List.mem_of_getElem? (i := 1) rfl
theorem nX2_dropAppearance_X2 : ∀ w ∈ wsX20, w ∈ wsX2_dropAppearance := fun _ h => List.mem_cons_of_mem _ (List.mem_append_right _ h)
theorem mX2_dropAppearance_2 : Cond.fieldLink RX2 27 "RoleDoublingPlanner$Play" "appearing" "[I" ∈ wsX2_dropAppearance := List.mem_of_getElem? (i := 2) rfl
theorem mX2_dropAppearance_3 : Cond.fieldLink RX2 30 "RoleDoublingPlanner$Play" "appearingIn" "[I" ∈ wsX2_dropAppearance := List.mem_of_getElem? (i := 3) rfl
theorem mX2_dropAppearance_4 : Cond.fieldLink RX2 33 "RoleDoublingPlanner$Play" "enterTime" "[I" ∈ wsX2_dropAppearance := List.mem_of_getElem? (i := 4) rfl
theorem mX2_dropAppearance_5 : Cond.fieldLink RX2 36 "RoleDoublingPlanner$Play" "exitTime" "[I" ∈ wsX2_dropAppearance := List.mem_of_getElem? (i := 5) rfl
set_option maxHeartbeats 4000000 in
set_option maxRecDepth 100000 in
theorem kX2_dropAppearance (l : Launch) (X : XT) (q : Nat) (Qp : Nat → Nat) (v : Nat → Int) (sl : Nat → Int) (vo : Nat → Int) (ou : Nat → Int) (inn : Nat → Int) (ac : Nat → Int) (ag : Nat → Int) (ai : Nat → Int) (et : Nat → Int) (xt : Nat → Int) (b : Nat) (hv : okR v) (hP : PA v sl vo ou inn ac ag ai et xt) (hb : b < na v) : Cv l yX2_dropAppearance wsX2_dropAppearance (rmD 1) X [.ref q, .int (iI ((b : Nat) : Int))] [poW q Qp ((ns v : Nat) : Int) ((nr v : Nat) : Int) ((na v : Nat) : Int), aW X (Qp 0) 10 sl, aW X (Qp 1) 8 vo, aW X (Qp 2) 8 ou, aW X (Qp 3) 8 inn, aW X (Qp 4) 8 ac, aW X (Qp 5) 20 ag, aW X (Qp 6) 20 ai, aW X (Qp 7) 20 et, aW X (Qp 8) 20 xt] (fun (u : (Nat → Int) × (Nat → Int) × (Nat → Int) × (Nat → Int)) => match u with | (ag2, ai2, et2, xt2) => PA (remApp v b) sl vo ou inn ac ag2 ai2 et2 xt2) (fun (u : (Nat → Int) × (Nat → Int) × (Nat → Int) × (Nat → Int)) => match u with | (ag2, ai2, et2, xt2) => [poW q Qp ((ns (remApp v b) : Nat) : Int) ((nr (remApp v b) : Nat) : Int) ((na (remApp v b) : Nat) : Int), aW X (Qp 0) 10 sl, aW X (Qp 1) 8 vo, aW X (Qp 2) 8 ou, aW X (Qp 3) 8 inn, aW X (Qp 4) 8 ac, aW X (Qp 5) 20 ag2, aW X (Qp 6) 20 ai2, aW X (Qp 7) 20 et2, aW X (Qp 8) 20 xt2]) := by
  refine Cv.ofW (cc := cX2_dropAppearance) (maxL := 3) (by decide) rfl (Nat.le_of_ble_eq_true rfl) ?_
  intro p_ e_ s_ m_ below meth c_ A Q_ S hA hAM hH hS hmn hret ls hl
  have hl : lv_has ls 3 [(0, .ref (q)), (1, .int (iI ((b : Nat) : Int)))] := hl
  have hk1 := hv.nr8
  have hk2 := hv.na20
  have hk3 := hv.ns10
  refine lv_aload_n S.1 S.2.1 dX2_dropAppearance_0 rfl (lv_at hl 0 rfl) ?_
  refine lv_dup S.1 S.2.1 dX2_dropAppearance_1 rfl ?_
  refine zv_get (v := .int (iI ((na v : Nat) : Int))) S hAM hH nX2_dropAppearance_X2 0 rfl rfl 2 (by decide) mX2_dropAppearance_1 rfl rfl dX2_dropAppearance_2 ?_
  refine lv_iconst (v := iI (((1 : Nat) : Int))) S.1 S.2.1 dX2_dropAppearance_5 (by decide) ?_
  refine zv_isub (z := (((na v - 1) : Nat) : Int)) S dX2_dropAppearance_6 (by omega) ?_
  refine zv_put (v := .int (iI (((na v - 1) : Nat) : Int))) (w2 := [poW q Qp ((ns v : Nat) : Int) ((nr v : Nat) : Int) (((na v - 1) : Nat) : Int), aW X (Qp 0) 10 sl, aW X (Qp 1) 8 vo, aW X (Qp 2) 8 ou, aW X (Qp 3) 8 inn, aW X (Qp 4) 8 ac, aW X (Qp 5) 20 ag, aW X (Qp 6) 20 ai, aW X (Qp 7) 20 et, aW X (Qp 8) 20 xt].flatten) S hAM hH hS nX2_dropAppearance_X2 tyX2 tyX2_ok nmX2 0 rfl rfl 2 (by decide) mX2_dropAppearance_1 rfl rfl rfl rfl (Nat.le_of_ble_eq_true rfl) rfl dX2_dropAppearance_7 (fun H locs hH hS => ?_)
  refine lv_iload_n S.1 S.2.1 dX2_dropAppearance_10 rfl (lv_at hl 1 rfl) ?_
  refine lv_istore_n (lv' := [(2, .int (iI ((b : Nat) : Int))), (0, .ref (q)), (1, .int (iI ((b : Nat) : Int)))]) S.1 S.2.1 dX2_dropAppearance_11 rfl hl (by decide) rfl (fun ls hl => ?_)
  have lp12 : ∀ (fu_ : Nat) (a : Nat) (ag1 : Nat → Int) (ai1 : Nat → Int) (et1 : Nat → Int) (xt1 : Nat → Int), na v - a < fu_ → (b ≤ a ∧ a ≤ na v - 1) → (shJ b a ag ag1 ∧ shJ b a ai ai1 ∧ shJ b a et et1 ∧ shJ b a xt xt1) → ∀ (H : Heap) (locs : List Loc), Hold X A [poW q Qp ((ns v : Nat) : Int) ((nr v : Nat) : Int) (((na v - 1) : Nat) : Int), aW X (Qp 0) 10 sl, aW X (Qp 1) 8 vo, aW X (Qp 2) 8 ou, aW X (Qp 3) 8 inn, aW X (Qp 4) 8 ac, aW X (Qp 5) 20 ag1, aW X (Qp 6) 20 ai1, aW X (Qp 7) 20 et1, aW X (Qp 8) 20 xt1].flatten H → va_S A s_.heap H locs → ∀ ls : Array Slot, lv_has ls 3 [(2, .int (iI ((a : Nat) : Int))), (0, .ref (q)), (1, .int (iI ((b : Nat) : Int)))] → W p_ l e_ (rmD 1) s_ m_ (List.toArray [.ref (q), .int (iI ((b : Nat) : Int))]) below meth c_ H locs 0 0 Q_ (F0 m_ 12 ls []) := by
    intro fu_
    induction fu_ with
    | zero => intro a ag1 ai1 et1 xt1 hmu hi hin H locs hH hS ls hl; exact absurd hmu (Nat.not_lt_zero _)
    | succ fu_ ih12 => 
      intro a ag1 ai1 et1 xt1 hmu hi hin H locs hH hS ls hl
      refine lv_iload_n S.1 S.2.1 dX2_dropAppearance_12 rfl (lv_at hl 0 rfl) ?_
      refine lv_aload_n S.1 S.2.1 dX2_dropAppearance_13 rfl (lv_at hl 1 rfl) ?_
      refine zv_get (v := .int (iI (((na v - 1) : Nat) : Int))) S hAM hH nX2_dropAppearance_X2 0 rfl rfl 2 (by decide) mX2_dropAppearance_1 rfl rfl dX2_dropAppearance_14 ?_
      refine zv_icmp_ge (tgt := 82) S dX2_dropAppearance_17 (by decide) (by omega) (by omega) (fun c_17 => ?_) (fun c_17 => ?_)
      · skip
        obtain rfl : a = na v - 1 := by omega
        rw [ns_remApp v b, nr_remApp v b, na_remApp v b] at hret
        exact hret 82 ls _ _ (ag1, ai1, et1, xt1) dX2_dropAppearance_82 (PA_rem hv hP hb hin.1 hin.2.1 hin.2.2.1 hin.2.2.2) hH hS
      · skip
        refine lv_aload_n S.1 S.2.1 dX2_dropAppearance_20 rfl (lv_at hl 1 rfl) ?_
        refine zv_get (v := .ref (Qp 5)) S hAM hH nX2_dropAppearance_X2 0 rfl rfl 8 (by decide) mX2_dropAppearance_2 rfl rfl dX2_dropAppearance_21 ?_
        refine lv_iload_n S.1 S.2.1 dX2_dropAppearance_24 rfl (lv_at hl 0 rfl) ?_
        refine lv_aload_n S.1 S.2.1 dX2_dropAppearance_25 rfl (lv_at hl 1 rfl) ?_
        refine zv_get (v := .ref (Qp 5)) S hAM hH nX2_dropAppearance_X2 0 rfl rfl 8 (by decide) mX2_dropAppearance_2 rfl rfl dX2_dropAppearance_26 ?_
        refine lv_iload_n S.1 S.2.1 dX2_dropAppearance_29 rfl (lv_at hl 0 rfl) ?_
        refine lv_iconst (v := iI (((1 : Nat) : Int))) S.1 S.2.1 dX2_dropAppearance_30 (by decide) ?_
        refine zv_iadd (z := (((a + 1) : Nat) : Int)) S dX2_dropAppearance_31 (by omega) ?_
        refine zv_iald S hAM hH 6 rfl ((a + 1)) rfl (by omega) (by decide) dX2_dropAppearance_32 ?_
        refine zv_iast (z := ag1 (a + 1)) (w2 := [poW q Qp ((ns v : Nat) : Int) ((nr v : Nat) : Int) (((na v - 1) : Nat) : Int), aW X (Qp 0) 10 sl, aW X (Qp 1) 8 vo, aW X (Qp 2) 8 ou, aW X (Qp 3) 8 inn, aW X (Qp 4) 8 ac, aW X (Qp 5) 20 (uI ag1 a (ag1 (a + 1))), aW X (Qp 6) 20 ai1, aW X (Qp 7) 20 et1, aW X (Qp 8) 20 xt1].flatten) S hAM hH hS 6 rfl (a) rfl (by omega) (by decide) rfl dX2_dropAppearance_33 (fun H locs hH hS => ?_)
        refine lv_aload_n S.1 S.2.1 dX2_dropAppearance_34 rfl (lv_at hl 1 rfl) ?_
        refine zv_get (v := .ref (Qp 6)) S hAM hH nX2_dropAppearance_X2 0 rfl rfl 9 (by decide) mX2_dropAppearance_3 rfl rfl dX2_dropAppearance_35 ?_
        refine lv_iload_n S.1 S.2.1 dX2_dropAppearance_38 rfl (lv_at hl 0 rfl) ?_
        refine lv_aload_n S.1 S.2.1 dX2_dropAppearance_39 rfl (lv_at hl 1 rfl) ?_
        refine zv_get (v := .ref (Qp 6)) S hAM hH nX2_dropAppearance_X2 0 rfl rfl 9 (by decide) mX2_dropAppearance_3 rfl rfl dX2_dropAppearance_40 ?_
        refine lv_iload_n S.1 S.2.1 dX2_dropAppearance_43 rfl (lv_at hl 0 rfl) ?_
        refine lv_iconst (v := iI (((1 : Nat) : Int))) S.1 S.2.1 dX2_dropAppearance_44 (by decide) ?_
        refine zv_iadd (z := (((a + 1) : Nat) : Int)) S dX2_dropAppearance_45 (by omega) ?_
        refine zv_iald S hAM hH 7 rfl ((a + 1)) rfl (by omega) (by decide) dX2_dropAppearance_46 ?_
        refine zv_iast (z := ai1 (a + 1)) (w2 := [poW q Qp ((ns v : Nat) : Int) ((nr v : Nat) : Int) (((na v - 1) : Nat) : Int), aW X (Qp 0) 10 sl, aW X (Qp 1) 8 vo, aW X (Qp 2) 8 ou, aW X (Qp 3) 8 inn, aW X (Qp 4) 8 ac, aW X (Qp 5) 20 (uI ag1 a (ag1 (a + 1))), aW X (Qp 6) 20 (uI ai1 a (ai1 (a + 1))), aW X (Qp 7) 20 et1, aW X (Qp 8) 20 xt1].flatten) S hAM hH hS 7 rfl (a) rfl (by omega) (by decide) rfl dX2_dropAppearance_47 (fun H locs hH hS => ?_)
        refine lv_aload_n S.1 S.2.1 dX2_dropAppearance_48 rfl (lv_at hl 1 rfl) ?_
        refine zv_get (v := .ref (Qp 7)) S hAM hH nX2_dropAppearance_X2 0 rfl rfl 10 (by decide) mX2_dropAppearance_4 rfl rfl dX2_dropAppearance_49 ?_
        refine lv_iload_n S.1 S.2.1 dX2_dropAppearance_52 rfl (lv_at hl 0 rfl) ?_
        refine lv_aload_n S.1 S.2.1 dX2_dropAppearance_53 rfl (lv_at hl 1 rfl) ?_
        refine zv_get (v := .ref (Qp 7)) S hAM hH nX2_dropAppearance_X2 0 rfl rfl 10 (by decide) mX2_dropAppearance_4 rfl rfl dX2_dropAppearance_54 ?_
        refine lv_iload_n S.1 S.2.1 dX2_dropAppearance_57 rfl (lv_at hl 0 rfl) ?_
        refine lv_iconst (v := iI (((1 : Nat) : Int))) S.1 S.2.1 dX2_dropAppearance_58 (by decide) ?_
        refine zv_iadd (z := (((a + 1) : Nat) : Int)) S dX2_dropAppearance_59 (by omega) ?_
        refine zv_iald S hAM hH 8 rfl ((a + 1)) rfl (by omega) (by decide) dX2_dropAppearance_60 ?_
        refine zv_iast (z := et1 (a + 1)) (w2 := [poW q Qp ((ns v : Nat) : Int) ((nr v : Nat) : Int) (((na v - 1) : Nat) : Int), aW X (Qp 0) 10 sl, aW X (Qp 1) 8 vo, aW X (Qp 2) 8 ou, aW X (Qp 3) 8 inn, aW X (Qp 4) 8 ac, aW X (Qp 5) 20 (uI ag1 a (ag1 (a + 1))), aW X (Qp 6) 20 (uI ai1 a (ai1 (a + 1))), aW X (Qp 7) 20 (uI et1 a (et1 (a + 1))), aW X (Qp 8) 20 xt1].flatten) S hAM hH hS 8 rfl (a) rfl (by omega) (by decide) rfl dX2_dropAppearance_61 (fun H locs hH hS => ?_)
        refine lv_aload_n S.1 S.2.1 dX2_dropAppearance_62 rfl (lv_at hl 1 rfl) ?_
        refine zv_get (v := .ref (Qp 8)) S hAM hH nX2_dropAppearance_X2 0 rfl rfl 11 (by decide) mX2_dropAppearance_5 rfl rfl dX2_dropAppearance_63 ?_
        refine lv_iload_n S.1 S.2.1 dX2_dropAppearance_66 rfl (lv_at hl 0 rfl) ?_
        refine lv_aload_n S.1 S.2.1 dX2_dropAppearance_67 rfl (lv_at hl 1 rfl) ?_
        refine zv_get (v := .ref (Qp 8)) S hAM hH nX2_dropAppearance_X2 0 rfl rfl 11 (by decide) mX2_dropAppearance_5 rfl rfl dX2_dropAppearance_68 ?_
        refine lv_iload_n S.1 S.2.1 dX2_dropAppearance_71 rfl (lv_at hl 0 rfl) ?_
        refine lv_iconst (v := iI (((1 : Nat) : Int))) S.1 S.2.1 dX2_dropAppearance_72 (by decide) ?_
        refine zv_iadd (z := (((a + 1) : Nat) : Int)) S dX2_dropAppearance_73 (by omega) ?_
        refine zv_iald S hAM hH 9 rfl ((a + 1)) rfl (by omega) (by decide) dX2_dropAppearance_74 ?_
        refine zv_iast (z := xt1 (a + 1)) (w2 := [poW q Qp ((ns v : Nat) : Int) ((nr v : Nat) : Int) (((na v - 1) : Nat) : Int), aW X (Qp 0) 10 sl, aW X (Qp 1) 8 vo, aW X (Qp 2) 8 ou, aW X (Qp 3) 8 inn, aW X (Qp 4) 8 ac, aW X (Qp 5) 20 (uI ag1 a (ag1 (a + 1))), aW X (Qp 6) 20 (uI ai1 a (ai1 (a + 1))), aW X (Qp 7) 20 (uI et1 a (et1 (a + 1))), aW X (Qp 8) 20 (uI xt1 a (xt1 (a + 1)))].flatten) S hAM hH hS 9 rfl (a) rfl (by omega) (by decide) rfl dX2_dropAppearance_75 (fun H locs hH hS => ?_)
        refine zv_iinc (z := (((a + 1) : Nat) : Int)) (lv' := [(2, .int (iI (((a + 1) : Nat) : Int))), (0, .ref (q)), (1, .int (iI ((b : Nat) : Int)))]) S dX2_dropAppearance_76 hl (k := 0) rfl (by omega) (by decide) rfl (fun ls hl => ?_)
        refine lv_goto (tgt := 12) S.1 S.2.1 dX2_dropAppearance_79 (by decide) ?_
        exact ih12  ((a + 1)) (uI ag1 a (ag1 (a + 1))) (uI ai1 a (ai1 (a + 1))) (uI et1 a (et1 (a + 1))) (uI xt1 a (xt1 (a + 1))) (by omega) (by omega) ⟨shJ_s hi.1 hin.1, shJ_s hi.1 hin.2.1, shJ_s hi.1 hin.2.2.1, shJ_s hi.1 hin.2.2.2⟩ _ _ hH hS ls (lv_sub hl [0, 1, 2] rfl)
  exact lp12 (na v - (b) + 1) (b) (ag) (ai) (et) (xt) (Nat.lt_succ_self _) (by omega) ⟨shJ_0 _ _, shJ_0 _ _, shJ_0 _ _, shJ_0 _ _⟩ _ _ hH hS ls (lv_sub hl [0, 1, 2] rfl)
