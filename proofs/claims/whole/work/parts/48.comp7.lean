theorem mX1_forgetOldest_1 : Cond.fieldLink RX1 11 "RoleDoublingPlanner$History" "past" "[LRoleDoublingPlanner$Play;" ∈ wsX1_forgetOldest := List.mem_of_getElem? (i := 1) rfl
theorem nX1_forgetOldest_X1 : ∀ w ∈ wsX10, w ∈ wsX1_forgetOldest := fun _ h => List.mem_cons_of_mem _ (List.mem_append_right _ h)
theorem mX1_forgetOldest_2 : Cond.fieldLink RX1 18 "RoleDoublingPlanner$History" "kept" "I" ∈ wsX1_forgetOldest := List.mem_of_getElem? (i := 2) rfl
set_option maxHeartbeats 4000000 in
set_option maxRecDepth 100000 in
theorem kX1_forgetOldest (l : Launch) (X : XT) (qh : Nat) (qa : Nat) (P : Nat → Nat) (PQ : Nat → Nat → Nat) (D : Nat → PlD) (k : Int)  : Cv l yX1_forgetOldest wsX1_forgetOldest (rmD 1) X [.ref qh] [hiW qh qa k, pfW X qa (fun i => some (P i)), plW X (P 0) (PQ 0) (D 0), plW X (P 1) (PQ 1) (D 1), plW X (P 2) (PQ 2) (D 2), plW X (P 3) (PQ 3) (D 3), plW X (P 4) (PQ 4) (D 4)] (fun (_ : Unit) => True) (fun (_ : Unit) => [hiW qh qa ((4 : Nat) : Int), pfW X qa (fun i => some ((rot P) i)), plW X ((rot P) 0) ((rot PQ) 0) ((rot D) 0), plW X ((rot P) 1) ((rot PQ) 1) ((rot D) 1), plW X ((rot P) 2) ((rot PQ) 2) ((rot D) 2), plW X ((rot P) 3) ((rot PQ) 3) ((rot D) 3), plW X ((rot P) 4) ((rot PQ) 4) ((rot D) 4)]) := by
  refine Cv.ofW (cc := cX1_forgetOldest) (maxL := 3) (by decide) rfl (Nat.le_of_ble_eq_true rfl) ?_
  intro p_ e_ s_ m_ below meth c_ A Q_ S hA hAM hH hS hmn hret ls hl
  have hl : lv_has ls 3 [(0, .ref (qh))] := hl
  refine lv_aload_n S.1 S.2.1 dX1_forgetOldest_0 rfl (lv_at hl 0 rfl) ?_
  refine zv_get (v := .ref (qa)) S hAM hH nX1_forgetOldest_X1 0 rfl rfl 1 (by decide) mX1_forgetOldest_1 rfl rfl dX1_forgetOldest_1 ?_
  refine lv_iconst (v := iI (((0 : Nat) : Int))) S.1 S.2.1 dX1_forgetOldest_4 (by decide) ?_
  refine zv_aald2 (q := P 0) S hAM hH 1 rfl (0) rfl (by decide) (by decide) rfl dX1_forgetOldest_5 ?_
  refine lv_astore_n (lv' := [(1, .ref (P 0)), (0, .ref (qh))]) S.1 S.2.1 dX1_forgetOldest_6 rfl hl (by decide) rfl (fun ls hl => ?_)
  refine lv_iconst (v := iI (((1 : Nat) : Int))) S.1 S.2.1 dX1_forgetOldest_7 (by decide) ?_
  refine lv_istore_n (lv' := [(2, .int (iI ((1 : Nat) : Int))), (1, .ref (P 0)), (0, .ref (qh))]) S.1 S.2.1 dX1_forgetOldest_8 rfl hl (by decide) rfl (fun ls hl => ?_)
  refine lv_iload_n S.1 S.2.1 dX1_forgetOldest_9 rfl (lv_at hl 0 rfl) ?_
  refine lv_iconst (v := iI (((5 : Nat) : Int))) S.1 S.2.1 dX1_forgetOldest_10 (by decide) ?_
  refine zv_icmp_ge (tgt := 34) S dX1_forgetOldest_11 (by decide) (by decide) (by decide) (fun c_11 => ?_) (fun c_11 => ?_)
  · exact (show False by omega).elim
  · skip
    refine lv_aload_n S.1 S.2.1 dX1_forgetOldest_14 rfl (lv_at hl 2 rfl) ?_
    refine zv_get (v := .ref (qa)) S hAM hH nX1_forgetOldest_X1 0 rfl rfl 1 (by decide) mX1_forgetOldest_1 rfl rfl dX1_forgetOldest_15 ?_
    refine lv_iload_n S.1 S.2.1 dX1_forgetOldest_18 rfl (lv_at hl 0 rfl) ?_
    refine lv_iconst (v := iI (((1 : Nat) : Int))) S.1 S.2.1 dX1_forgetOldest_19 (by decide) ?_
    refine zv_isub (z := ((0 : Nat) : Int)) S dX1_forgetOldest_20 (by decide) ?_
    refine lv_aload_n S.1 S.2.1 dX1_forgetOldest_21 rfl (lv_at hl 2 rfl) ?_
    refine zv_get (v := .ref (qa)) S hAM hH nX1_forgetOldest_X1 0 rfl rfl 1 (by decide) mX1_forgetOldest_1 rfl rfl dX1_forgetOldest_22 ?_
    refine lv_iload_n S.1 S.2.1 dX1_forgetOldest_25 rfl (lv_at hl 0 rfl) ?_
    refine zv_aald2 (q := P 1) S hAM hH 1 rfl (1) rfl (by decide) (by decide) rfl dX1_forgetOldest_26 ?_
    refine zv_aast2 (w2 := [hiW qh qa k, pfW X qa (va_up (fun i => some (P i)) 0 (some (P 1))), plW X (P 0) (PQ 0) (D 0), plW X (P 1) (PQ 1) (D 1), plW X (P 2) (PQ 2) (D 2), plW X (P 3) (PQ 3) (D 3), plW X (P 4) (PQ 4) (D 4)].flatten) S hAM hH hS 1 rfl (qk := 12) rfl (0) rfl (by decide) (by decide) rfl dX1_forgetOldest_27 (fun H locs hH hS => ?_)
    refine zv_iinc (z := ((2 : Nat) : Int)) (lv' := [(2, .int (iI ((2 : Nat) : Int))), (1, .ref (P 0)), (0, .ref (qh))]) S dX1_forgetOldest_28 hl (k := 0) rfl (by decide) (by decide) rfl (fun ls hl => ?_)
    refine lv_goto (tgt := 9) S.1 S.2.1 dX1_forgetOldest_31 (by decide) ?_
    refine lv_iload_n S.1 S.2.1 dX1_forgetOldest_9 rfl (lv_at hl 0 rfl) ?_
    refine lv_iconst (v := iI (((5 : Nat) : Int))) S.1 S.2.1 dX1_forgetOldest_10 (by decide) ?_
    refine zv_icmp_ge (tgt := 34) S dX1_forgetOldest_11 (by decide) (by decide) (by decide) (fun c_11 => ?_) (fun c_11 => ?_)
    · exact (show False by omega).elim
    · skip
      refine lv_aload_n S.1 S.2.1 dX1_forgetOldest_14 rfl (lv_at hl 2 rfl) ?_
      refine zv_get (v := .ref (qa)) S hAM hH nX1_forgetOldest_X1 0 rfl rfl 1 (by decide) mX1_forgetOldest_1 rfl rfl dX1_forgetOldest_15 ?_
      refine lv_iload_n S.1 S.2.1 dX1_forgetOldest_18 rfl (lv_at hl 0 rfl) ?_
      refine lv_iconst (v := iI (((1 : Nat) : Int))) S.1 S.2.1 dX1_forgetOldest_19 (by decide) ?_
      refine zv_isub (z := ((1 : Nat) : Int)) S dX1_forgetOldest_20 (by decide) ?_
      refine lv_aload_n S.1 S.2.1 dX1_forgetOldest_21 rfl (lv_at hl 2 rfl) ?_
      refine zv_get (v := .ref (qa)) S hAM hH nX1_forgetOldest_X1 0 rfl rfl 1 (by decide) mX1_forgetOldest_1 rfl rfl dX1_forgetOldest_22 ?_
      refine lv_iload_n S.1 S.2.1 dX1_forgetOldest_25 rfl (lv_at hl 0 rfl) ?_
      refine zv_aald2 (q := P 2) S hAM hH 1 rfl (2) rfl (by decide) (by decide) rfl dX1_forgetOldest_26 ?_
      refine zv_aast2 (w2 := [hiW qh qa k, pfW X qa (va_up (va_up (fun i => some (P i)) 0 (some (P 1))) 1 (some (P 2))), plW X (P 0) (PQ 0) (D 0), plW X (P 1) (PQ 1) (D 1), plW X (P 2) (PQ 2) (D 2), plW X (P 3) (PQ 3) (D 3), plW X (P 4) (PQ 4) (D 4)].flatten) S hAM hH hS 1 rfl (qk := 22) rfl (1) rfl (by decide) (by decide) rfl dX1_forgetOldest_27 (fun H locs hH hS => ?_)
      refine zv_iinc (z := ((3 : Nat) : Int)) (lv' := [(2, .int (iI ((3 : Nat) : Int))), (1, .ref (P 0)), (0, .ref (qh))]) S dX1_forgetOldest_28 hl (k := 0) rfl (by decide) (by decide) rfl (fun ls hl => ?_)
      refine lv_goto (tgt := 9) S.1 S.2.1 dX1_forgetOldest_31 (by decide) ?_
      refine lv_iload_n S.1 S.2.1 dX1_forgetOldest_9 rfl (lv_at hl 0 rfl) ?_
      refine lv_iconst (v := iI (((5 : Nat) : Int))) S.1 S.2.1 dX1_forgetOldest_10 (by decide) ?_
      refine zv_icmp_ge (tgt := 34) S dX1_forgetOldest_11 (by decide) (by decide) (by decide) (fun c_11 => ?_) (fun c_11 => ?_)
      · exact (show False by omega).elim
      · skip
        refine lv_aload_n S.1 S.2.1 dX1_forgetOldest_14 rfl (lv_at hl 2 rfl) ?_
        refine zv_get (v := .ref (qa)) S hAM hH nX1_forgetOldest_X1 0 rfl rfl 1 (by decide) mX1_forgetOldest_1 rfl rfl dX1_forgetOldest_15 ?_
        refine lv_iload_n S.1 S.2.1 dX1_forgetOldest_18 rfl (lv_at hl 0 rfl) ?_
        refine lv_iconst (v := iI (((1 : Nat) : Int))) S.1 S.2.1 dX1_forgetOldest_19 (by decide) ?_
        refine zv_isub (z := ((2 : Nat) : Int)) S dX1_forgetOldest_20 (by decide) ?_
        refine lv_aload_n S.1 S.2.1 dX1_forgetOldest_21 rfl (lv_at hl 2 rfl) ?_
        refine zv_get (v := .ref (qa)) S hAM hH nX1_forgetOldest_X1 0 rfl rfl 1 (by decide) mX1_forgetOldest_1 rfl rfl dX1_forgetOldest_22 ?_
        refine lv_iload_n S.1 S.2.1 dX1_forgetOldest_25 rfl (lv_at hl 0 rfl) ?_
        refine zv_aald2 (q := P 3) S hAM hH 1 rfl (3) rfl (by decide) (by decide) rfl dX1_forgetOldest_26 ?_
        refine zv_aast2 (w2 := [hiW qh qa k, pfW X qa (va_up (va_up (va_up (fun i => some (P i)) 0 (some (P 1))) 1 (some (P 2))) 2 (some (P 3))), plW X (P 0) (PQ 0) (D 0), plW X (P 1) (PQ 1) (D 1), plW X (P 2) (PQ 2) (D 2), plW X (P 3) (PQ 3) (D 3), plW X (P 4) (PQ 4) (D 4)].flatten) S hAM hH hS 1 rfl (qk := 32) rfl (2) rfl (by decide) (by decide) rfl dX1_forgetOldest_27 (fun H locs hH hS => ?_)
        refine zv_iinc (z := ((4 : Nat) : Int)) (lv' := [(2, .int (iI ((4 : Nat) : Int))), (1, .ref (P 0)), (0, .ref (qh))]) S dX1_forgetOldest_28 hl (k := 0) rfl (by decide) (by decide) rfl (fun ls hl => ?_)
        refine lv_goto (tgt := 9) S.1 S.2.1 dX1_forgetOldest_31 (by decide) ?_
        refine lv_iload_n S.1 S.2.1 dX1_forgetOldest_9 rfl (lv_at hl 0 rfl) ?_
        refine lv_iconst (v := iI (((5 : Nat) : Int))) S.1 S.2.1 dX1_forgetOldest_10 (by decide) ?_
        refine zv_icmp_ge (tgt := 34) S dX1_forgetOldest_11 (by decide) (by decide) (by decide) (fun c_11 => ?_) (fun c_11 => ?_)
        · exact (show False by omega).elim
        · skip
          refine lv_aload_n S.1 S.2.1 dX1_forgetOldest_14 rfl (lv_at hl 2 rfl) ?_
          refine zv_get (v := .ref (qa)) S hAM hH nX1_forgetOldest_X1 0 rfl rfl 1 (by decide) mX1_forgetOldest_1 rfl rfl dX1_forgetOldest_15 ?_
          refine lv_iload_n S.1 S.2.1 dX1_forgetOldest_18 rfl (lv_at hl 0 rfl) ?_
          refine lv_iconst (v := iI (((1 : Nat) : Int))) S.1 S.2.1 dX1_forgetOldest_19 (by decide) ?_
          refine zv_isub (z := ((3 : Nat) : Int)) S dX1_forgetOldest_20 (by decide) ?_
          refine lv_aload_n S.1 S.2.1 dX1_forgetOldest_21 rfl (lv_at hl 2 rfl) ?_
          refine zv_get (v := .ref (qa)) S hAM hH nX1_forgetOldest_X1 0 rfl rfl 1 (by decide) mX1_forgetOldest_1 rfl rfl dX1_forgetOldest_22 ?_
          refine lv_iload_n S.1 S.2.1 dX1_forgetOldest_25 rfl (lv_at hl 0 rfl) ?_
          refine zv_aald2 (q := P 4) S hAM hH 1 rfl (4) rfl (by decide) (by decide) rfl dX1_forgetOldest_26 ?_
          refine zv_aast2 (w2 := [hiW qh qa k, pfW X qa (va_up (va_up (va_up (va_up (fun i => some (P i)) 0 (some (P 1))) 1 (some (P 2))) 2 (some (P 3))) 3 (some (P 4))), plW X (P 0) (PQ 0) (D 0), plW X (P 1) (PQ 1) (D 1), plW X (P 2) (PQ 2) (D 2), plW X (P 3) (PQ 3) (D 3), plW X (P 4) (PQ 4) (D 4)].flatten) S hAM hH hS 1 rfl (qk := 42) rfl (3) rfl (by decide) (by decide) rfl dX1_forgetOldest_27 (fun H locs hH hS => ?_)
          refine zv_iinc (z := ((5 : Nat) : Int)) (lv' := [(2, .int (iI ((5 : Nat) : Int))), (1, .ref (P 0)), (0, .ref (qh))]) S dX1_forgetOldest_28 hl (k := 0) rfl (by decide) (by decide) rfl (fun ls hl => ?_)
          refine lv_goto (tgt := 9) S.1 S.2.1 dX1_forgetOldest_31 (by decide) ?_
          refine lv_iload_n S.1 S.2.1 dX1_forgetOldest_9 rfl (lv_at hl 0 rfl) ?_
          refine lv_iconst (v := iI (((5 : Nat) : Int))) S.1 S.2.1 dX1_forgetOldest_10 (by decide) ?_
          refine zv_icmp_ge (tgt := 34) S dX1_forgetOldest_11 (by decide) (by decide) (by decide) (fun c_11 => ?_) (fun c_11 => ?_)
          · skip
            refine lv_aload_n S.1 S.2.1 dX1_forgetOldest_34 rfl (lv_at hl 2 rfl) ?_
            refine zv_get (v := .ref (qa)) S hAM hH nX1_forgetOldest_X1 0 rfl rfl 1 (by decide) mX1_forgetOldest_1 rfl rfl dX1_forgetOldest_35 ?_
            refine lv_iconst (v := iI (((4 : Nat) : Int))) S.1 S.2.1 dX1_forgetOldest_38 (by decide) ?_
            refine lv_aload_n S.1 S.2.1 dX1_forgetOldest_39 rfl (lv_at hl 1 rfl) ?_
            refine zv_aast2 (w2 := [hiW qh qa k, pfW X qa (va_up (va_up (va_up (va_up (va_up (fun i => some (P i)) 0 (some (P 1))) 1 (some (P 2))) 2 (some (P 3))) 3 (some (P 4))) 4 (some (P 0))), plW X (P 0) (PQ 0) (D 0), plW X (P 1) (PQ 1) (D 1), plW X (P 2) (PQ 2) (D 2), plW X (P 3) (PQ 3) (D 3), plW X (P 4) (PQ 4) (D 4)].flatten) S hAM hH hS 1 rfl (qk := 2) rfl (4) rfl (by decide) (by decide) rfl dX1_forgetOldest_40 (fun H locs hH hS => ?_)
            refine lv_aload_n S.1 S.2.1 dX1_forgetOldest_41 rfl (lv_at hl 2 rfl) ?_
            refine lv_iconst (v := iI (((4 : Nat) : Int))) S.1 S.2.1 dX1_forgetOldest_42 (by decide) ?_
            refine zv_put (v := .int (iI ((4 : Nat) : Int))) (w2 := [hiW qh qa ((4 : Nat) : Int), pfW X qa (va_up (va_up (va_up (va_up (va_up (fun i => some (P i)) 0 (some (P 1))) 1 (some (P 2))) 2 (some (P 3))) 3 (some (P 4))) 4 (some (P 0))), plW X (P 0) (PQ 0) (D 0), plW X (P 1) (PQ 1) (D 1), plW X (P 2) (PQ 2) (D 2), plW X (P 3) (PQ 3) (D 3), plW X (P 4) (PQ 4) (D 4)].flatten) S hAM hH hS nX1_forgetOldest_X1 tyX1 tyX1_ok nmX1 0 rfl rfl 0 (by decide) mX1_forgetOldest_2 rfl rfl rfl rfl (Nat.le_of_ble_eq_true rfl) rfl dX1_forgetOldest_43 (fun H locs hH hS => ?_)
            have hH : Hold X A [hiW qh qa ((4 : Nat) : Int), pfW X qa (fun i => some ((rot P) i)), plW X (P 0) (PQ 0) (D 0), plW X (P 1) (PQ 1) (D 1), plW X (P 2) (PQ 2) (D 2), plW X (P 3) (PQ 3) (D 3), plW X (P 4) (PQ 4) (D 4)].flatten _ := Hold.congR (f2 := fun i => some (rot P i)) hH 1 rfl (by intro k hk; rcases (show k = 0 ∨ k = 1 ∨ k = 2 ∨ k = 3 ∨ k = 4 by omega) with rfl | rfl | rfl | rfl | rfl <;> rfl) rfl
            have hH : Hold X A [hiW qh qa ((4 : Nat) : Int), pfW X qa (fun i => some ((rot P) i)), plW X (P 1) (PQ 1) (D 1), plW X (P 2) (PQ 2) (D 2), plW X (P 3) (PQ 3) (D 3), plW X (P 4) (PQ 4) (D 4), plW X (P 0) (PQ 0) (D 0)].flatten _ := Hold.pick hH [0, 1, 3, 4, 5, 6, 2] rfl 7 rfl (by decide)
            have hH : Hold X A [hiW qh qa ((4 : Nat) : Int), pfW X qa (fun i => some (rot P i)), plW X (rot P 0) (rot PQ 0) (rot D 0), plW X (rot P 1) (rot PQ 1) (rot D 1), plW X (rot P 2) (rot PQ 2) (rot D 2), plW X (rot P 3) (rot PQ 3) (rot D 3), plW X (rot P 4) (rot PQ 4) (rot D 4)].flatten _ := hH
            exact hret 46 ls _ _ () dX1_forgetOldest_46 trivial hH hS
          · exact (show False by omega).elim

theorem mX1_remember_1 : Cond.fieldLink RX1 18 "RoleDoublingPlanner$History" "kept" "I" ∈ wsX1_remember := List.mem_of_getElem? (i := 1) rfl
theorem nX1_remember_X1 : ∀ w ∈ wsX10, w ∈ wsX1_remember := fun _ h => List.mem_cons_of_mem _ (List.mem_append_left _ (List.mem_append_right _ h))
theorem mX1_remember_2 : Cond.fieldLink RX1 11 "RoleDoublingPlanner$History" "past" "[LRoleDoublingPlanner$Play;" ∈ wsX1_remember := List.mem_of_getElem? (i := 2) rfl
set_option maxHeartbeats 4000000 in
set_option maxRecDepth 100000 in
theorem kX1_remember (l : Launch) (X : XT) (qh : Nat) (qa : Nat) (P : Nat → Nat) (PQ : Nat → Nat → Nat) (D : Nat → PlD) (kn : Nat) (q : Nat) (Qp : Nat → Nat) (sc : Int) (ro : Int) (ap : Int) (sl : Nat → Int) (vo : Nat → Int) (ou : Nat → Int) (inn : Nat → Int) (ac : Nat → Int) (ag : Nat → Int) (ai : Nat → Int) (et : Nat → Int) (xt : Nat → Int) (hkn : kn ≤ 5) : Cv l yX1_remember wsX1_remember (rmD 2) X [.ref qh, .ref (q)] [hiW qh qa ((kn : Nat) : Int), pfW X qa (fun i => some (P i)), plW X (P 0) (PQ 0) (D 0), plW X (P 1) (PQ 1) (D 1), plW X (P 2) (PQ 2) (D 2), plW X (P 3) (PQ 3) (D 3), plW X (P 4) (PQ 4) (D 4), poW q Qp sc ro ap, aW X (Qp 0) 10 sl, aW X (Qp 1) 8 vo, aW X (Qp 2) 8 ou, aW X (Qp 3) 8 inn, aW X (Qp 4) 8 ac, aW X (Qp 5) 20 ag, aW X (Qp 6) 20 ai, aW X (Qp 7) 20 et, aW X (Qp 8) 20 xt] (fun (u : (Nat → Nat) × (Nat → Nat → Nat) × (Nat → PlD)) => match u with | (P2, PQ2, D2) => D2 = remD D kn (mkD sc ro ap sl vo ou inn ac ag ai et xt)) (fun (u : (Nat → Nat) × (Nat → Nat → Nat) × (Nat → PlD)) => match u with | (P2, PQ2, D2) => [hiW qh qa ((kmF kn : Nat) : Int), pfW X qa (fun i => some (P2 i)), plW X (P2 0) (PQ2 0) (D2 0), plW X (P2 1) (PQ2 1) (D2 1), plW X (P2 2) (PQ2 2) (D2 2), plW X (P2 3) (PQ2 3) (D2 3), plW X (P2 4) (PQ2 4) (D2 4), poW q Qp sc ro ap, aW X (Qp 0) 10 sl, aW X (Qp 1) 8 vo, aW X (Qp 2) 8 ou, aW X (Qp 3) 8 inn, aW X (Qp 4) 8 ac, aW X (Qp 5) 20 ag, aW X (Qp 6) 20 ai, aW X (Qp 7) 20 et, aW X (Qp 8) 20 xt]) := by
  refine Cv.ofW (cc := cX1_remember) (maxL := 2) (by decide) rfl (Nat.le_of_ble_eq_true rfl) ?_
  intro p_ e_ s_ m_ below meth c_ A Q_ S hA hAM hH hS hmn hret ls hl
  have hl : lv_has ls 2 [(0, .ref (qh)), (1, .ref (q))] := hl
  refine lv_aload_n S.1 S.2.1 dX1_remember_0 rfl (lv_at hl 0 rfl) ?_
  refine zv_get (v := .int (iI ((kn : Nat) : Int))) S hAM hH nX1_remember_X1 0 rfl rfl 0 (by decide) mX1_remember_1 rfl rfl dX1_remember_1 ?_
  refine lv_iconst (v := iI (((5 : Nat) : Int))) S.1 S.2.1 dX1_remember_4 (by decide) ?_
  refine zv_icmp_lt (tgt := 12) S dX1_remember_5 (by decide) (by omega) (by decide) (fun c_5 => ?_) (fun c_5 => ?_)
  · skip
    rcases (show kn = 0 ∨ kn = 1 ∨ kn = 2 ∨ kn = 3 ∨ kn = 4 by omega) with rfl | rfl | rfl | rfl | rfl
    · skip
      refine lv_aload_n S.1 S.2.1 dX1_remember_12 rfl (lv_at hl 0 rfl) ?_
      refine zv_get (v := .ref (qa)) S hAM hH nX1_remember_X1 0 rfl rfl 1 (by decide) mX1_remember_2 rfl rfl dX1_remember_13 ?_
      refine lv_aload_n S.1 S.2.1 dX1_remember_16 rfl (lv_at hl 0 rfl) ?_
      refine zv_get (v := .int (iI ((0 : Nat) : Int))) S hAM hH nX1_remember_X1 0 rfl rfl 0 (by decide) mX1_remember_1 rfl rfl dX1_remember_17 ?_
      refine zv_aald2 (q := P 0) S hAM hH 1 rfl (0) rfl (by decide) (by decide) rfl dX1_remember_20 ?_
      refine lv_aload_n S.1 S.2.1 dX1_remember_21 rfl (lv_at hl 1 rfl) ?_
      refine zc_Vv (n := 1) (As := [.ref (q)]) (rest := []) S hAM hA (kX2_copyGE l X (P 0) (PQ 0) (D 0) q Qp sc ro ap sl vo ou inn ac ag ai et xt ) rfl gX1_remember_X2_copyFrom  (by decide +kernel) ⟨Nat.le_of_ble_eq_true rfl, Nat.le_of_ble_eq_true rfl⟩ hH hS [2, 7, 8, 9, 10, 11, 12, 13, 14, 15, 16, 0, 1, 3, 4, 5, 6] rfl 17 rfl (by decide) 2 0 rfl rfl rfl hl.1 rfl (Nat.le_of_ble_eq_true rfl) dX1_remember_22 ⟨Nat.le_of_ble_eq_true rfl, Nat.le_of_ble_eq_true rfl⟩ (fun _ H locs hp3 hH hS => ?_)
      have hH : Hold X A [plW X (P 0) (PQ 0) (mkD sc ro ap sl vo ou inn ac ag ai et xt), poW q Qp sc ro ap, aW X (Qp 0) 10 sl, aW X (Qp 1) 8 vo, aW X (Qp 2) 8 ou, aW X (Qp 3) 8 inn, aW X (Qp 4) 8 ac, aW X (Qp 5) 20 ag, aW X (Qp 6) 20 ai, aW X (Qp 7) 20 et, aW X (Qp 8) 20 xt, hiW qh qa ((0 : Nat) : Int), pfW X qa (fun i => some (P i)), plW X (P 1) (PQ 1) (D 1), plW X (P 2) (PQ 2) (D 2), plW X (P 3) (PQ 3) (D 3), plW X (P 4) (PQ 4) (D 4)].flatten H := hH
      refine lv_aload_n S.1 S.2.1 dX1_remember_25 rfl (lv_at hl 0 rfl) ?_
      refine lv_dup S.1 S.2.1 dX1_remember_26 rfl ?_
      refine zv_get (v := .int (iI ((0 : Nat) : Int))) S hAM hH nX1_remember_X1 20 rfl rfl 0 (by decide) mX1_remember_1 rfl rfl dX1_remember_27 ?_
      refine lv_iconst (v := iI (((1 : Nat) : Int))) S.1 S.2.1 dX1_remember_30 (by decide) ?_
      refine zv_iadd (z := ((1 : Nat) : Int)) S dX1_remember_31 (by decide) ?_
      refine zv_put (v := .int (iI ((1 : Nat) : Int))) (w2 := [plW X (P 0) (PQ 0) (mkD sc ro ap sl vo ou inn ac ag ai et xt), poW q Qp sc ro ap, aW X (Qp 0) 10 sl, aW X (Qp 1) 8 vo, aW X (Qp 2) 8 ou, aW X (Qp 3) 8 inn, aW X (Qp 4) 8 ac, aW X (Qp 5) 20 ag, aW X (Qp 6) 20 ai, aW X (Qp 7) 20 et, aW X (Qp 8) 20 xt, hiW qh qa ((1 : Nat) : Int), pfW X qa (fun i => some (P i)), plW X (P 1) (PQ 1) (D 1), plW X (P 2) (PQ 2) (D 2), plW X (P 3) (PQ 3) (D 3), plW X (P 4) (PQ 4) (D 4)].flatten) S hAM hH hS nX1_remember_X1 tyX1 tyX1_ok nmX1 20 rfl rfl 0 (by decide) mX1_remember_1 rfl rfl rfl rfl (Nat.le_of_ble_eq_true rfl) rfl dX1_remember_32 (fun H locs hH hS => ?_)
      have hH : Hold X A [hiW qh qa ((1 : Nat) : Int), pfW X qa (fun i => some (P i)), plW X (P 0) (PQ 0) (mkD sc ro ap sl vo ou inn ac ag ai et xt), plW X (P 1) (PQ 1) (D 1), plW X (P 2) (PQ 2) (D 2), plW X (P 3) (PQ 3) (D 3), plW X (P 4) (PQ 4) (D 4), poW q Qp sc ro ap, aW X (Qp 0) 10 sl, aW X (Qp 1) 8 vo, aW X (Qp 2) 8 ou, aW X (Qp 3) 8 inn, aW X (Qp 4) 8 ac, aW X (Qp 5) 20 ag, aW X (Qp 6) 20 ai, aW X (Qp 7) 20 et, aW X (Qp 8) 20 xt].flatten _ := Hold.pick hH [11, 12, 0, 13, 14, 15, 16, 1, 2, 3, 4, 5, 6, 7, 8, 9, 10] rfl 17 rfl (by decide)
      have hH : Hold X A [hiW qh qa ((kmF 0 : Nat) : Int), pfW X qa (fun i => some (P i)), plW X (P 0) (PQ 0) ((upD D 0 (mkD sc ro ap sl vo ou inn ac ag ai et xt)) 0), plW X (P 1) (PQ 1) ((upD D 0 (mkD sc ro ap sl vo ou inn ac ag ai et xt)) 1), plW X (P 2) (PQ 2) ((upD D 0 (mkD sc ro ap sl vo ou inn ac ag ai et xt)) 2), plW X (P 3) (PQ 3) ((upD D 0 (mkD sc ro ap sl vo ou inn ac ag ai et xt)) 3), plW X (P 4) (PQ 4) ((upD D 0 (mkD sc ro ap sl vo ou inn ac ag ai et xt)) 4), poW q Qp sc ro ap, aW X (Qp 0) 10 sl, aW X (Qp 1) 8 vo, aW X (Qp 2) 8 ou, aW X (Qp 3) 8 inn, aW X (Qp 4) 8 ac, aW X (Qp 5) 20 ag, aW X (Qp 6) 20 ai, aW X (Qp 7) 20 et, aW X (Qp 8) 20 xt].flatten _ := hH
      exact hret 35 ls _ _ (P, PQ, (upD D 0 (mkD sc ro ap sl vo ou inn ac ag ai et xt))) dX1_remember_35 rfl hH hS
    · skip
      refine lv_aload_n S.1 S.2.1 dX1_remember_12 rfl (lv_at hl 0 rfl) ?_
      refine zv_get (v := .ref (qa)) S hAM hH nX1_remember_X1 0 rfl rfl 1 (by decide) mX1_remember_2 rfl rfl dX1_remember_13 ?_
      refine lv_aload_n S.1 S.2.1 dX1_remember_16 rfl (lv_at hl 0 rfl) ?_
      refine zv_get (v := .int (iI ((1 : Nat) : Int))) S hAM hH nX1_remember_X1 0 rfl rfl 0 (by decide) mX1_remember_1 rfl rfl dX1_remember_17 ?_
      refine zv_aald2 (q := P 1) S hAM hH 1 rfl (1) rfl (by decide) (by decide) rfl dX1_remember_20 ?_
      refine lv_aload_n S.1 S.2.1 dX1_remember_21 rfl (lv_at hl 1 rfl) ?_
      refine zc_Vv (n := 1) (As := [.ref (q)]) (rest := []) S hAM hA (kX2_copyGE l X (P 1) (PQ 1) (D 1) q Qp sc ro ap sl vo ou inn ac ag ai et xt ) rfl gX1_remember_X2_copyFrom  (by decide +kernel) ⟨Nat.le_of_ble_eq_true rfl, Nat.le_of_ble_eq_true rfl⟩ hH hS [3, 7, 8, 9, 10, 11, 12, 13, 14, 15, 16, 0, 1, 2, 4, 5, 6] rfl 17 rfl (by decide) 2 0 rfl rfl rfl hl.1 rfl (Nat.le_of_ble_eq_true rfl) dX1_remember_22 ⟨Nat.le_of_ble_eq_true rfl, Nat.le_of_ble_eq_true rfl⟩ (fun _ H locs hp6 hH hS => ?_)
      have hH : Hold X A [plW X (P 1) (PQ 1) (mkD sc ro ap sl vo ou inn ac ag ai et xt), poW q Qp sc ro ap, aW X (Qp 0) 10 sl, aW X (Qp 1) 8 vo, aW X (Qp 2) 8 ou, aW X (Qp 3) 8 inn, aW X (Qp 4) 8 ac, aW X (Qp 5) 20 ag, aW X (Qp 6) 20 ai, aW X (Qp 7) 20 et, aW X (Qp 8) 20 xt, hiW qh qa ((1 : Nat) : Int), pfW X qa (fun i => some (P i)), plW X (P 0) (PQ 0) (D 0), plW X (P 2) (PQ 2) (D 2), plW X (P 3) (PQ 3) (D 3), plW X (P 4) (PQ 4) (D 4)].flatten H := hH
      refine lv_aload_n S.1 S.2.1 dX1_remember_25 rfl (lv_at hl 0 rfl) ?_
      refine lv_dup S.1 S.2.1 dX1_remember_26 rfl ?_
      refine zv_get (v := .int (iI ((1 : Nat) : Int))) S hAM hH nX1_remember_X1 20 rfl rfl 0 (by decide) mX1_remember_1 rfl rfl dX1_remember_27 ?_
      refine lv_iconst (v := iI (((1 : Nat) : Int))) S.1 S.2.1 dX1_remember_30 (by decide) ?_
      refine zv_iadd (z := ((2 : Nat) : Int)) S dX1_remember_31 (by decide) ?_
      refine zv_put (v := .int (iI ((2 : Nat) : Int))) (w2 := [plW X (P 1) (PQ 1) (mkD sc ro ap sl vo ou inn ac ag ai et xt), poW q Qp sc ro ap, aW X (Qp 0) 10 sl, aW X (Qp 1) 8 vo, aW X (Qp 2) 8 ou, aW X (Qp 3) 8 inn, aW X (Qp 4) 8 ac, aW X (Qp 5) 20 ag, aW X (Qp 6) 20 ai, aW X (Qp 7) 20 et, aW X (Qp 8) 20 xt, hiW qh qa ((2 : Nat) : Int), pfW X qa (fun i => some (P i)), plW X (P 0) (PQ 0) (D 0), plW X (P 2) (PQ 2) (D 2), plW X (P 3) (PQ 3) (D 3), plW X (P 4) (PQ 4) (D 4)].flatten) S hAM hH hS nX1_remember_X1 tyX1 tyX1_ok nmX1 20 rfl rfl 0 (by decide) mX1_remember_1 rfl rfl rfl rfl (Nat.le_of_ble_eq_true rfl) rfl dX1_remember_32 (fun H locs hH hS => ?_)
      have hH : Hold X A [hiW qh qa ((2 : Nat) : Int), pfW X qa (fun i => some (P i)), plW X (P 0) (PQ 0) (D 0), plW X (P 1) (PQ 1) (mkD sc ro ap sl vo ou inn ac ag ai et xt), plW X (P 2) (PQ 2) (D 2), plW X (P 3) (PQ 3) (D 3), plW X (P 4) (PQ 4) (D 4), poW q Qp sc ro ap, aW X (Qp 0) 10 sl, aW X (Qp 1) 8 vo, aW X (Qp 2) 8 ou, aW X (Qp 3) 8 inn, aW X (Qp 4) 8 ac, aW X (Qp 5) 20 ag, aW X (Qp 6) 20 ai, aW X (Qp 7) 20 et, aW X (Qp 8) 20 xt].flatten _ := Hold.pick hH [11, 12, 13, 0, 14, 15, 16, 1, 2, 3, 4, 5, 6, 7, 8, 9, 10] rfl 17 rfl (by decide)
      have hH : Hold X A [hiW qh qa ((kmF 1 : Nat) : Int), pfW X qa (fun i => some (P i)), plW X (P 0) (PQ 0) ((upD D 1 (mkD sc ro ap sl vo ou inn ac ag ai et xt)) 0), plW X (P 1) (PQ 1) ((upD D 1 (mkD sc ro ap sl vo ou inn ac ag ai et xt)) 1), plW X (P 2) (PQ 2) ((upD D 1 (mkD sc ro ap sl vo ou inn ac ag ai et xt)) 2), plW X (P 3) (PQ 3) ((upD D 1 (mkD sc ro ap sl vo ou inn ac ag ai et xt)) 3), plW X (P 4) (PQ 4) ((upD D 1 (mkD sc ro ap sl vo ou inn ac ag ai et xt)) 4), poW q Qp sc ro ap, aW X (Qp 0) 10 sl, aW X (Qp 1) 8 vo, aW X (Qp 2) 8 ou, aW X (Qp 3) 8 inn, aW X (Qp 4) 8 ac, aW X (Qp 5) 20 ag, aW X (Qp 6) 20 ai, aW X (Qp 7) 20 et, aW X (Qp 8) 20 xt].flatten _ := hH
      exact hret 35 ls _ _ (P, PQ, (upD D 1 (mkD sc ro ap sl vo ou inn ac ag ai et xt))) dX1_remember_35 rfl hH hS
    · skip
      refine lv_aload_n S.1 S.2.1 dX1_remember_12 rfl (lv_at hl 0 rfl) ?_
      refine zv_get (v := .ref (qa)) S hAM hH nX1_remember_X1 0 rfl rfl 1 (by decide) mX1_remember_2 rfl rfl dX1_remember_13 ?_
      refine lv_aload_n S.1 S.2.1 dX1_remember_16 rfl (lv_at hl 0 rfl) ?_
      refine zv_get (v := .int (iI ((2 : Nat) : Int))) S hAM hH nX1_remember_X1 0 rfl rfl 0 (by decide) mX1_remember_1 rfl rfl dX1_remember_17 ?_
      refine zv_aald2 (q := P 2) S hAM hH 1 rfl (2) rfl (by decide) (by decide) rfl dX1_remember_20 ?_
      refine lv_aload_n S.1 S.2.1 dX1_remember_21 rfl (lv_at hl 1 rfl) ?_
      refine zc_Vv (n := 1) (As := [.ref (q)]) (rest := []) S hAM hA (kX2_copyGE l X (P 2) (PQ 2) (D 2) q Qp sc ro ap sl vo ou inn ac ag ai et xt ) rfl gX1_remember_X2_copyFrom  (by decide +kernel) ⟨Nat.le_of_ble_eq_true rfl, Nat.le_of_ble_eq_true rfl⟩ hH hS [4, 7, 8, 9, 10, 11, 12, 13, 14, 15, 16, 0, 1, 2, 3, 5, 6] rfl 17 rfl (by decide) 2 0 rfl rfl rfl hl.1 rfl (Nat.le_of_ble_eq_true rfl) dX1_remember_22 ⟨Nat.le_of_ble_eq_true rfl, Nat.le_of_ble_eq_true rfl⟩ (fun _ H locs hp9 hH hS => ?_)
      have hH : Hold X A [plW X (P 2) (PQ 2) (mkD sc ro ap sl vo ou inn ac ag ai et xt), poW q Qp sc ro ap, aW X (Qp 0) 10 sl, aW X (Qp 1) 8 vo, aW X (Qp 2) 8 ou, aW X (Qp 3) 8 inn, aW X (Qp 4) 8 ac, aW X (Qp 5) 20 ag, aW X (Qp 6) 20 ai, aW X (Qp 7) 20 et, aW X (Qp 8) 20 xt, hiW qh qa ((2 : Nat) : Int), pfW X qa (fun i => some (P i)), plW X (P 0) (PQ 0) (D 0), plW X (P 1) (PQ 1) (D 1), plW X (P 3) (PQ 3) (D 3), plW X (P 4) (PQ 4) (D 4)].flatten H := hH
      refine lv_aload_n S.1 S.2.1 dX1_remember_25 rfl (lv_at hl 0 rfl) ?_
      refine lv_dup S.1 S.2.1 dX1_remember_26 rfl ?_
      refine zv_get (v := .int (iI ((2 : Nat) : Int))) S hAM hH nX1_remember_X1 20 rfl rfl 0 (by decide) mX1_remember_1 rfl rfl dX1_remember_27 ?_
      refine lv_iconst (v := iI (((1 : Nat) : Int))) S.1 S.2.1 dX1_remember_30 (by decide) ?_
      refine zv_iadd (z := ((3 : Nat) : Int)) S dX1_remember_31 (by decide) ?_
      refine zv_put (v := .int (iI ((3 : Nat) : Int))) (w2 := [plW X (P 2) (PQ 2) (mkD sc ro ap sl vo ou inn ac ag ai et xt), poW q Qp sc ro ap, aW X (Qp 0) 10 sl, aW X (Qp 1) 8 vo, aW X (Qp 2) 8 ou, aW X (Qp 3) 8 inn, aW X (Qp 4) 8 ac, aW X (Qp 5) 20 ag, aW X (Qp 6) 20 ai, aW X (Qp 7) 20 et, aW X (Qp 8) 20 xt, hiW qh qa ((3 : Nat) : Int), pfW X qa (fun i => some (P i)), plW X (P 0) (PQ 0) (D 0), plW X (P 1) (PQ 1) (D 1), plW X (P 3) (PQ 3) (D 3), plW X (P 4) (PQ 4) (D 4)].flatten) S hAM hH hS nX1_remember_X1 tyX1 tyX1_ok nmX1 20 rfl rfl 0 (by decide) mX1_remember_1 rfl rfl rfl rfl (Nat.le_of_ble_eq_true rfl) rfl dX1_remember_32 (fun H locs hH hS => ?_)
      have hH : Hold X A [hiW qh qa ((3 : Nat) : Int), pfW X qa (fun i => some (P i)), plW X (P 0) (PQ 0) (D 0), plW X (P 1) (PQ 1) (D 1), plW X (P 2) (PQ 2) (mkD sc ro ap sl vo ou inn ac ag ai et xt), plW X (P 3) (PQ 3) (D 3), plW X (P 4) (PQ 4) (D 4), poW q Qp sc ro ap, aW X (Qp 0) 10 sl, aW X (Qp 1) 8 vo, aW X (Qp 2) 8 ou, aW X (Qp 3) 8 inn, aW X (Qp 4) 8 ac, aW X (Qp 5) 20 ag, aW X (Qp 6) 20 ai, aW X (Qp 7) 20 et, aW X (Qp 8) 20 xt].flatten _ := Hold.pick hH [11, 12, 13, 14, 0, 15, 16, 1, 2, 3, 4, 5, 6, 7, 8, 9, 10] rfl 17 rfl (by decide)
      have hH : Hold X A [hiW qh qa ((kmF 2 : Nat) : Int), pfW X qa (fun i => some (P i)), plW X (P 0) (PQ 0) ((upD D 2 (mkD sc ro ap sl vo ou inn ac ag ai et xt)) 0), plW X (P 1) (PQ 1) ((upD D 2 (mkD sc ro ap sl vo ou inn ac ag ai et xt)) 1), plW X (P 2) (PQ 2) ((upD D 2 (mkD sc ro ap sl vo ou inn ac ag ai et xt)) 2), plW X (P 3) (PQ 3) ((upD D 2 (mkD sc ro ap sl vo ou inn ac ag ai et xt)) 3), plW X (P 4) (PQ 4) ((upD D 2 (mkD sc ro ap sl vo ou inn ac ag ai et xt)) 4), poW q Qp sc ro ap, aW X (Qp 0) 10 sl, aW X (Qp 1) 8 vo, aW X (Qp 2) 8 ou, aW X (Qp 3) 8 inn, aW X (Qp 4) 8 ac, aW X (Qp 5) 20 ag, aW X (Qp 6) 20 ai, aW X (Qp 7) 20 et, aW X (Qp 8) 20 xt].flatten _ := hH
      exact hret 35 ls _ _ (P, PQ, (upD D 2 (mkD sc ro ap sl vo ou inn ac ag ai et xt))) dX1_remember_35 rfl hH hS
    · skip
      refine lv_aload_n S.1 S.2.1 dX1_remember_12 rfl (lv_at hl 0 rfl) ?_
      refine zv_get (v := .ref (qa)) S hAM hH nX1_remember_X1 0 rfl rfl 1 (by decide) mX1_remember_2 rfl rfl dX1_remember_13 ?_
      refine lv_aload_n S.1 S.2.1 dX1_remember_16 rfl (lv_at hl 0 rfl) ?_
      refine zv_get (v := .int (iI ((3 : Nat) : Int))) S hAM hH nX1_remember_X1 0 rfl rfl 0 (by decide) mX1_remember_1 rfl rfl dX1_remember_17 ?_
      refine zv_aald2 (q := P 3) S hAM hH 1 rfl (3) rfl (by decide) (by decide) rfl dX1_remember_20 ?_
      refine lv_aload_n S.1 S.2.1 dX1_remember_21 rfl (lv_at hl 1 rfl) ?_
      refine zc_Vv (n := 1) (As := [.ref (q)]) (rest := []) S hAM hA (kX2_copyGE l X (P 3) (PQ 3) (D 3) q Qp sc ro ap sl vo ou inn ac ag ai et xt ) rfl gX1_remember_X2_copyFrom  (by decide +kernel) ⟨Nat.le_of_ble_eq_true rfl, Nat.le_of_ble_eq_true rfl⟩ hH hS [5, 7, 8, 9, 10, 11, 12, 13, 14, 15, 16, 0, 1, 2, 3, 4, 6] rfl 17 rfl (by decide) 2 0 rfl rfl rfl hl.1 rfl (Nat.le_of_ble_eq_true rfl) dX1_remember_22 ⟨Nat.le_of_ble_eq_true rfl, Nat.le_of_ble_eq_true rfl⟩ (fun _ H locs hp12 hH hS => ?_)
      have hH : Hold X A [plW X (P 3) (PQ 3) (mkD sc ro ap sl vo ou inn ac ag ai et xt), poW q Qp sc ro ap, aW X (Qp 0) 10 sl, aW X (Qp 1) 8 vo, aW X (Qp 2) 8 ou, aW X (Qp 3) 8 inn, aW X (Qp 4) 8 ac, aW X (Qp 5) 20 ag, aW X (Qp 6) 20 ai, aW X (Qp 7) 20 et, aW X (Qp 8) 20 xt, hiW qh qa ((3 : Nat) : Int), pfW X qa (fun i => some (P i)), plW X (P 0) (PQ 0) (D 0), plW X (P 1) (PQ 1) (D 1), plW X (P 2) (PQ 2) (D 2), plW X (P 4) (PQ 4) (D 4)].flatten H := hH
      refine lv_aload_n S.1 S.2.1 dX1_remember_25 rfl (lv_at hl 0 rfl) ?_
      refine lv_dup S.1 S.2.1 dX1_remember_26 rfl ?_
      refine zv_get (v := .int (iI ((3 : Nat) : Int))) S hAM hH nX1_remember_X1 20 rfl rfl 0 (by decide) mX1_remember_1 rfl rfl dX1_remember_27 ?_
      refine lv_iconst (v := iI (((1 : Nat) : Int))) S.1 S.2.1 dX1_remember_30 (by decide) ?_
      refine zv_iadd (z := ((4 : Nat) : Int)) S dX1_remember_31 (by decide) ?_
      refine zv_put (v := .int (iI ((4 : Nat) : Int))) (w2 := [plW X (P 3) (PQ 3) (mkD sc ro ap sl vo ou inn ac ag ai et xt), poW q Qp sc ro ap, aW X (Qp 0) 10 sl, aW X (Qp 1) 8 vo, aW X (Qp 2) 8 ou, aW X (Qp 3) 8 inn, aW X (Qp 4) 8 ac, aW X (Qp 5) 20 ag, aW X (Qp 6) 20 ai, aW X (Qp 7) 20 et, aW X (Qp 8) 20 xt, hiW qh qa ((4 : Nat) : Int), pfW X qa (fun i => some (P i)), plW X (P 0) (PQ 0) (D 0), plW X (P 1) (PQ 1) (D 1), plW X (P 2) (PQ 2) (D 2), plW X (P 4) (PQ 4) (D 4)].flatten) S hAM hH hS nX1_remember_X1 tyX1 tyX1_ok nmX1 20 rfl rfl 0 (by decide) mX1_remember_1 rfl rfl rfl rfl (Nat.le_of_ble_eq_true rfl) rfl dX1_remember_32 (fun H locs hH hS => ?_)
      have hH : Hold X A [hiW qh qa ((4 : Nat) : Int), pfW X qa (fun i => some (P i)), plW X (P 0) (PQ 0) (D 0), plW X (P 1) (PQ 1) (D 1), plW X (P 2) (PQ 2) (D 2), plW X (P 3) (PQ 3) (mkD sc ro ap sl vo ou inn ac ag ai et xt), plW X (P 4) (PQ 4) (D 4), poW q Qp sc ro ap, aW X (Qp 0) 10 sl, aW X (Qp 1) 8 vo, aW X (Qp 2) 8 ou, aW X (Qp 3) 8 inn, aW X (Qp 4) 8 ac, aW X (Qp 5) 20 ag, aW X (Qp 6) 20 ai, aW X (Qp 7) 20 et, aW X (Qp 8) 20 xt].flatten _ := Hold.pick hH [11, 12, 13, 14, 15, 0, 16, 1, 2, 3, 4, 5, 6, 7, 8, 9, 10] rfl 17 rfl (by decide)
      have hH : Hold X A [hiW qh qa ((kmF 3 : Nat) : Int), pfW X qa (fun i => some (P i)), plW X (P 0) (PQ 0) ((upD D 3 (mkD sc ro ap sl vo ou inn ac ag ai et xt)) 0), plW X (P 1) (PQ 1) ((upD D 3 (mkD sc ro ap sl vo ou inn ac ag ai et xt)) 1), plW X (P 2) (PQ 2) ((upD D 3 (mkD sc ro ap sl vo ou inn ac ag ai et xt)) 2), plW X (P 3) (PQ 3) ((upD D 3 (mkD sc ro ap sl vo ou inn ac ag ai et xt)) 3), plW X (P 4) (PQ 4) ((upD D 3 (mkD sc ro ap sl vo ou inn ac ag ai et xt)) 4), poW q Qp sc ro ap, aW X (Qp 0) 10 sl, aW X (Qp 1) 8 vo, aW X (Qp 2) 8 ou, aW X (Qp 3) 8 inn, aW X (Qp 4) 8 ac, aW X (Qp 5) 20 ag, aW X (Qp 6) 20 ai, aW X (Qp 7) 20 et, aW X (Qp 8) 20 xt].flatten _ := hH
      exact hret 35 ls _ _ (P, PQ, (upD D 3 (mkD sc ro ap sl vo ou inn ac ag ai et xt))) dX1_remember_35 rfl hH hS
    · skip
      refine lv_aload_n S.1 S.2.1 dX1_remember_12 rfl (lv_at hl 0 rfl) ?_
      refine zv_get (v := .ref (qa)) S hAM hH nX1_remember_X1 0 rfl rfl 1 (by decide) mX1_remember_2 rfl rfl dX1_remember_13 ?_
      refine lv_aload_n S.1 S.2.1 dX1_remember_16 rfl (lv_at hl 0 rfl) ?_
      refine zv_get (v := .int (iI ((4 : Nat) : Int))) S hAM hH nX1_remember_X1 0 rfl rfl 0 (by decide) mX1_remember_1 rfl rfl dX1_remember_17 ?_
      refine zv_aald2 (q := P 4) S hAM hH 1 rfl (4) rfl (by decide) (by decide) rfl dX1_remember_20 ?_
      refine lv_aload_n S.1 S.2.1 dX1_remember_21 rfl (lv_at hl 1 rfl) ?_
      refine zc_Vv (n := 1) (As := [.ref (q)]) (rest := []) S hAM hA (kX2_copyGE l X (P 4) (PQ 4) (D 4) q Qp sc ro ap sl vo ou inn ac ag ai et xt ) rfl gX1_remember_X2_copyFrom  (by decide +kernel) ⟨Nat.le_of_ble_eq_true rfl, Nat.le_of_ble_eq_true rfl⟩ hH hS [6, 7, 8, 9, 10, 11, 12, 13, 14, 15, 16, 0, 1, 2, 3, 4, 5] rfl 17 rfl (by decide) 2 0 rfl rfl rfl hl.1 rfl (Nat.le_of_ble_eq_true rfl) dX1_remember_22 ⟨Nat.le_of_ble_eq_true rfl, Nat.le_of_ble_eq_true rfl⟩ (fun _ H locs hp15 hH hS => ?_)
      have hH : Hold X A [plW X (P 4) (PQ 4) (mkD sc ro ap sl vo ou inn ac ag ai et xt), poW q Qp sc ro ap, aW X (Qp 0) 10 sl, aW X (Qp 1) 8 vo, aW X (Qp 2) 8 ou, aW X (Qp 3) 8 inn, aW X (Qp 4) 8 ac, aW X (Qp 5) 20 ag, aW X (Qp 6) 20 ai, aW X (Qp 7) 20 et, aW X (Qp 8) 20 xt, hiW qh qa ((4 : Nat) : Int), pfW X qa (fun i => some (P i)), plW X (P 0) (PQ 0) (D 0), plW X (P 1) (PQ 1) (D 1), plW X (P 2) (PQ 2) (D 2), plW X (P 3) (PQ 3) (D 3)].flatten H := hH
      refine lv_aload_n S.1 S.2.1 dX1_remember_25 rfl (lv_at hl 0 rfl) ?_
      refine lv_dup S.1 S.2.1 dX1_remember_26 rfl ?_
      refine zv_get (v := .int (iI ((4 : Nat) : Int))) S hAM hH nX1_remember_X1 20 rfl rfl 0 (by decide) mX1_remember_1 rfl rfl dX1_remember_27 ?_
      refine lv_iconst (v := iI (((1 : Nat) : Int))) S.1 S.2.1 dX1_remember_30 (by decide) ?_
      refine zv_iadd (z := ((5 : Nat) : Int)) S dX1_remember_31 (by decide) ?_
      refine zv_put (v := .int (iI ((5 : Nat) : Int))) (w2 := [plW X (P 4) (PQ 4) (mkD sc ro ap sl vo ou inn ac ag ai et xt), poW q Qp sc ro ap, aW X (Qp 0) 10 sl, aW X (Qp 1) 8 vo, aW X (Qp 2) 8 ou, aW X (Qp 3) 8 inn, aW X (Qp 4) 8 ac, aW X (Qp 5) 20 ag, aW X (Qp 6) 20 ai, aW X (Qp 7) 20 et, aW X (Qp 8) 20 xt, hiW qh qa ((5 : Nat) : Int), pfW X qa (fun i => some (P i)), plW X (P 0) (PQ 0) (D 0), plW X (P 1) (PQ 1) (D 1), plW X (P 2) (PQ 2) (D 2), plW X (P 3) (PQ 3) (D 3)].flatten) S hAM hH hS nX1_remember_X1 tyX1 tyX1_ok nmX1 20 rfl rfl 0 (by decide) mX1_remember_1 rfl rfl rfl rfl (Nat.le_of_ble_eq_true rfl) rfl dX1_remember_32 (fun H locs hH hS => ?_)
      have hH : Hold X A [hiW qh qa ((5 : Nat) : Int), pfW X qa (fun i => some (P i)), plW X (P 0) (PQ 0) (D 0), plW X (P 1) (PQ 1) (D 1), plW X (P 2) (PQ 2) (D 2), plW X (P 3) (PQ 3) (D 3), plW X (P 4) (PQ 4) (mkD sc ro ap sl vo ou inn ac ag ai et xt), poW q Qp sc ro ap, aW X (Qp 0) 10 sl, aW X (Qp 1) 8 vo, aW X (Qp 2) 8 ou, aW X (Qp 3) 8 inn, aW X (Qp 4) 8 ac, aW X (Qp 5) 20 ag, aW X (Qp 6) 20 ai, aW X (Qp 7) 20 et, aW X (Qp 8) 20 xt].flatten _ := Hold.pick hH [11, 12, 13, 14, 15, 16, 0, 1, 2, 3, 4, 5, 6, 7, 8, 9, 10] rfl 17 rfl (by decide)
      have hH : Hold X A [hiW qh qa ((kmF 4 : Nat) : Int), pfW X qa (fun i => some (P i)), plW X (P 0) (PQ 0) ((upD D 4 (mkD sc ro ap sl vo ou inn ac ag ai et xt)) 0), plW X (P 1) (PQ 1) ((upD D 4 (mkD sc ro ap sl vo ou inn ac ag ai et xt)) 1), plW X (P 2) (PQ 2) ((upD D 4 (mkD sc ro ap sl vo ou inn ac ag ai et xt)) 2), plW X (P 3) (PQ 3) ((upD D 4 (mkD sc ro ap sl vo ou inn ac ag ai et xt)) 3), plW X (P 4) (PQ 4) ((upD D 4 (mkD sc ro ap sl vo ou inn ac ag ai et xt)) 4), poW q Qp sc ro ap, aW X (Qp 0) 10 sl, aW X (Qp 1) 8 vo, aW X (Qp 2) 8 ou, aW X (Qp 3) 8 inn, aW X (Qp 4) 8 ac, aW X (Qp 5) 20 ag, aW X (Qp 6) 20 ai, aW X (Qp 7) 20 et, aW X (Qp 8) 20 xt].flatten _ := hH
      exact hret 35 ls _ _ (P, PQ, (upD D 4 (mkD sc ro ap sl vo ou inn ac ag ai et xt))) dX1_remember_35 rfl hH hS
  · skip
    obtain rfl : kn = 5 := by omega
    refine lv_aload_n S.1 S.2.1 dX1_remember_8 rfl (lv_at hl 0 rfl) ?_
    refine zc_Vv (n := 0) (As := []) (rest := []) S hAM hA (kX1_forgetOldest l X qh qa P PQ D ((5 : Nat) : Int) ) rfl gX1_remember_X1_forgetOldest  (by decide +kernel) ⟨Nat.le_of_ble_eq_true rfl, Nat.le_of_ble_eq_true rfl⟩ hH hS [0, 1, 2, 3, 4, 5, 6, 7, 8, 9, 10, 11, 12, 13, 14, 15, 16] rfl 17 rfl (List.Perm.refl _) 1 0 rfl rfl rfl hl.1 rfl (Nat.le_of_ble_eq_true rfl) dX1_remember_9 ⟨Nat.le_of_ble_eq_true rfl, Nat.le_of_ble_eq_true rfl⟩ (fun _ H locs hp18 hH hS => ?_)
    have hH : Hold X A [hiW qh qa ((4 : Nat) : Int), pfW X qa (fun i => some ((rot P) i)), plW X ((rot P) 0) ((rot PQ) 0) ((rot D) 0), plW X ((rot P) 1) ((rot PQ) 1) ((rot D) 1), plW X ((rot P) 2) ((rot PQ) 2) ((rot D) 2), plW X ((rot P) 3) ((rot PQ) 3) ((rot D) 3), plW X ((rot P) 4) ((rot PQ) 4) ((rot D) 4), poW q Qp sc ro ap, aW X (Qp 0) 10 sl, aW X (Qp 1) 8 vo, aW X (Qp 2) 8 ou, aW X (Qp 3) 8 inn, aW X (Qp 4) 8 ac, aW X (Qp 5) 20 ag, aW X (Qp 6) 20 ai, aW X (Qp 7) 20 et, aW X (Qp 8) 20 xt].flatten H := hH
    refine lv_aload_n S.1 S.2.1 dX1_remember_12 rfl (lv_at hl 0 rfl) ?_
    refine zv_get (v := .ref (qa)) S hAM hH nX1_remember_X1 0 rfl rfl 1 (by decide) mX1_remember_2 rfl rfl dX1_remember_13 ?_
    refine lv_aload_n S.1 S.2.1 dX1_remember_16 rfl (lv_at hl 0 rfl) ?_
    refine zv_get (v := .int (iI ((4 : Nat) : Int))) S hAM hH nX1_remember_X1 0 rfl rfl 0 (by decide) mX1_remember_1 rfl rfl dX1_remember_17 ?_
    refine zv_aald2 (q := (rot P) 4) S hAM hH 1 rfl (4) rfl (by decide) (by decide) rfl dX1_remember_20 ?_
    refine lv_aload_n S.1 S.2.1 dX1_remember_21 rfl (lv_at hl 1 rfl) ?_
    refine zc_Vv (n := 1) (As := [.ref (q)]) (rest := []) S hAM hA (kX2_copyGE l X ((rot P) 4) ((rot PQ) 4) ((rot D) 4) q Qp sc ro ap sl vo ou inn ac ag ai et xt ) rfl gX1_remember_X2_copyFrom  (by decide +kernel) ⟨Nat.le_of_ble_eq_true rfl, Nat.le_of_ble_eq_true rfl⟩ hH hS [6, 7, 8, 9, 10, 11, 12, 13, 14, 15, 16, 0, 1, 2, 3, 4, 5] rfl 17 rfl (by decide) 2 0 rfl rfl rfl hl.1 rfl (Nat.le_of_ble_eq_true rfl) dX1_remember_22 ⟨Nat.le_of_ble_eq_true rfl, Nat.le_of_ble_eq_true rfl⟩ (fun _ H locs hp21 hH hS => ?_)
    have hH : Hold X A [plW X ((rot P) 4) ((rot PQ) 4) (mkD sc ro ap sl vo ou inn ac ag ai et xt), poW q Qp sc ro ap, aW X (Qp 0) 10 sl, aW X (Qp 1) 8 vo, aW X (Qp 2) 8 ou, aW X (Qp 3) 8 inn, aW X (Qp 4) 8 ac, aW X (Qp 5) 20 ag, aW X (Qp 6) 20 ai, aW X (Qp 7) 20 et, aW X (Qp 8) 20 xt, hiW qh qa ((4 : Nat) : Int), pfW X qa (fun i => some ((rot P) i)), plW X ((rot P) 0) ((rot PQ) 0) ((rot D) 0), plW X ((rot P) 1) ((rot PQ) 1) ((rot D) 1), plW X ((rot P) 2) ((rot PQ) 2) ((rot D) 2), plW X ((rot P) 3) ((rot PQ) 3) ((rot D) 3)].flatten H := hH
    refine lv_aload_n S.1 S.2.1 dX1_remember_25 rfl (lv_at hl 0 rfl) ?_
    refine lv_dup S.1 S.2.1 dX1_remember_26 rfl ?_
    refine zv_get (v := .int (iI ((4 : Nat) : Int))) S hAM hH nX1_remember_X1 20 rfl rfl 0 (by decide) mX1_remember_1 rfl rfl dX1_remember_27 ?_
    refine lv_iconst (v := iI (((1 : Nat) : Int))) S.1 S.2.1 dX1_remember_30 (by decide) ?_
    refine zv_iadd (z := ((5 : Nat) : Int)) S dX1_remember_31 (by decide) ?_
    refine zv_put (v := .int (iI ((5 : Nat) : Int))) (w2 := [plW X ((rot P) 4) ((rot PQ) 4) (mkD sc ro ap sl vo ou inn ac ag ai et xt), poW q Qp sc ro ap, aW X (Qp 0) 10 sl, aW X (Qp 1) 8 vo, aW X (Qp 2) 8 ou, aW X (Qp 3) 8 inn, aW X (Qp 4) 8 ac, aW X (Qp 5) 20 ag, aW X (Qp 6) 20 ai, aW X (Qp 7) 20 et, aW X (Qp 8) 20 xt, hiW qh qa ((5 : Nat) : Int), pfW X qa (fun i => some ((rot P) i)), plW X ((rot P) 0) ((rot PQ) 0) ((rot D) 0), plW X ((rot P) 1) ((rot PQ) 1) ((rot D) 1), plW X ((rot P) 2) ((rot PQ) 2) ((rot D) 2), plW X ((rot P) 3) ((rot PQ) 3) ((rot D) 3)].flatten) S hAM hH hS nX1_remember_X1 tyX1 tyX1_ok nmX1 20 rfl rfl 0 (by decide) mX1_remember_1 rfl rfl rfl rfl (Nat.le_of_ble_eq_true rfl) rfl dX1_remember_32 (fun H locs hH hS => ?_)
    have hH : Hold X A [hiW qh qa ((5 : Nat) : Int), pfW X qa (fun i => some ((rot P) i)), plW X ((rot P) 0) ((rot PQ) 0) ((rot D) 0), plW X ((rot P) 1) ((rot PQ) 1) ((rot D) 1), plW X ((rot P) 2) ((rot PQ) 2) ((rot D) 2), plW X ((rot P) 3) ((rot PQ) 3) ((rot D) 3), plW X ((rot P) 4) ((rot PQ) 4) (mkD sc ro ap sl vo ou inn ac ag ai et xt), poW q Qp sc ro ap, aW X (Qp 0) 10 sl, aW X (Qp 1) 8 vo, aW X (Qp 2) 8 ou, aW X (Qp 3) 8 inn, aW X (Qp 4) 8 ac, aW X (Qp 5) 20 ag, aW X (Qp 6) 20 ai, aW X (Qp 7) 20 et, aW X (Qp 8) 20 xt].flatten _ := Hold.pick hH [11, 12, 13, 14, 15, 16, 0, 1, 2, 3, 4, 5, 6, 7, 8, 9, 10] rfl 17 rfl (by decide)
    have hH : Hold X A [hiW qh qa ((kmF 5 : Nat) : Int), pfW X qa (fun i => some ((rot P) i)), plW X ((rot P) 0) ((rot PQ) 0) ((upD (rot D) 4 (mkD sc ro ap sl vo ou inn ac ag ai et xt)) 0), plW X ((rot P) 1) ((rot PQ) 1) ((upD (rot D) 4 (mkD sc ro ap sl vo ou inn ac ag ai et xt)) 1), plW X ((rot P) 2) ((rot PQ) 2) ((upD (rot D) 4 (mkD sc ro ap sl vo ou inn ac ag ai et xt)) 2), plW X ((rot P) 3) ((rot PQ) 3) ((upD (rot D) 4 (mkD sc ro ap sl vo ou inn ac ag ai et xt)) 3), plW X ((rot P) 4) ((rot PQ) 4) ((upD (rot D) 4 (mkD sc ro ap sl vo ou inn ac ag ai et xt)) 4), poW q Qp sc ro ap, aW X (Qp 0) 10 sl, aW X (Qp 1) 8 vo, aW X (Qp 2) 8 ou, aW X (Qp 3) 8 inn, aW X (Qp 4) 8 ac, aW X (Qp 5) 20 ag, aW X (Qp 6) 20 ai, aW X (Qp 7) 20 et, aW X (Qp 8) 20 xt].flatten _ := hH
    exact hret 35 ls _ _ ((rot P), (rot PQ), (upD (rot D) 4 (mkD sc ro ap sl vo ou inn ac ag ai et xt))) dX1_remember_35 rfl hH hS

theorem mX1_bringBack_1 : Cond.fieldLink RX1 18 "RoleDoublingPlanner$History" "kept" "I" ∈ wsX1_bringBack := List.mem_of_getElem? (i := 1) rfl
theorem nX1_bringBack_X1 : ∀ w ∈ wsX10, w ∈ wsX1_bringBack := fun _ h => List.mem_cons_of_mem _ (List.mem_append_left _ (List.mem_append_right _ h))
theorem mX1_bringBack_2 : Cond.fieldLink RX1 11 "RoleDoublingPlanner$History" "past" "[LRoleDoublingPlanner$Play;" ∈ wsX1_bringBack := List.mem_of_getElem? (i := 2) rfl
set_option maxHeartbeats 4000000 in
set_option maxRecDepth 100000 in
theorem kX1_bringBack (l : Launch) (X : XT) (qh : Nat) (qa : Nat) (P : Nat → Nat) (PQ : Nat → Nat → Nat) (D : Nat → PlD) (kn : Nat) (q : Nat) (Qp : Nat → Nat) (sc : Int) (ro : Int) (ap : Int) (sl : Nat → Int) (vo : Nat → Int) (ou : Nat → Int) (inn : Nat → Int) (ac : Nat → Int) (ag : Nat → Int) (ai : Nat → Int) (et : Nat → Int) (xt : Nat → Int) (hkn : 1 ≤ kn ∧ kn ≤ 5) : Cv l yX1_bringBack wsX1_bringBack (rmD 2) X [.ref qh, .ref (q)] [hiW qh qa ((kn : Nat) : Int), pfW X qa (fun i => some (P i)), plW X (P 0) (PQ 0) (D 0), plW X (P 1) (PQ 1) (D 1), plW X (P 2) (PQ 2) (D 2), plW X (P 3) (PQ 3) (D 3), plW X (P 4) (PQ 4) (D 4), poW q Qp sc ro ap, aW X (Qp 0) 10 sl, aW X (Qp 1) 8 vo, aW X (Qp 2) 8 ou, aW X (Qp 3) 8 inn, aW X (Qp 4) 8 ac, aW X (Qp 5) 20 ag, aW X (Qp 6) 20 ai, aW X (Qp 7) 20 et, aW X (Qp 8) 20 xt] (fun (_ : Unit) => True) (fun (_ : Unit) => [hiW qh qa ((kn - 1 : Nat) : Int), pfW X qa (fun i => some (P i)), plW X (P 0) (PQ 0) (D 0), plW X (P 1) (PQ 1) (D 1), plW X (P 2) (PQ 2) (D 2), plW X (P 3) (PQ 3) (D 3), plW X (P 4) (PQ 4) (D 4), poW q Qp ((D (kn - 1)).1.1) ((D (kn - 1)).1.2.1) ((D (kn - 1)).1.2.2), aW X (Qp 0) 10 ((D (kn - 1)).2 0), aW X (Qp 1) 8 ((D (kn - 1)).2 1), aW X (Qp 2) 8 ((D (kn - 1)).2 2), aW X (Qp 3) 8 ((D (kn - 1)).2 3), aW X (Qp 4) 8 ((D (kn - 1)).2 4), aW X (Qp 5) 20 ((D (kn - 1)).2 5), aW X (Qp 6) 20 ((D (kn - 1)).2 6), aW X (Qp 7) 20 ((D (kn - 1)).2 7), aW X (Qp 8) 20 ((D (kn - 1)).2 8)]) := by
  refine Cv.ofW (cc := cX1_bringBack) (maxL := 2) (by decide) rfl (Nat.le_of_ble_eq_true rfl) ?_
  intro p_ e_ s_ m_ below meth c_ A Q_ S hA hAM hH hS hmn hret ls hl
  have hl : lv_has ls 2 [(0, .ref (qh)), (1, .ref (q))] := hl
  refine lv_aload_n S.1 S.2.1 dX1_bringBack_0 rfl (lv_at hl 0 rfl) ?_
  refine zv_get (v := .int (iI ((kn : Nat) : Int))) S hAM hH nX1_bringBack_X1 0 rfl rfl 0 (by decide) mX1_bringBack_1 rfl rfl dX1_bringBack_1 ?_
  refine zv_if_le (tgt := 30) S dX1_bringBack_4 (by decide) (by omega) (fun c_4 => ?_) (fun c_4 => ?_)
  · exact (show False by omega).elim
  · skip
    rcases (show kn = 1 ∨ kn = 2 ∨ kn = 3 ∨ kn = 4 ∨ kn = 5 by omega) with rfl | rfl | rfl | rfl | rfl
    · skip
      refine lv_aload_n S.1 S.2.1 dX1_bringBack_7 rfl (lv_at hl 0 rfl) ?_
      refine lv_dup S.1 S.2.1 dX1_bringBack_8 rfl ?_
      refine zv_get (v := .int (iI ((1 : Nat) : Int))) S hAM hH nX1_bringBack_X1 0 rfl rfl 0 (by decide) mX1_bringBack_1 rfl rfl dX1_bringBack_9 ?_
      refine lv_iconst (v := iI (((1 : Nat) : Int))) S.1 S.2.1 dX1_bringBack_12 (by decide) ?_
      refine zv_isub (z := ((0 : Nat) : Int)) S dX1_bringBack_13 (by decide) ?_
      refine zv_put (v := .int (iI ((0 : Nat) : Int))) (w2 := [hiW qh qa ((0 : Nat) : Int), pfW X qa (fun i => some (P i)), plW X (P 0) (PQ 0) (D 0), plW X (P 1) (PQ 1) (D 1), plW X (P 2) (PQ 2) (D 2), plW X (P 3) (PQ 3) (D 3), plW X (P 4) (PQ 4) (D 4), poW q Qp sc ro ap, aW X (Qp 0) 10 sl, aW X (Qp 1) 8 vo, aW X (Qp 2) 8 ou, aW X (Qp 3) 8 inn, aW X (Qp 4) 8 ac, aW X (Qp 5) 20 ag, aW X (Qp 6) 20 ai, aW X (Qp 7) 20 et, aW X (Qp 8) 20 xt].flatten) S hAM hH hS nX1_bringBack_X1 tyX1 tyX1_ok nmX1 0 rfl rfl 0 (by decide) mX1_bringBack_1 rfl rfl rfl rfl (Nat.le_of_ble_eq_true rfl) rfl dX1_bringBack_14 (fun H locs hH hS => ?_)
      refine lv_aload_n S.1 S.2.1 dX1_bringBack_17 rfl (lv_at hl 1 rfl) ?_
      refine lv_aload_n S.1 S.2.1 dX1_bringBack_18 rfl (lv_at hl 0 rfl) ?_
      refine zv_get (v := .ref (qa)) S hAM hH nX1_bringBack_X1 0 rfl rfl 1 (by decide) mX1_bringBack_2 rfl rfl dX1_bringBack_19 ?_
      refine lv_aload_n S.1 S.2.1 dX1_bringBack_22 rfl (lv_at hl 0 rfl) ?_
      refine zv_get (v := .int (iI ((0 : Nat) : Int))) S hAM hH nX1_bringBack_X1 0 rfl rfl 0 (by decide) mX1_bringBack_1 rfl rfl dX1_bringBack_23 ?_
      refine zv_aald2 (q := P 0) S hAM hH 1 rfl (0) rfl (by decide) (by decide) rfl dX1_bringBack_26 ?_
      refine zc_Vv (n := 1) (As := [.ref (P 0)]) (rest := []) S hAM hA (kX2_copyEG l X q Qp sc ro ap sl vo ou inn ac ag ai et xt (P 0) (PQ 0) (D 0) ) rfl gX1_bringBack_X2_copyFrom  (by decide +kernel) ⟨Nat.le_of_ble_eq_true rfl, Nat.le_of_ble_eq_true rfl⟩ hH hS [7, 8, 9, 10, 11, 12, 13, 14, 15, 16, 2, 0, 1, 3, 4, 5, 6] rfl 17 rfl (by decide) 2 0 rfl rfl rfl hl.1 rfl (Nat.le_of_ble_eq_true rfl) dX1_bringBack_27 ⟨Nat.le_of_ble_eq_true rfl, Nat.le_of_ble_eq_true rfl⟩ (fun _ H locs hp3 hH hS => ?_)
      have hH : Hold X A [poW q Qp ((D 0).1.1) ((D 0).1.2.1) ((D 0).1.2.2), aW X (Qp 0) 10 ((D 0).2 0), aW X (Qp 1) 8 ((D 0).2 1), aW X (Qp 2) 8 ((D 0).2 2), aW X (Qp 3) 8 ((D 0).2 3), aW X (Qp 4) 8 ((D 0).2 4), aW X (Qp 5) 20 ((D 0).2 5), aW X (Qp 6) 20 ((D 0).2 6), aW X (Qp 7) 20 ((D 0).2 7), aW X (Qp 8) 20 ((D 0).2 8), plW X (P 0) (PQ 0) (D 0), hiW qh qa ((0 : Nat) : Int), pfW X qa (fun i => some (P i)), plW X (P 1) (PQ 1) (D 1), plW X (P 2) (PQ 2) (D 2), plW X (P 3) (PQ 3) (D 3), plW X (P 4) (PQ 4) (D 4)].flatten H := hH
      have hH : Hold X A [hiW qh qa ((0 : Nat) : Int), pfW X qa (fun i => some (P i)), plW X (P 0) (PQ 0) (D 0), plW X (P 1) (PQ 1) (D 1), plW X (P 2) (PQ 2) (D 2), plW X (P 3) (PQ 3) (D 3), plW X (P 4) (PQ 4) (D 4), poW q Qp ((D 0).1.1) ((D 0).1.2.1) ((D 0).1.2.2), aW X (Qp 0) 10 ((D 0).2 0), aW X (Qp 1) 8 ((D 0).2 1), aW X (Qp 2) 8 ((D 0).2 2), aW X (Qp 3) 8 ((D 0).2 3), aW X (Qp 4) 8 ((D 0).2 4), aW X (Qp 5) 20 ((D 0).2 5), aW X (Qp 6) 20 ((D 0).2 6), aW X (Qp 7) 20 ((D 0).2 7), aW X (Qp 8) 20 ((D 0).2 8)].flatten _ := hH.pick [11, 12, 10, 13, 14, 15, 16, 0, 1, 2, 3, 4, 5, 6, 7, 8, 9] rfl 17 rfl (by decide)
      exact hret 30 ls _ _ () dX1_bringBack_30 trivial hH hS
    · skip
      refine lv_aload_n S.1 S.2.1 dX1_bringBack_7 rfl (lv_at hl 0 rfl) ?_
      refine lv_dup S.1 S.2.1 dX1_bringBack_8 rfl ?_
      refine zv_get (v := .int (iI ((2 : Nat) : Int))) S hAM hH nX1_bringBack_X1 0 rfl rfl 0 (by decide) mX1_bringBack_1 rfl rfl dX1_bringBack_9 ?_
      refine lv_iconst (v := iI (((1 : Nat) : Int))) S.1 S.2.1 dX1_bringBack_12 (by decide) ?_
      refine zv_isub (z := ((1 : Nat) : Int)) S dX1_bringBack_13 (by decide) ?_
      refine zv_put (v := .int (iI ((1 : Nat) : Int))) (w2 := [hiW qh qa ((1 : Nat) : Int), pfW X qa (fun i => some (P i)), plW X (P 0) (PQ 0) (D 0), plW X (P 1) (PQ 1) (D 1), plW X (P 2) (PQ 2) (D 2), plW X (P 3) (PQ 3) (D 3), plW X (P 4) (PQ 4) (D 4), poW q Qp sc ro ap, aW X (Qp 0) 10 sl, aW X (Qp 1) 8 vo, aW X (Qp 2) 8 ou, aW X (Qp 3) 8 inn, aW X (Qp 4) 8 ac, aW X (Qp 5) 20 ag, aW X (Qp 6) 20 ai, aW X (Qp 7) 20 et, aW X (Qp 8) 20 xt].flatten) S hAM hH hS nX1_bringBack_X1 tyX1 tyX1_ok nmX1 0 rfl rfl 0 (by decide) mX1_bringBack_1 rfl rfl rfl rfl (Nat.le_of_ble_eq_true rfl) rfl dX1_bringBack_14 (fun H locs hH hS => ?_)
      refine lv_aload_n S.1 S.2.1 dX1_bringBack_17 rfl (lv_at hl 1 rfl) ?_
      refine lv_aload_n S.1 S.2.1 dX1_bringBack_18 rfl (lv_at hl 0 rfl) ?_
      refine zv_get (v := .ref (qa)) S hAM hH nX1_bringBack_X1 0 rfl rfl 1 (by decide) mX1_bringBack_2 rfl rfl dX1_bringBack_19 ?_
      refine lv_aload_n S.1 S.2.1 dX1_bringBack_22 rfl (lv_at hl 0 rfl) ?_
      refine zv_get (v := .int (iI ((1 : Nat) : Int))) S hAM hH nX1_bringBack_X1 0 rfl rfl 0 (by decide) mX1_bringBack_1 rfl rfl dX1_bringBack_23 ?_
      refine zv_aald2 (q := P 1) S hAM hH 1 rfl (1) rfl (by decide) (by decide) rfl dX1_bringBack_26 ?_
      refine zc_Vv (n := 1) (As := [.ref (P 1)]) (rest := []) S hAM hA (kX2_copyEG l X q Qp sc ro ap sl vo ou inn ac ag ai et xt (P 1) (PQ 1) (D 1) ) rfl gX1_bringBack_X2_copyFrom  (by decide +kernel) ⟨Nat.le_of_ble_eq_true rfl, Nat.le_of_ble_eq_true rfl⟩ hH hS [7, 8, 9, 10, 11, 12, 13, 14, 15, 16, 3, 0, 1, 2, 4, 5, 6] rfl 17 rfl (by decide) 2 0 rfl rfl rfl hl.1 rfl (Nat.le_of_ble_eq_true rfl) dX1_bringBack_27 ⟨Nat.le_of_ble_eq_true rfl, Nat.le_of_ble_eq_true rfl⟩ (fun _ H locs hp6 hH hS => ?_)
      have hH : Hold X A [poW q Qp ((D 1).1.1) ((D 1).1.2.1) ((D 1).1.2.2), aW X (Qp 0) 10 ((D 1).2 0), aW X (Qp 1) 8 ((D 1).2 1), aW X (Qp 2) 8 ((D 1).2 2), aW X (Qp 3) 8 ((D 1).2 3), aW X (Qp 4) 8 ((D 1).2 4), aW X (Qp 5) 20 ((D 1).2 5), aW X (Qp 6) 20 ((D 1).2 6), aW X (Qp 7) 20 ((D 1).2 7), aW X (Qp 8) 20 ((D 1).2 8), plW X (P 1) (PQ 1) (D 1), hiW qh qa ((1 : Nat) : Int), pfW X qa (fun i => some (P i)), plW X (P 0) (PQ 0) (D 0), plW X (P 2) (PQ 2) (D 2), plW X (P 3) (PQ 3) (D 3), plW X (P 4) (PQ 4) (D 4)].flatten H := hH
      have hH : Hold X A [hiW qh qa ((1 : Nat) : Int), pfW X qa (fun i => some (P i)), plW X (P 0) (PQ 0) (D 0), plW X (P 1) (PQ 1) (D 1), plW X (P 2) (PQ 2) (D 2), plW X (P 3) (PQ 3) (D 3), plW X (P 4) (PQ 4) (D 4), poW q Qp ((D 1).1.1) ((D 1).1.2.1) ((D 1).1.2.2), aW X (Qp 0) 10 ((D 1).2 0), aW X (Qp 1) 8 ((D 1).2 1), aW X (Qp 2) 8 ((D 1).2 2), aW X (Qp 3) 8 ((D 1).2 3), aW X (Qp 4) 8 ((D 1).2 4), aW X (Qp 5) 20 ((D 1).2 5), aW X (Qp 6) 20 ((D 1).2 6), aW X (Qp 7) 20 ((D 1).2 7), aW X (Qp 8) 20 ((D 1).2 8)].flatten _ := hH.pick [11, 12, 13, 10, 14, 15, 16, 0, 1, 2, 3, 4, 5, 6, 7, 8, 9] rfl 17 rfl (by decide)
      exact hret 30 ls _ _ () dX1_bringBack_30 trivial hH hS
    · skip
      refine lv_aload_n S.1 S.2.1 dX1_bringBack_7 rfl (lv_at hl 0 rfl) ?_
      refine lv_dup S.1 S.2.1 dX1_bringBack_8 rfl ?_
      refine zv_get (v := .int (iI ((3 : Nat) : Int))) S hAM hH nX1_bringBack_X1 0 rfl rfl 0 (by decide) mX1_bringBack_1 rfl rfl dX1_bringBack_9 ?_
      refine lv_iconst (v := iI (((1 : Nat) : Int))) S.1 S.2.1 dX1_bringBack_12 (by decide) ?_
      refine zv_isub (z := ((2 : Nat) : Int)) S dX1_bringBack_13 (by decide) ?_
      refine zv_put (v := .int (iI ((2 : Nat) : Int))) (w2 := [hiW qh qa ((2 : Nat) : Int), pfW X qa (fun i => some (P i)), plW X (P 0) (PQ 0) (D 0), plW X (P 1) (PQ 1) (D 1), plW X (P 2) (PQ 2) (D 2), plW X (P 3) (PQ 3) (D 3), plW X (P 4) (PQ 4) (D 4), poW q Qp sc ro ap, aW X (Qp 0) 10 sl, aW X (Qp 1) 8 vo, aW X (Qp 2) 8 ou, aW X (Qp 3) 8 inn, aW X (Qp 4) 8 ac, aW X (Qp 5) 20 ag, aW X (Qp 6) 20 ai, aW X (Qp 7) 20 et, aW X (Qp 8) 20 xt].flatten) S hAM hH hS nX1_bringBack_X1 tyX1 tyX1_ok nmX1 0 rfl rfl 0 (by decide) mX1_bringBack_1 rfl rfl rfl rfl (Nat.le_of_ble_eq_true rfl) rfl dX1_bringBack_14 (fun H locs hH hS => ?_)
      refine lv_aload_n S.1 S.2.1 dX1_bringBack_17 rfl (lv_at hl 1 rfl) ?_
      refine lv_aload_n S.1 S.2.1 dX1_bringBack_18 rfl (lv_at hl 0 rfl) ?_
      refine zv_get (v := .ref (qa)) S hAM hH nX1_bringBack_X1 0 rfl rfl 1 (by decide) mX1_bringBack_2 rfl rfl dX1_bringBack_19 ?_
      refine lv_aload_n S.1 S.2.1 dX1_bringBack_22 rfl (lv_at hl 0 rfl) ?_
      refine zv_get (v := .int (iI ((2 : Nat) : Int))) S hAM hH nX1_bringBack_X1 0 rfl rfl 0 (by decide) mX1_bringBack_1 rfl rfl dX1_bringBack_23 ?_
      refine zv_aald2 (q := P 2) S hAM hH 1 rfl (2) rfl (by decide) (by decide) rfl dX1_bringBack_26 ?_
      refine zc_Vv (n := 1) (As := [.ref (P 2)]) (rest := []) S hAM hA (kX2_copyEG l X q Qp sc ro ap sl vo ou inn ac ag ai et xt (P 2) (PQ 2) (D 2) ) rfl gX1_bringBack_X2_copyFrom  (by decide +kernel) ⟨Nat.le_of_ble_eq_true rfl, Nat.le_of_ble_eq_true rfl⟩ hH hS [7, 8, 9, 10, 11, 12, 13, 14, 15, 16, 4, 0, 1, 2, 3, 5, 6] rfl 17 rfl (by decide) 2 0 rfl rfl rfl hl.1 rfl (Nat.le_of_ble_eq_true rfl) dX1_bringBack_27 ⟨Nat.le_of_ble_eq_true rfl, Nat.le_of_ble_eq_true rfl⟩ (fun _ H locs hp9 hH hS => ?_)
      have hH : Hold X A [poW q Qp ((D 2).1.1) ((D 2).1.2.1) ((D 2).1.2.2), aW X (Qp 0) 10 ((D 2).2 0), aW X (Qp 1) 8 ((D 2).2 1), aW X (Qp 2) 8 ((D 2).2 2), aW X (Qp 3) 8 ((D 2).2 3), aW X (Qp 4) 8 ((D 2).2 4), aW X (Qp 5) 20 ((D 2).2 5), aW X (Qp 6) 20 ((D 2).2 6), aW X (Qp 7) 20 ((D 2).2 7), aW X (Qp 8) 20 ((D 2).2 8), plW X (P 2) (PQ 2) (D 2), hiW qh qa ((2 : Nat) : Int), pfW X qa (fun i => some (P i)), plW X (P 0) (PQ 0) (D 0), plW X (P 1) (PQ 1) (D 1), plW X (P 3) (PQ 3) (D 3), plW X (P 4) (PQ 4) (D 4)].flatten H := hH
      have hH : Hold X A [hiW qh qa ((2 : Nat) : Int), pfW X qa (fun i => some (P i)), plW X (P 0) (PQ 0) (D 0), plW X (P 1) (PQ 1) (D 1), plW X (P 2) (PQ 2) (D 2), plW X (P 3) (PQ 3) (D 3), plW X (P 4) (PQ 4) (D 4), poW q Qp ((D 2).1.1) ((D 2).1.2.1) ((D 2).1.2.2), aW X (Qp 0) 10 ((D 2).2 0), aW X (Qp 1) 8 ((D 2).2 1), aW X (Qp 2) 8 ((D 2).2 2), aW X (Qp 3) 8 ((D 2).2 3), aW X (Qp 4) 8 ((D 2).2 4), aW X (Qp 5) 20 ((D 2).2 5), aW X (Qp 6) 20 ((D 2).2 6), aW X (Qp 7) 20 ((D 2).2 7), aW X (Qp 8) 20 ((D 2).2 8)].flatten _ := hH.pick [11, 12, 13, 14, 10, 15, 16, 0, 1, 2, 3, 4, 5, 6, 7, 8, 9] rfl 17 rfl (by decide)
      exact hret 30 ls _ _ () dX1_bringBack_30 trivial hH hS
    · skip
      refine lv_aload_n S.1 S.2.1 dX1_bringBack_7 rfl (lv_at hl 0 rfl) ?_
      refine lv_dup S.1 S.2.1 dX1_bringBack_8 rfl ?_
      refine zv_get (v := .int (iI ((4 : Nat) : Int))) S hAM hH nX1_bringBack_X1 0 rfl rfl 0 (by decide) mX1_bringBack_1 rfl rfl dX1_bringBack_9 ?_
      refine lv_iconst (v := iI (((1 : Nat) : Int))) S.1 S.2.1 dX1_bringBack_12 (by decide) ?_
      refine zv_isub (z := ((3 : Nat) : Int)) S dX1_bringBack_13 (by decide) ?_
      refine zv_put (v := .int (iI ((3 : Nat) : Int))) (w2 := [hiW qh qa ((3 : Nat) : Int), pfW X qa (fun i => some (P i)), plW X (P 0) (PQ 0) (D 0), plW X (P 1) (PQ 1) (D 1), plW X (P 2) (PQ 2) (D 2), plW X (P 3) (PQ 3) (D 3), plW X (P 4) (PQ 4) (D 4), poW q Qp sc ro ap, aW X (Qp 0) 10 sl, aW X (Qp 1) 8 vo, aW X (Qp 2) 8 ou, aW X (Qp 3) 8 inn, aW X (Qp 4) 8 ac, aW X (Qp 5) 20 ag, aW X (Qp 6) 20 ai, aW X (Qp 7) 20 et, aW X (Qp 8) 20 xt].flatten) S hAM hH hS nX1_bringBack_X1 tyX1 tyX1_ok nmX1 0 rfl rfl 0 (by decide) mX1_bringBack_1 rfl rfl rfl rfl (Nat.le_of_ble_eq_true rfl) rfl dX1_bringBack_14 (fun H locs hH hS => ?_)
      refine lv_aload_n S.1 S.2.1 dX1_bringBack_17 rfl (lv_at hl 1 rfl) ?_
      refine lv_aload_n S.1 S.2.1 dX1_bringBack_18 rfl (lv_at hl 0 rfl) ?_
      refine zv_get (v := .ref (qa)) S hAM hH nX1_bringBack_X1 0 rfl rfl 1 (by decide) mX1_bringBack_2 rfl rfl dX1_bringBack_19 ?_
      refine lv_aload_n S.1 S.2.1 dX1_bringBack_22 rfl (lv_at hl 0 rfl) ?_
      refine zv_get (v := .int (iI ((3 : Nat) : Int))) S hAM hH nX1_bringBack_X1 0 rfl rfl 0 (by decide) mX1_bringBack_1 rfl rfl dX1_bringBack_23 ?_
      refine zv_aald2 (q := P 3) S hAM hH 1 rfl (3) rfl (by decide) (by decide) rfl dX1_bringBack_26 ?_
      refine zc_Vv (n := 1) (As := [.ref (P 3)]) (rest := []) S hAM hA (kX2_copyEG l X q Qp sc ro ap sl vo ou inn ac ag ai et xt (P 3) (PQ 3) (D 3) ) rfl gX1_bringBack_X2_copyFrom  (by decide +kernel) ⟨Nat.le_of_ble_eq_true rfl, Nat.le_of_ble_eq_true rfl⟩ hH hS [7, 8, 9, 10, 11, 12, 13, 14, 15, 16, 5, 0, 1, 2, 3, 4, 6] rfl 17 rfl (by decide) 2 0 rfl rfl rfl hl.1 rfl (Nat.le_of_ble_eq_true rfl) dX1_bringBack_27 ⟨Nat.le_of_ble_eq_true rfl, Nat.le_of_ble_eq_true rfl⟩ (fun _ H locs hp12 hH hS => ?_)
      have hH : Hold X A [poW q Qp ((D 3).1.1) ((D 3).1.2.1) ((D 3).1.2.2), aW X (Qp 0) 10 ((D 3).2 0), aW X (Qp 1) 8 ((D 3).2 1), aW X (Qp 2) 8 ((D 3).2 2), aW X (Qp 3) 8 ((D 3).2 3), aW X (Qp 4) 8 ((D 3).2 4), aW X (Qp 5) 20 ((D 3).2 5), aW X (Qp 6) 20 ((D 3).2 6), aW X (Qp 7) 20 ((D 3).2 7), aW X (Qp 8) 20 ((D 3).2 8), plW X (P 3) (PQ 3) (D 3), hiW qh qa ((3 : Nat) : Int), pfW X qa (fun i => some (P i)), plW X (P 0) (PQ 0) (D 0), plW X (P 1) (PQ 1) (D 1), plW X (P 2) (PQ 2) (D 2), plW X (P 4) (PQ 4) (D 4)].flatten H := hH
      have hH : Hold X A [hiW qh qa ((3 : Nat) : Int), pfW X qa (fun i => some (P i)), plW X (P 0) (PQ 0) (D 0), plW X (P 1) (PQ 1) (D 1), plW X (P 2) (PQ 2) (D 2), plW X (P 3) (PQ 3) (D 3), plW X (P 4) (PQ 4) (D 4), poW q Qp ((D 3).1.1) ((D 3).1.2.1) ((D 3).1.2.2), aW X (Qp 0) 10 ((D 3).2 0), aW X (Qp 1) 8 ((D 3).2 1), aW X (Qp 2) 8 ((D 3).2 2), aW X (Qp 3) 8 ((D 3).2 3), aW X (Qp 4) 8 ((D 3).2 4), aW X (Qp 5) 20 ((D 3).2 5), aW X (Qp 6) 20 ((D 3).2 6), aW X (Qp 7) 20 ((D 3).2 7), aW X (Qp 8) 20 ((D 3).2 8)].flatten _ := hH.pick [11, 12, 13, 14, 15, 10, 16, 0, 1, 2, 3, 4, 5, 6, 7, 8, 9] rfl 17 rfl (by decide)
      exact hret 30 ls _ _ () dX1_bringBack_30 trivial hH hS
    · skip
      refine lv_aload_n S.1 S.2.1 dX1_bringBack_7 rfl (lv_at hl 0 rfl) ?_
      refine lv_dup S.1 S.2.1 dX1_bringBack_8 rfl ?_
      refine zv_get (v := .int (iI ((5 : Nat) : Int))) S hAM hH nX1_bringBack_X1 0 rfl rfl 0 (by decide) mX1_bringBack_1 rfl rfl dX1_bringBack_9 ?_
      refine lv_iconst (v := iI (((1 : Nat) : Int))) S.1 S.2.1 dX1_bringBack_12 (by decide) ?_
      refine zv_isub (z := ((4 : Nat) : Int)) S dX1_bringBack_13 (by decide) ?_
      refine zv_put (v := .int (iI ((4 : Nat) : Int))) (w2 := [hiW qh qa ((4 : Nat) : Int), pfW X qa (fun i => some (P i)), plW X (P 0) (PQ 0) (D 0), plW X (P 1) (PQ 1) (D 1), plW X (P 2) (PQ 2) (D 2), plW X (P 3) (PQ 3) (D 3), plW X (P 4) (PQ 4) (D 4), poW q Qp sc ro ap, aW X (Qp 0) 10 sl, aW X (Qp 1) 8 vo, aW X (Qp 2) 8 ou, aW X (Qp 3) 8 inn, aW X (Qp 4) 8 ac, aW X (Qp 5) 20 ag, aW X (Qp 6) 20 ai, aW X (Qp 7) 20 et, aW X (Qp 8) 20 xt].flatten) S hAM hH hS nX1_bringBack_X1 tyX1 tyX1_ok nmX1 0 rfl rfl 0 (by decide) mX1_bringBack_1 rfl rfl rfl rfl (Nat.le_of_ble_eq_true rfl) rfl dX1_bringBack_14 (fun H locs hH hS => ?_)
      refine lv_aload_n S.1 S.2.1 dX1_bringBack_17 rfl (lv_at hl 1 rfl) ?_
      refine lv_aload_n S.1 S.2.1 dX1_bringBack_18 rfl (lv_at hl 0 rfl) ?_
      refine zv_get (v := .ref (qa)) S hAM hH nX1_bringBack_X1 0 rfl rfl 1 (by decide) mX1_bringBack_2 rfl rfl dX1_bringBack_19 ?_
      refine lv_aload_n S.1 S.2.1 dX1_bringBack_22 rfl (lv_at hl 0 rfl) ?_
      refine zv_get (v := .int (iI ((4 : Nat) : Int))) S hAM hH nX1_bringBack_X1 0 rfl rfl 0 (by decide) mX1_bringBack_1 rfl rfl dX1_bringBack_23 ?_
      refine zv_aald2 (q := P 4) S hAM hH 1 rfl (4) rfl (by decide) (by decide) rfl dX1_bringBack_26 ?_
      refine zc_Vv (n := 1) (As := [.ref (P 4)]) (rest := []) S hAM hA (kX2_copyEG l X q Qp sc ro ap sl vo ou inn ac ag ai et xt (P 4) (PQ 4) (D 4) ) rfl gX1_bringBack_X2_copyFrom  (by decide +kernel) ⟨Nat.le_of_ble_eq_true rfl, Nat.le_of_ble_eq_true rfl⟩ hH hS [7, 8, 9, 10, 11, 12, 13, 14, 15, 16, 6, 0, 1, 2, 3, 4, 5] rfl 17 rfl (by decide) 2 0 rfl rfl rfl hl.1 rfl (Nat.le_of_ble_eq_true rfl) dX1_bringBack_27 ⟨Nat.le_of_ble_eq_true rfl, Nat.le_of_ble_eq_true rfl⟩ (fun _ H locs hp15 hH hS => ?_)
      have hH : Hold X A [poW q Qp ((D 4).1.1) ((D 4).1.2.1) ((D 4).1.2.2), aW X (Qp 0) 10 ((D 4).2 0), aW X (Qp 1) 8 ((D 4).2 1), aW X (Qp 2) 8 ((D 4).2 2), aW X (Qp 3) 8 ((D 4).2 3), aW X (Qp 4) 8 ((D 4).2 4), aW X (Qp 5) 20 ((D 4).2 5), aW X (Qp 6) 20 ((D 4).2 6), aW X (Qp 7) 20 ((D 4).2 7), aW X (Qp 8) 20 ((D 4).2 8), plW X (P 4) (PQ 4) (D 4), hiW qh qa ((4 : Nat) : Int), pfW X qa (fun i => some (P i)), plW X (P 0) (PQ 0) (D 0), plW X (P 1) (PQ 1) (D 1), plW X (P 2) (PQ 2) (D 2), plW X (P 3) (PQ 3) (D 3)].flatten H := hH
      have hH : Hold X A [hiW qh qa ((4 : Nat) : Int), pfW X qa (fun i => some (P i)), plW X (P 0) (PQ 0) (D 0), plW X (P 1) (PQ 1) (D 1), plW X (P 2) (PQ 2) (D 2), plW X (P 3) (PQ 3) (D 3), plW X (P 4) (PQ 4) (D 4), poW q Qp ((D 4).1.1) ((D 4).1.2.1) ((D 4).1.2.2), aW X (Qp 0) 10 ((D 4).2 0), aW X (Qp 1) 8 ((D 4).2 1), aW X (Qp 2) 8 ((D 4).2 2), aW X (Qp 3) 8 ((D 4).2 3), aW X (Qp 4) 8 ((D 4).2 4), aW X (Qp 5) 20 ((D 4).2 5), aW X (Qp 6) 20 ((D 4).2 6), aW X (Qp 7) 20 ((D 4).2 7), aW X (Qp 8) 20 ((D 4).2 8)].flatten _ := hH.pick [11, 12, 13, 14, 15, 16, 10, 0, 1, 2, 3, 4, 5, 6, 7, 8, 9] rfl 17 rfl (by decide)
      exact hret 30 ls _ _ () dX1_bringBack_30 trivial hH hS
