set_option maxHeartbeats 4000000 in
set_option maxRecDepth 100000 in
theorem kX6_empty (l : Launch) (X : XT) (q : Nat) (g : Nat → Int)  : Cv l yX6_empty wsX6_empty (rmD 1) X [.ref (q)] [aW X q 125 g] (fun (_ : Unit) => True) (fun (_ : Unit) => [aW X q 125 eR]) := by
  refine Cv.ofW (cc := cX6_empty) (maxL := 2) (by decide) rfl (Nat.le_of_ble_eq_true rfl) ?_
  intro p_ e_ s_ m_ below meth c_ A Q_ S hA hAM hH hS hmn hret ls hl
  have hl : lv_has ls 2 [(0, .ref (q))] := hl
  refine lv_iconst (v := iI (((0 : Nat) : Int))) S.1 S.2.1 dX6_empty_0 (by decide) ?_
  refine lv_istore_n (lv' := [(1, .int (iI ((0 : Nat) : Int))), (0, .ref (q))]) S.1 S.2.1 dX6_empty_1 rfl hl (by decide) rfl (fun ls hl => ?_)
  have lp2 : ∀ (n : Nat) (k : Nat) (gv : Nat → Int), 125 - k < n → (k ≤ 125) → (∀ j, j < k → gv j = 0) → ∀ (H : Heap) (locs : List Loc), Hold X A [aW X q 125 gv].flatten H → va_S A s_.heap H locs → ∀ ls : Array Slot, lv_has ls 2 [(1, .int (iI ((k : Nat) : Int))), (0, .ref (q))] → W p_ l e_ (rmD 1) s_ m_ (List.toArray [.ref (q)]) below meth c_ H locs 0 0 Q_ (F0 m_ 2 ls []) := by
    intro n
    induction n with
    | zero => intro k gv hmu hk hv H locs hH hS ls hl; exact absurd hmu (Nat.not_lt_zero _)
    | succ n ih2 => 
      intro k gv hmu hk hv H locs hH hS ls hl
      refine lv_iload_n S.1 S.2.1 dX6_empty_2 rfl (lv_at hl 0 rfl) ?_
      refine lv_bipush (v := iI (((125 : Nat) : Int))) S.1 S.2.1 dX6_empty_3 (by decide) ?_
      refine zv_icmp_ge (tgt := 18) S dX6_empty_5 (by decide) (by omega) (by decide) (fun c_5 => ?_) (fun c_5 => ?_)
      · skip
        refine lv_iconst (v := iI (((0 : Nat) : Int))) S.1 S.2.1 dX6_empty_18 (by decide) ?_
        refine lv_istore_n (lv' := [(1, .int (iI ((0 : Nat) : Int))), (0, .ref (q))]) S.1 S.2.1 dX6_empty_19 rfl hl (by decide) rfl (fun ls hl => ?_)
        have lp20 : ∀ (n : Nat) (r : Nat) (gu : Nat → Int), 8 - r < n → (r ≤ 8) → (∀ j, j < 125 → gu j = (if 36 ≤ j ∧ j < 36 + r then -1 else 0)) → ∀ (H : Heap) (locs : List Loc), Hold X A [aW X q 125 gu].flatten H → va_S A s_.heap H locs → ∀ ls : Array Slot, lv_has ls 2 [(1, .int (iI ((r : Nat) : Int))), (0, .ref (q))] → W p_ l e_ (rmD 1) s_ m_ (List.toArray [.ref (q)]) below meth c_ H locs 0 0 Q_ (F0 m_ 20 ls []) := by
          intro n
          induction n with
          | zero => intro r gu hmu hr hu H locs hH hS ls hl; exact absurd hmu (Nat.not_lt_zero _)
          | succ n ih20 => 
            intro r gu hmu hr hu H locs hH hS ls hl
            refine lv_iload_n S.1 S.2.1 dX6_empty_20 rfl (lv_at hl 0 rfl) ?_
            refine lv_bipush (v := iI (((8 : Nat) : Int))) S.1 S.2.1 dX6_empty_21 (by decide) ?_
            refine zv_icmp_ge (tgt := 39) S dX6_empty_23 (by decide) (by omega) (by decide) (fun c_23 => ?_) (fun c_23 => ?_)
            · skip
              have hH : Hold X A [aW X q 125 eR].flatten _ := hH.cong 0 rfl (fun j hj => by rw [hu j hj]; unfold eR; have e9 : r = 8 := (by omega); rw [e9]) rfl
              exact hret 39 ls _ _ () dX6_empty_39 trivial hH hS
            · skip
              refine lv_aload_n S.1 S.2.1 dX6_empty_26 rfl (lv_at hl 1 rfl) ?_
              refine lv_bipush (v := iI (((36 : Nat) : Int))) S.1 S.2.1 dX6_empty_27 (by decide) ?_
              refine lv_iload_n S.1 S.2.1 dX6_empty_29 rfl (lv_at hl 0 rfl) ?_
              refine zv_iadd (z := (((36 + r) : Nat) : Int)) S dX6_empty_30 (by omega) ?_
              refine lv_iconst (v := iI (-1)) S.1 S.2.1 dX6_empty_31 (by decide) ?_
              refine zv_iast (z := -1) (w2 := [aW X q 125 (uI gu (36 + r) (-1))].flatten) S hAM hH hS 0 rfl ((36 + r)) rfl (by omega) (by decide) rfl dX6_empty_32 (fun H locs hH hS => ?_)
              refine zv_iinc (z := (((r + 1) : Nat) : Int)) (lv' := [(1, .int (iI (((r + 1) : Nat) : Int))), (0, .ref (q))]) S dX6_empty_33 hl (k := 0) rfl (by omega) (by decide) rfl (fun ls hl => ?_)
              refine lv_goto (tgt := 20) S.1 S.2.1 dX6_empty_36 (by decide) ?_
              exact ih20  ((r + 1)) (uI gu (36 + r) (-1)) (by omega) (by omega) (fun j hj => by by_cases e : j = 36 + r; (rw [e, uI_s, if_pos (by omega)]); (rw [uI_n e, hu j hj]; by_cases e2 : 36 ≤ j ∧ j < 36 + r; (rw [if_pos e2, if_pos (by omega)]); (rw [if_neg e2, if_neg (by omega)]))) _ _ hH hS ls (lv_sub hl [0, 1] rfl)
        exact lp20 (8 - (0) + 1) (0) (gv) (Nat.lt_succ_self _) (by omega) (fun j hj => by rw [if_neg (by omega)]; exact hv j (by omega)) _ _ hH hS ls (lv_sub hl [0, 1] rfl)
      · skip
        refine lv_aload_n S.1 S.2.1 dX6_empty_8 rfl (lv_at hl 1 rfl) ?_
        refine lv_iload_n S.1 S.2.1 dX6_empty_9 rfl (lv_at hl 0 rfl) ?_
        refine lv_iconst (v := iI (((0 : Nat) : Int))) S.1 S.2.1 dX6_empty_10 (by decide) ?_
        refine zv_iast (z := ((0 : Nat) : Int)) (w2 := [aW X q 125 (uI gv k (((0 : Nat) : Int)))].flatten) S hAM hH hS 0 rfl (k) rfl (by omega) (by decide) rfl dX6_empty_11 (fun H locs hH hS => ?_)
        refine zv_iinc (z := (((k + 1) : Nat) : Int)) (lv' := [(1, .int (iI (((k + 1) : Nat) : Int))), (0, .ref (q))]) S dX6_empty_12 hl (k := 0) rfl (by omega) (by decide) rfl (fun ls hl => ?_)
        refine lv_goto (tgt := 2) S.1 S.2.1 dX6_empty_15 (by decide) ?_
        exact ih2  ((k + 1)) (uI gv k (((0 : Nat) : Int))) (by omega) (by omega) (fun j hj => by by_cases e : j = k; (rw [e, uI_s]; rfl); (rw [uI_n e]; exact hv j (by omega))) _ _ hH hS ls (lv_sub hl [0, 1] rfl)
  exact lp2 (125 - (0) + 1) (0) (g) (Nat.lt_succ_self _) (by omega) (fun j hj => absurd hj (Nat.not_lt_zero j)) _ _ hH hS ls (lv_sub hl [0, 1] rfl)

set_option maxHeartbeats 4000000 in
set_option maxRecDepth 100000 in
theorem kX6_role (l : Launch) (X : XT) (q : Nat) (g : Nat → Int) (x : Int) (o : Int) (i : Int) (hg : okR g) (hn : nr g < 8) : Cv l yX6_role wsX6_role (rmD 1) X [.ref (q), .int (iI (x)), .int (iI (o)), .int (iI (i))] [aW X q 125 g] (fun (_ : Unit) => True) (fun (_ : Unit) => [aW X q 125 (addRole g x o i)]) := by
  refine Cv.ofW (cc := cX6_role) (maxL := 4) (by decide) rfl (Nat.le_of_ble_eq_true rfl) ?_
  intro p_ e_ s_ m_ below meth c_ A Q_ S hA hAM hH hS hmn hret ls hl
  have hl : lv_has ls 4 [(0, .ref (q)), (1, .int (iI (x))), (2, .int (iI (o))), (3, .int (iI (i)))] := hl
  refine lv_aload_n S.1 S.2.1 dX6_role_0 rfl (lv_at hl 0 rfl) ?_
  refine lv_bipush (v := iI (((12 : Nat) : Int))) S.1 S.2.1 dX6_role_1 (by decide) ?_
  refine lv_aload_n S.1 S.2.1 dX6_role_3 rfl (lv_at hl 0 rfl) ?_
  refine lv_bipush (v := iI (((11 : Nat) : Int))) S.1 S.2.1 dX6_role_4 (by decide) ?_
  refine zv_iald S hAM hH 0 rfl (11) rfl (by decide) (by decide) dX6_role_6 ?_
  refine zv_top (z := g 11) (z2 := ((nr g : Nat) : Int)) hg.e11 ?_
  refine zv_iadd (z := (((12 + nr g) : Nat) : Int)) S dX6_role_7 (by omega) ?_
  refine lv_iload_n S.1 S.2.1 dX6_role_8 rfl (lv_at hl 1 rfl) ?_
  refine zv_iast (z := x) (w2 := [aW X q 125 (uI g (12 + nr g) (x))].flatten) S hAM hH hS 0 rfl ((12 + nr g)) rfl (by omega) (by decide) rfl dX6_role_9 (fun H locs hH hS => ?_)
  refine lv_aload_n S.1 S.2.1 dX6_role_10 rfl (lv_at hl 0 rfl) ?_
  refine lv_bipush (v := iI (((20 : Nat) : Int))) S.1 S.2.1 dX6_role_11 (by decide) ?_
  refine lv_aload_n S.1 S.2.1 dX6_role_13 rfl (lv_at hl 0 rfl) ?_
  refine lv_bipush (v := iI (((11 : Nat) : Int))) S.1 S.2.1 dX6_role_14 (by decide) ?_
  refine zv_iald S hAM hH 0 rfl (11) rfl (by decide) (by decide) dX6_role_16 ?_
  refine zv_top (z := (uI g (12 + nr g) (x)) 11) (z2 := ((nr g : Nat) : Int)) (by rw [uI_n (by omega)]; exact hg.e11) ?_
  refine zv_iadd (z := (((20 + nr g) : Nat) : Int)) S dX6_role_17 (by omega) ?_
  refine lv_iload_n S.1 S.2.1 dX6_role_18 rfl (lv_at hl 2 rfl) ?_
  refine zv_iast (z := o) (w2 := [aW X q 125 (uI (uI g (12 + nr g) (x)) (20 + nr g) (o))].flatten) S hAM hH hS 0 rfl ((20 + nr g)) rfl (by omega) (by decide) rfl dX6_role_19 (fun H locs hH hS => ?_)
  refine lv_aload_n S.1 S.2.1 dX6_role_20 rfl (lv_at hl 0 rfl) ?_
  refine lv_bipush (v := iI (((28 : Nat) : Int))) S.1 S.2.1 dX6_role_21 (by decide) ?_
  refine lv_aload_n S.1 S.2.1 dX6_role_23 rfl (lv_at hl 0 rfl) ?_
  refine lv_bipush (v := iI (((11 : Nat) : Int))) S.1 S.2.1 dX6_role_24 (by decide) ?_
  refine zv_iald S hAM hH 0 rfl (11) rfl (by decide) (by decide) dX6_role_26 ?_
  refine zv_top (z := (uI (uI g (12 + nr g) (x)) (20 + nr g) (o)) 11) (z2 := ((nr g : Nat) : Int)) (by rw [uI_n (by omega), uI_n (by omega)]; exact hg.e11) ?_
  refine zv_iadd (z := (((28 + nr g) : Nat) : Int)) S dX6_role_27 (by omega) ?_
  refine lv_iload_n S.1 S.2.1 dX6_role_28 rfl (lv_at hl 3 rfl) ?_
  refine zv_iast (z := i) (w2 := [aW X q 125 (uI (uI (uI g (12 + nr g) (x)) (20 + nr g) (o)) (28 + nr g) (i))].flatten) S hAM hH hS 0 rfl ((28 + nr g)) rfl (by omega) (by decide) rfl dX6_role_29 (fun H locs hH hS => ?_)
  refine lv_aload_n S.1 S.2.1 dX6_role_30 rfl (lv_at hl 0 rfl) ?_
  refine lv_bipush (v := iI (((11 : Nat) : Int))) S.1 S.2.1 dX6_role_31 (by decide) ?_
  refine lv_dup2_11 S.1 S.2.1 dX6_role_33 rfl rfl ?_
  refine zv_iald S hAM hH 0 rfl (11) rfl (by decide) (by decide) dX6_role_34 ?_
  refine zv_top (z := (uI (uI (uI g (12 + nr g) (x)) (20 + nr g) (o)) (28 + nr g) (i)) 11) (z2 := ((nr g : Nat) : Int)) (by rw [uI_n (by omega), uI_n (by omega), uI_n (by omega)]; exact hg.e11) ?_
  refine lv_iconst (v := iI (((1 : Nat) : Int))) S.1 S.2.1 dX6_role_35 (by decide) ?_
  refine zv_iadd (z := (((nr g + 1) : Nat) : Int)) S dX6_role_36 (by omega) ?_
  refine zv_iast (z := (((nr g + 1) : Nat) : Int)) (w2 := [aW X q 125 (uI (uI (uI (uI g (12 + nr g) (x)) (20 + nr g) (o)) (28 + nr g) (i)) 11 ((((nr g + 1) : Nat) : Int)))].flatten) S hAM hH hS 0 rfl (11) rfl (by decide) (by decide) rfl dX6_role_37 (fun H locs hH hS => ?_)
  exact hret 38 ls _ _ () dX6_role_38 trivial hH hS

set_option maxHeartbeats 4000000 in
set_option maxRecDepth 100000 in
theorem kX6_appear (l : Launch) (X : XT) (q : Nat) (g : Nat → Int) (r : Int) (c : Int) (e : Int) (x : Int) (hg : okR g) (hn : na g < 20) : Cv l yX6_appear wsX6_appear (rmD 1) X [.ref (q), .int (iI (r)), .int (iI (c)), .int (iI (e)), .int (iI (x))] [aW X q 125 g] (fun (_ : Unit) => True) (fun (_ : Unit) => [aW X q 125 (addApp g r c e x)]) := by
  refine Cv.ofW (cc := cX6_appear) (maxL := 6) (by decide) rfl (Nat.le_of_ble_eq_true rfl) ?_
  intro p_ e_ s_ m_ below meth c_ A Q_ S hA hAM hH hS hmn hret ls hl
  have hl : lv_has ls 6 [(0, .ref (q)), (1, .int (iI (r))), (2, .int (iI (c))), (3, .int (iI (e))), (4, .int (iI (x)))] := hl
  refine lv_bipush (v := iI (((45 : Nat) : Int))) S.1 S.2.1 dX6_appear_0 (by decide) ?_
  refine lv_iconst (v := iI (((4 : Nat) : Int))) S.1 S.2.1 dX6_appear_2 (by decide) ?_
  refine lv_aload_n S.1 S.2.1 dX6_appear_3 rfl (lv_at hl 0 rfl) ?_
  refine lv_bipush (v := iI (((44 : Nat) : Int))) S.1 S.2.1 dX6_appear_4 (by decide) ?_
  refine zv_iald S hAM hH 0 rfl (44) rfl (by decide) (by decide) dX6_appear_6 ?_
  refine zv_top (z := g 44) (z2 := ((na g : Nat) : Int)) hg.e44 ?_
  refine zv_imul (z := (((4 * na g) : Nat) : Int)) S dX6_appear_7 (by omega) ?_
  refine zv_iadd (z := (((45 + (4 * na g)) : Nat) : Int)) S dX6_appear_8 (by omega) ?_
  refine lv_istore (lv' := [(5, .int (iI (((45 + (4 * na g)) : Nat) : Int))), (0, .ref (q)), (1, .int (iI (r))), (2, .int (iI (c))), (3, .int (iI (e))), (4, .int (iI (x)))]) S.1 S.2.1 dX6_appear_9 hl (by decide) rfl (fun ls hl => ?_)
  refine lv_aload_n S.1 S.2.1 dX6_appear_11 rfl (lv_at hl 1 rfl) ?_
  refine lv_iload S.1 S.2.1 dX6_appear_12 (lv_at hl 0 rfl) ?_
  refine lv_iload_n S.1 S.2.1 dX6_appear_14 rfl (lv_at hl 2 rfl) ?_
  refine zv_iast (z := r) (w2 := [aW X q 125 (uI g (45 + (4 * na g)) (r))].flatten) S hAM hH hS 0 rfl ((45 + (4 * na g))) rfl (by omega) (by decide) rfl dX6_appear_15 (fun H locs hH hS => ?_)
  refine lv_aload_n S.1 S.2.1 dX6_appear_16 rfl (lv_at hl 1 rfl) ?_
  refine lv_iload S.1 S.2.1 dX6_appear_17 (lv_at hl 0 rfl) ?_
  refine lv_iconst (v := iI (((1 : Nat) : Int))) S.1 S.2.1 dX6_appear_19 (by decide) ?_
  refine zv_iadd (z := ((((45 + (4 * na g)) + 1) : Nat) : Int)) S dX6_appear_20 (by omega) ?_
  refine lv_iload_n S.1 S.2.1 dX6_appear_21 rfl (lv_at hl 3 rfl) ?_
  refine zv_iast (z := c) (w2 := [aW X q 125 (uI (uI g (45 + (4 * na g)) (r)) ((45 + (4 * na g)) + 1) (c))].flatten) S hAM hH hS 0 rfl (((45 + (4 * na g)) + 1)) rfl (by omega) (by decide) rfl dX6_appear_22 (fun H locs hH hS => ?_)
  refine lv_aload_n S.1 S.2.1 dX6_appear_23 rfl (lv_at hl 1 rfl) ?_
  refine lv_iload S.1 S.2.1 dX6_appear_24 (lv_at hl 0 rfl) ?_
  refine lv_iconst (v := iI (((2 : Nat) : Int))) S.1 S.2.1 dX6_appear_26 (by decide) ?_
  refine zv_iadd (z := ((((45 + (4 * na g)) + 2) : Nat) : Int)) S dX6_appear_27 (by omega) ?_
  refine lv_iload_n S.1 S.2.1 dX6_appear_28 rfl (lv_at hl 4 rfl) ?_
  refine zv_iast (z := e) (w2 := [aW X q 125 (uI (uI (uI g (45 + (4 * na g)) (r)) ((45 + (4 * na g)) + 1) (c)) ((45 + (4 * na g)) + 2) (e))].flatten) S hAM hH hS 0 rfl (((45 + (4 * na g)) + 2)) rfl (by omega) (by decide) rfl dX6_appear_29 (fun H locs hH hS => ?_)
  refine lv_aload_n S.1 S.2.1 dX6_appear_30 rfl (lv_at hl 1 rfl) ?_
  refine lv_iload S.1 S.2.1 dX6_appear_31 (lv_at hl 0 rfl) ?_
  refine lv_iconst (v := iI (((3 : Nat) : Int))) S.1 S.2.1 dX6_appear_33 (by decide) ?_
  refine zv_iadd (z := ((((45 + (4 * na g)) + 3) : Nat) : Int)) S dX6_appear_34 (by omega) ?_
  refine lv_iload S.1 S.2.1 dX6_appear_35 (lv_at hl 5 rfl) ?_
  refine zv_iast (z := x) (w2 := [aW X q 125 (uI (uI (uI (uI g (45 + (4 * na g)) (r)) ((45 + (4 * na g)) + 1) (c)) ((45 + (4 * na g)) + 2) (e)) ((45 + (4 * na g)) + 3) (x))].flatten) S hAM hH hS 0 rfl (((45 + (4 * na g)) + 3)) rfl (by omega) (by decide) rfl dX6_appear_37 (fun H locs hH hS => ?_)
  refine lv_aload_n S.1 S.2.1 dX6_appear_38 rfl (lv_at hl 1 rfl) ?_
  refine lv_bipush (v := iI (((44 : Nat) : Int))) S.1 S.2.1 dX6_appear_39 (by decide) ?_
  refine lv_dup2_11 S.1 S.2.1 dX6_appear_41 rfl rfl ?_
  refine zv_iald S hAM hH 0 rfl (44) rfl (by decide) (by decide) dX6_appear_42 ?_
  refine zv_top (z := (uI (uI (uI (uI g (45 + (4 * na g)) (r)) ((45 + (4 * na g)) + 1) (c)) ((45 + (4 * na g)) + 2) (e)) ((45 + (4 * na g)) + 3) (x)) 44) (z2 := ((na g : Nat) : Int)) (by rw [uI_n (by omega), uI_n (by omega), uI_n (by omega), uI_n (by omega)]; exact hg.e44) ?_
  refine lv_iconst (v := iI (((1 : Nat) : Int))) S.1 S.2.1 dX6_appear_43 (by decide) ?_
  refine zv_iadd (z := (((na g + 1) : Nat) : Int)) S dX6_appear_44 (by omega) ?_
  refine zv_iast (z := (((na g + 1) : Nat) : Int)) (w2 := [aW X q 125 (uI (uI (uI (uI (uI g (45 + (4 * na g)) (r)) ((45 + (4 * na g)) + 1) (c)) ((45 + (4 * na g)) + 2) (e)) ((45 + (4 * na g)) + 3) (x)) 44 ((((na g + 1) : Nat) : Int)))].flatten) S hAM hH hS 0 rfl (44) rfl (by decide) (by decide) rfl dX6_appear_45 (fun H locs hH hS => ?_)
  exact hret 46 ls _ _ () dX6_appear_46 trivial hH hS

theorem mX6_append_1 : Cond.constantLong RX6 40 (32) ∈ wsX6_append := List.mem_of_getElem? (i := 1) rfl
theorem mX6_append_2 : Cond.constantLong RX6 42 (126) ∈ wsX6_append := List.mem_of_getElem? (i := 2) rfl
theorem mX6_append_3 : Cond.fieldLink RX6 48 "RoleDoublingPlannerModel" "length" "I" ∈ wsX6_append := List.mem_of_getElem? (i := 3) rfl
theorem nX6_append_X6 : ∀ w ∈ wsX60, w ∈ wsX6_append := fun _ h => List.mem_cons_of_mem _ (List.mem_append_right _ h)
theorem mX6_append_4 : Cond.fieldLink RX6 19 "RoleDoublingPlannerModel" "text" "[I" ∈ wsX6_append := List.mem_of_getElem? (i := 4) rfl
set_option maxHeartbeats 4000000 in
set_option maxRecDepth 100000 in
theorem kX6_append (l : Launch) (X : XT) (h : Nat) (Q : Nat → Nat) (s : Nat → Int) (rd : Nat → Int) (kp : Nat → Int) (km : Int) (tx : Nat → Int) (lnn : Nat) (sp : Int) (rs : Int) (wi : Nat → Int) (gi : Nat → Int) (c : Int) (hc : inR c) (hl0 : lnn ≤ 400) : Ci l yX6_append wsX6_append (rmD 2) X [.ref h, .int (iI (c))] [mO h Q km ((lnn : Nat) : Int) sp rs, aW X (Q 0) 125 s, aW X (Q 1) 125 rd, aW X (Q 2) 625 kp, aW X (Q 3) 400 tx, aW X (Q 4) 8 wi, aW X (Q 5) 8 gi] (fun (z : Int) (_ : Unit) => z = (opApn tx lnn c).1) (fun (_ : Unit) => [mO h Q km (((opApn tx lnn c).2.2 : Nat) : Int) sp rs, aW X (Q 0) 125 s, aW X (Q 1) 125 rd, aW X (Q 2) 625 kp, aW X (Q 3) 400 ((opApn tx lnn c).2.1), aW X (Q 4) 8 wi, aW X (Q 5) 8 gi]) := by
  refine Ci.ofW (cc := cX6_append) (maxL := 2) (by decide) rfl (Nat.le_of_ble_eq_true rfl) ?_
  intro p_ e_ s_ m_ below meth c_ A Q_ S hA hAM hH hS hret ls hl
  have hl : lv_has ls 2 [(0, .ref (h)), (1, .int (iI (c)))] := hl
  refine lv_iload_n S.1 S.2.1 dX6_append_0 rfl (lv_at hl 1 rfl) ?_
  refine lv_i2l (v := lI (c)) S.1 S.2.1 dX6_append_1 (lI_i (by omega)) ?_
  refine lv_ldc2 (v := lI (32)) S.1 S.2.1 S.2.2.2.1 (zv_constL S mX6_append_1 (by decide)) dX6_append_2 ?_
  refine lv_ldc2 (v := lI (126)) S.1 S.2.1 S.2.2.2.1 (zv_constL S mX6_append_2 (by decide)) dX6_append_5 ?_
  refine zc_Si (n := 3) (As := [.long (lI (c)), .long (lI (32)), .long (lI (126))]) (rest := []) S hAM hA (kX6_in l X c 32 126 (by omega) (by omega) (by omega)) rfl gX6_append_X6_in  (by decide +kernel) ⟨Nat.le_of_ble_eq_true rfl, Nat.le_of_ble_eq_true rfl⟩ hH hS [0, 1, 2, 3, 4, 5, 6] rfl 7 rfl (List.Perm.refl _)  rfl hl.1 rfl (Nat.le_of_ble_eq_true rfl) dX6_append_8 ⟨Nat.le_of_ble_eq_true rfl, Nat.le_of_ble_eq_true rfl⟩ (fun z2 _ H locs hp3 hH hS => ?_)
  have hH : Hold X A [mO h Q km ((lnn : Nat) : Int) sp rs, aW X (Q 0) 125 s, aW X (Q 1) 125 rd, aW X (Q 2) 625 kp, aW X (Q 3) 400 tx, aW X (Q 4) 8 wi, aW X (Q 5) 8 gi].flatten H := hH
  rcases hp3 with ⟨rfl, b_8⟩ | ⟨rfl, b_8⟩
  · refine zv_top (z := 1) (z2 := ((1 : Nat) : Int)) rfl ?_
    refine zv_if_ne (tgt := 18) S dX6_append_11 (by decide) (by decide) (fun c_11 => ?_) (fun c_11 => ?_)
    · skip
      refine lv_aload_n S.1 S.2.1 dX6_append_18 rfl (lv_at hl 0 rfl) ?_
      refine zv_get (v := .int (iI ((lnn : Nat) : Int))) S hAM hH nX6_append_X6 0 rfl rfl 5 (by decide) mX6_append_3 rfl rfl dX6_append_19 ?_
      refine lv_sipush (v := iI (((400 : Nat) : Int))) S.1 S.2.1 dX6_append_22 (by decide) ?_
      refine zv_icmp_ne (tgt := 32) S dX6_append_25 (by decide) (by omega) (by decide) (fun c_25 => ?_) (fun c_25 => ?_)
      · skip
        refine lv_aload_n S.1 S.2.1 dX6_append_32 rfl (lv_at hl 0 rfl) ?_
        refine zv_get (v := .ref (Q 3)) S hAM hH nX6_append_X6 0 rfl rfl 4 (by decide) mX6_append_4 rfl rfl dX6_append_33 ?_
        refine lv_aload_n S.1 S.2.1 dX6_append_36 rfl (lv_at hl 0 rfl) ?_
        refine zv_get (v := .int (iI ((lnn : Nat) : Int))) S hAM hH nX6_append_X6 0 rfl rfl 5 (by decide) mX6_append_3 rfl rfl dX6_append_37 ?_
        refine lv_iload_n S.1 S.2.1 dX6_append_40 rfl (lv_at hl 1 rfl) ?_
        refine zv_iast (z := c) (w2 := [mO h Q km ((lnn : Nat) : Int) sp rs, aW X (Q 0) 125 s, aW X (Q 1) 125 rd, aW X (Q 2) 625 kp, aW X (Q 3) 400 (uI tx lnn (c)), aW X (Q 4) 8 wi, aW X (Q 5) 8 gi].flatten) S hAM hH hS 4 rfl (lnn) rfl (by omega) (by decide) rfl dX6_append_41 (fun H locs hH hS => ?_)
        refine lv_aload_n S.1 S.2.1 dX6_append_42 rfl (lv_at hl 0 rfl) ?_
        refine lv_dup S.1 S.2.1 dX6_append_43 rfl ?_
        refine zv_get (v := .int (iI ((lnn : Nat) : Int))) S hAM hH nX6_append_X6 0 rfl rfl 5 (by decide) mX6_append_3 rfl rfl dX6_append_44 ?_
        refine lv_iconst (v := iI (((1 : Nat) : Int))) S.1 S.2.1 dX6_append_47 (by decide) ?_
        refine zv_iadd (z := (((lnn + 1) : Nat) : Int)) S dX6_append_48 (by omega) ?_
        refine zv_put (v := .int (iI (((lnn + 1) : Nat) : Int))) (w2 := [mO h Q km (((lnn + 1) : Nat) : Int) sp rs, aW X (Q 0) 125 s, aW X (Q 1) 125 rd, aW X (Q 2) 625 kp, aW X (Q 3) 400 (uI tx lnn (c)), aW X (Q 4) 8 wi, aW X (Q 5) 8 gi].flatten) S hAM hH hS nX6_append_X6 tyX6 tyX6_ok nmX6 0 rfl rfl 5 (by decide) mX6_append_3 rfl rfl rfl rfl (Nat.le_of_ble_eq_true rfl) rfl dX6_append_49 (fun H locs hH hS => ?_)
        refine lv_aload_n S.1 S.2.1 dX6_append_52 rfl (lv_at hl 0 rfl) ?_
        refine zv_get (v := .int (iI (((lnn + 1) : Nat) : Int))) S hAM hH nX6_append_X6 0 rfl rfl 5 (by decide) mX6_append_3 rfl rfl dX6_append_53 ?_
        have eO : opApn tx lnn c = ((((lnn + 1) : Nat) : Int), uI tx lnn c, lnn + 1) := by unfold opApn; rw [if_pos (by omega), if_neg (by omega)]
        rw [eO] at hret
        exact hret 56 ls _ _ ((((lnn + 1) : Nat) : Int)) () dX6_append_56 rfl rfl hH hS
      · skip
        refine lv_sipush (v := iI (-1003)) S.1 S.2.1 dX6_append_28 (by decide) ?_
        have eO : opApn tx lnn c = (-1003, tx, lnn) := by unfold opApn; rw [if_pos (by omega), if_pos (by omega)]
        rw [eO] at hret
        exact hret 31 ls _ _ (-1003) () dX6_append_31 rfl rfl hH hS
    · exact (show False by omega).elim
  · refine zv_top (z := 0) (z2 := ((0 : Nat) : Int)) rfl ?_
    refine zv_if_ne (tgt := 18) S dX6_append_11 (by decide) (by decide) (fun c_11 => ?_) (fun c_11 => ?_)
    · exact (show False by omega).elim
    · skip
      refine lv_sipush (v := iI (-1001)) S.1 S.2.1 dX6_append_14 (by decide) ?_
      have eO : opApn tx lnn c = (-1001, tx, lnn) := by unfold opApn; rw [if_neg (by omega)]
      rw [eO] at hret
      exact hret 17 ls _ _ (-1001) () dX6_append_17 rfl rfl hH hS

theorem mX6_clearText_1 : Cond.fieldLink RX6 48 "RoleDoublingPlannerModel" "length" "I" ∈ wsX6_clearText := List.mem_of_getElem? (i := 1) rfl
theorem nX6_clearText_X6 : ∀ w ∈ wsX60, w ∈ wsX6_clearText := fun _ h => List.mem_cons_of_mem _ (List.mem_append_right _ h)
set_option maxHeartbeats 4000000 in
set_option maxRecDepth 100000 in
theorem kX6_clearText (l : Launch) (X : XT) (h : Nat) (Q : Nat → Nat) (s : Nat → Int) (rd : Nat → Int) (kp : Nat → Int) (km : Int) (tx : Nat → Int) (lnn : Nat) (sp : Int) (rs : Int) (wi : Nat → Int) (gi : Nat → Int)  : Ci l yX6_clearText wsX6_clearText (rmD 1) X [.ref h] [mO h Q km ((lnn : Nat) : Int) sp rs, aW X (Q 0) 125 s, aW X (Q 1) 125 rd, aW X (Q 2) 625 kp, aW X (Q 3) 400 tx, aW X (Q 4) 8 wi, aW X (Q 5) 8 gi] (fun (z : Int) (_ : Unit) => z = ((lnn : Nat) : Int)) (fun (_ : Unit) => [mO h Q km ((0 : Nat) : Int) sp rs, aW X (Q 0) 125 s, aW X (Q 1) 125 rd, aW X (Q 2) 625 kp, aW X (Q 3) 400 tx, aW X (Q 4) 8 wi, aW X (Q 5) 8 gi]) := by
  refine Ci.ofW (cc := cX6_clearText) (maxL := 2) (by decide) rfl (Nat.le_of_ble_eq_true rfl) ?_
  intro p_ e_ s_ m_ below meth c_ A Q_ S hA hAM hH hS hret ls hl
  have hl : lv_has ls 2 [(0, .ref (h))] := hl
  refine lv_aload_n S.1 S.2.1 dX6_clearText_0 rfl (lv_at hl 0 rfl) ?_
  refine zv_get (v := .int (iI ((lnn : Nat) : Int))) S hAM hH nX6_clearText_X6 0 rfl rfl 5 (by decide) mX6_clearText_1 rfl rfl dX6_clearText_1 ?_
  refine lv_istore_n (lv' := [(1, .int (iI ((lnn : Nat) : Int))), (0, .ref (h))]) S.1 S.2.1 dX6_clearText_4 rfl hl (by decide) rfl (fun ls hl => ?_)
  refine lv_aload_n S.1 S.2.1 dX6_clearText_5 rfl (lv_at hl 1 rfl) ?_
  refine lv_iconst (v := iI (((0 : Nat) : Int))) S.1 S.2.1 dX6_clearText_6 (by decide) ?_
  refine zv_put (v := .int (iI ((0 : Nat) : Int))) (w2 := [mO h Q km ((0 : Nat) : Int) sp rs, aW X (Q 0) 125 s, aW X (Q 1) 125 rd, aW X (Q 2) 625 kp, aW X (Q 3) 400 tx, aW X (Q 4) 8 wi, aW X (Q 5) 8 gi].flatten) S hAM hH hS nX6_clearText_X6 tyX6 tyX6_ok nmX6 0 rfl rfl 5 (by decide) mX6_clearText_1 rfl rfl rfl rfl (Nat.le_of_ble_eq_true rfl) rfl dX6_clearText_7 (fun H locs hH hS => ?_)
  refine lv_iload_n S.1 S.2.1 dX6_clearText_10 rfl (lv_at hl 0 rfl) ?_
  exact hret 11 ls _ _ (((lnn : Nat) : Int)) () dX6_clearText_11 rfl rfl hH hS

theorem mX6_keeps_1 : Cond.fieldLink RX6 101 "RoleDoublingPlannerModel" "keptMany" "I" ∈ wsX6_keeps := List.mem_of_getElem? (i := 1) rfl
theorem nX6_keeps_X6 : ∀ w ∈ wsX60, w ∈ wsX6_keeps := fun _ h => List.mem_cons_of_mem _ (List.mem_append_right _ h)
theorem mX6_keeps_2 : Cond.fieldLink RX6 16 "RoleDoublingPlannerModel" "kept" "[I" ∈ wsX6_keeps := List.mem_of_getElem? (i := 2) rfl
theorem mX6_keeps_3 : Cond.fieldLink RX6 7 "RoleDoublingPlannerModel" "s" "[I" ∈ wsX6_keeps := List.mem_of_getElem? (i := 3) rfl
set_option maxHeartbeats 4000000 in
set_option maxRecDepth 100000 in
theorem kX6_keeps (l : Launch) (X : XT) (h : Nat) (Q : Nat → Nat) (s : Nat → Int) (rd : Nat → Int) (kp : Nat → Int) (kn : Nat) (tx : Nat → Int) (ln : Int) (sp : Int) (rs : Int) (wi : Nat → Int) (gi : Nat → Int) (hkn : kn ≤ 5) : Cv l yX6_keeps wsX6_keeps (rmD 1) X [.ref h] [mO h Q ((kn : Nat) : Int) ln sp rs, aW X (Q 0) 125 s, aW X (Q 1) 125 rd, aW X (Q 2) 625 kp, aW X (Q 3) 400 tx, aW X (Q 4) 8 wi, aW X (Q 5) 8 gi] (fun (_ : Unit) => True) (fun (_ : Unit) => [mO h Q (((kmF kn) : Nat) : Int) ln sp rs, aW X (Q 0) 125 s, aW X (Q 1) 125 rd, aW X (Q 2) 625 (kpF s kp kn), aW X (Q 3) 400 tx, aW X (Q 4) 8 wi, aW X (Q 5) 8 gi]) := by
  refine Cv.ofW (cc := cX6_keeps) (maxL := 2) (by decide) rfl (Nat.le_of_ble_eq_true rfl) ?_
  intro p_ e_ s_ m_ below meth c_ A Q_ S hA hAM hH hS hmn hret ls hl
  have hl : lv_has ls 2 [(0, .ref (h))] := hl
  refine lv_aload_n S.1 S.2.1 dX6_keeps_0 rfl (lv_at hl 0 rfl) ?_
  refine zv_get (v := .int (iI ((kn : Nat) : Int))) S hAM hH nX6_keeps_X6 0 rfl rfl 3 (by decide) mX6_keeps_1 rfl rfl dX6_keeps_1 ?_
  refine lv_iconst (v := iI (((5 : Nat) : Int))) S.1 S.2.1 dX6_keeps_4 (by decide) ?_
  refine zv_icmp_ne (tgt := 48) S dX6_keeps_5 (by decide) (by omega) (by decide) (fun c_5 => ?_) (fun c_5 => ?_)
  · skip
    have c5n : ¬ kn = 5 := by omega
    all_goals try (have e500 : True := trivial)
    refine lv_iconst (v := iI (((0 : Nat) : Int))) S.1 S.2.1 dX6_keeps_48 (by decide) ?_
    refine lv_istore_n (lv' := [(1, .int (iI ((0 : Nat) : Int))), (0, .ref (h))]) S.1 S.2.1 dX6_keeps_49 rfl hl (by decide) rfl (fun ls hl => ?_)
    have lp50 : ∀ (n : Nat) (i : Nat) (kw : Nat → Int), 125 - i < n → (i ≤ 125) → (∀ j, j < 625 → kw j = (if 125 * kn ≤ j ∧ j < 125 * kn + i then s (j - 125 * kn) else (kp) j)) → ∀ (H : Heap) (locs : List Loc), Hold X A [mO h Q ((kn : Nat) : Int) ln sp rs, aW X (Q 0) 125 s, aW X (Q 1) 125 rd, aW X (Q 2) 625 kw, aW X (Q 3) 400 tx, aW X (Q 4) 8 wi, aW X (Q 5) 8 gi].flatten H → va_S A s_.heap H locs → ∀ ls : Array Slot, lv_has ls 2 [(1, .int (iI ((i : Nat) : Int))), (0, .ref (h))] → W p_ l e_ (rmD 1) s_ m_ (List.toArray [.ref (h)]) below meth c_ H locs 0 0 Q_ (F0 m_ 50 ls []) := by
      intro n
      induction n with
      | zero => intro i kw hmu hi hkw H locs hH hS ls hl; exact absurd hmu (Nat.not_lt_zero _)
      | succ n ih50 => 
        intro i kw hmu hi hkw H locs hH hS ls hl
        refine lv_iload_n S.1 S.2.1 dX6_keeps_50 rfl (lv_at hl 0 rfl) ?_
        refine lv_bipush (v := iI (((125 : Nat) : Int))) S.1 S.2.1 dX6_keeps_51 (by decide) ?_
        refine zv_icmp_ge (tgt := 82) S dX6_keeps_53 (by decide) (by omega) (by decide) (fun c_53 => ?_) (fun c_53 => ?_)
        · skip
          refine lv_aload_n S.1 S.2.1 dX6_keeps_82 rfl (lv_at hl 1 rfl) ?_
          refine lv_dup S.1 S.2.1 dX6_keeps_83 rfl ?_
          refine zv_get (v := .int (iI ((kn : Nat) : Int))) S hAM hH nX6_keeps_X6 0 rfl rfl 3 (by decide) mX6_keeps_1 rfl rfl dX6_keeps_84 ?_
          refine lv_iconst (v := iI (((1 : Nat) : Int))) S.1 S.2.1 dX6_keeps_87 (by decide) ?_
          refine zv_iadd (z := (((kn + 1) : Nat) : Int)) S dX6_keeps_88 (by omega) ?_
          refine zv_put (v := .int (iI (((kn + 1) : Nat) : Int))) (w2 := [mO h Q (((kn + 1) : Nat) : Int) ln sp rs, aW X (Q 0) 125 s, aW X (Q 1) 125 rd, aW X (Q 2) 625 kw, aW X (Q 3) 400 tx, aW X (Q 4) 8 wi, aW X (Q 5) 8 gi].flatten) S hAM hH hS nX6_keeps_X6 tyX6 tyX6_ok nmX6 0 rfl rfl 3 (by decide) mX6_keeps_1 rfl rfl rfl rfl (Nat.le_of_ble_eq_true rfl) rfl dX6_keeps_89 (fun H locs hH hS => ?_)
          have e9 : i = 125 := (by omega)
          have hH : Hold X A [mO h Q (((kn + 1) : Nat) : Int) ln sp rs, aW X (Q 0) 125 s, aW X (Q 1) 125 rd, aW X (Q 2) 625 (kpF s kp kn), aW X (Q 3) 400 tx, aW X (Q 4) 8 wi, aW X (Q 5) 8 gi].flatten _ := hH.cong 3 rfl (fun j hj => by rw [hkw j hj, e9]; unfold kpF; rw [if_neg c5n]) rfl
          have eK : kmF kn = kn + 1 := if_neg c5n
          rw [eK] at hret
          exact hret 92 ls _ _ () dX6_keeps_92 trivial hH hS
        · skip
          refine lv_aload_n S.1 S.2.1 dX6_keeps_56 rfl (lv_at hl 1 rfl) ?_
          refine zv_get (v := .ref (Q 2)) S hAM hH nX6_keeps_X6 0 rfl rfl 2 (by decide) mX6_keeps_2 rfl rfl dX6_keeps_57 ?_
          refine lv_bipush (v := iI (((125 : Nat) : Int))) S.1 S.2.1 dX6_keeps_60 (by decide) ?_
          refine lv_aload_n S.1 S.2.1 dX6_keeps_62 rfl (lv_at hl 1 rfl) ?_
          refine zv_get (v := .int (iI ((kn : Nat) : Int))) S hAM hH nX6_keeps_X6 0 rfl rfl 3 (by decide) mX6_keeps_1 rfl rfl dX6_keeps_63 ?_
          refine zv_imul (z := (((125 * kn) : Nat) : Int)) S dX6_keeps_66 (by omega) ?_
          refine lv_iload_n S.1 S.2.1 dX6_keeps_67 rfl (lv_at hl 0 rfl) ?_
          refine zv_iadd (z := ((((125 * kn) + i) : Nat) : Int)) S dX6_keeps_68 (by omega) ?_
          refine lv_aload_n S.1 S.2.1 dX6_keeps_69 rfl (lv_at hl 1 rfl) ?_
          refine zv_get (v := .ref (Q 0)) S hAM hH nX6_keeps_X6 0 rfl rfl 0 (by decide) mX6_keeps_3 rfl rfl dX6_keeps_70 ?_
          refine lv_iload_n S.1 S.2.1 dX6_keeps_73 rfl (lv_at hl 0 rfl) ?_
          refine zv_iald S hAM hH 1 rfl (i) rfl (by omega) (by decide) dX6_keeps_74 ?_
          refine zv_iast (z := s i) (w2 := [mO h Q ((kn : Nat) : Int) ln sp rs, aW X (Q 0) 125 s, aW X (Q 1) 125 rd, aW X (Q 2) 625 (uI kw ((125 * kn) + i) (s i)), aW X (Q 3) 400 tx, aW X (Q 4) 8 wi, aW X (Q 5) 8 gi].flatten) S hAM hH hS 3 rfl (((125 * kn) + i)) rfl (by omega) (by decide) rfl dX6_keeps_75 (fun H locs hH hS => ?_)
          refine zv_iinc (z := (((i + 1) : Nat) : Int)) (lv' := [(1, .int (iI (((i + 1) : Nat) : Int))), (0, .ref (h))]) S dX6_keeps_76 hl (k := 0) rfl (by omega) (by decide) rfl (fun ls hl => ?_)
          refine lv_goto (tgt := 50) S.1 S.2.1 dX6_keeps_79 (by decide) ?_
          exact ih50  ((i + 1)) (uI kw ((125 * kn) + i) (s i)) (by omega) (by omega) (fun j hj => by by_cases e : j = 125 * kn + i; (rw [e, uI_s, if_pos (by omega), Nat.add_sub_cancel_left]); (rw [uI_n e, hkw j hj]; by_cases e2 : 125 * kn ≤ j ∧ j < 125 * kn + i; (rw [if_pos e2, if_pos (by omega)]); (rw [if_neg e2, if_neg (by omega)]))) _ _ hH hS ls (lv_sub hl [0, 1] rfl)
    exact lp50 (125 - (0) + 1) (0) (kp) (Nat.lt_succ_self _) (by omega) (fun j hj => by rw [if_neg (by omega)]) _ _ hH hS ls (lv_sub hl [0, 1] rfl)
  · skip
    obtain rfl : kn = 5 := by omega
    refine lv_iconst (v := iI (((0 : Nat) : Int))) S.1 S.2.1 dX6_keeps_8 (by decide) ?_
    refine lv_istore_n (lv' := [(1, .int (iI ((0 : Nat) : Int))), (0, .ref (h))]) S.1 S.2.1 dX6_keeps_9 rfl hl (by decide) rfl (fun ls hl => ?_)
    have lp10 : ∀ (n : Nat) (i : Nat) (kv : Nat → Int), 500 - i < n → (i ≤ 500) → (∀ j, j < 625 → kv j = (if j < i then kp (125 + j) else kp j)) → ∀ (H : Heap) (locs : List Loc), Hold X A [mO h Q ((5 : Nat) : Int) ln sp rs, aW X (Q 0) 125 s, aW X (Q 1) 125 rd, aW X (Q 2) 625 kv, aW X (Q 3) 400 tx, aW X (Q 4) 8 wi, aW X (Q 5) 8 gi].flatten H → va_S A s_.heap H locs → ∀ ls : Array Slot, lv_has ls 2 [(1, .int (iI ((i : Nat) : Int))), (0, .ref (h))] → W p_ l e_ (rmD 1) s_ m_ (List.toArray [.ref (h)]) below meth c_ H locs 0 0 Q_ (F0 m_ 10 ls []) := by
      intro n
      induction n with
      | zero => intro i kv hmu hi hkv H locs hH hS ls hl; exact absurd hmu (Nat.not_lt_zero _)
      | succ n ih10 => 
        intro i kv hmu hi hkv H locs hH hS ls hl
        refine lv_iload_n S.1 S.2.1 dX6_keeps_10 rfl (lv_at hl 0 rfl) ?_
        refine lv_sipush (v := iI (((500 : Nat) : Int))) S.1 S.2.1 dX6_keeps_11 (by decide) ?_
        refine zv_icmp_ge (tgt := 38) S dX6_keeps_14 (by decide) (by omega) (by decide) (fun c_14 => ?_) (fun c_14 => ?_)
        · skip
          refine lv_aload_n S.1 S.2.1 dX6_keeps_38 rfl (lv_at hl 1 rfl) ?_
          refine lv_dup S.1 S.2.1 dX6_keeps_39 rfl ?_
          refine zv_get (v := .int (iI ((5 : Nat) : Int))) S hAM hH nX6_keeps_X6 0 rfl rfl 3 (by decide) mX6_keeps_1 rfl rfl dX6_keeps_40 ?_
          refine lv_iconst (v := iI (((1 : Nat) : Int))) S.1 S.2.1 dX6_keeps_43 (by decide) ?_
          refine zv_isub (z := ((4 : Nat) : Int)) S dX6_keeps_44 (by decide) ?_
          refine zv_put (v := .int (iI ((4 : Nat) : Int))) (w2 := [mO h Q ((4 : Nat) : Int) ln sp rs, aW X (Q 0) 125 s, aW X (Q 1) 125 rd, aW X (Q 2) 625 kv, aW X (Q 3) 400 tx, aW X (Q 4) 8 wi, aW X (Q 5) 8 gi].flatten) S hAM hH hS nX6_keeps_X6 tyX6 tyX6_ok nmX6 0 rfl rfl 3 (by decide) mX6_keeps_1 rfl rfl rfl rfl (Nat.le_of_ble_eq_true rfl) rfl dX6_keeps_45 (fun H locs hH hS => ?_)
          all_goals try (have e500 : True := trivial)
          refine lv_iconst (v := iI (((0 : Nat) : Int))) S.1 S.2.1 dX6_keeps_48 (by decide) ?_
          refine lv_istore_n (lv' := [(1, .int (iI ((0 : Nat) : Int))), (0, .ref (h))]) S.1 S.2.1 dX6_keeps_49 rfl hl (by decide) rfl (fun ls hl => ?_)
          have lp50 : ∀ (n : Nat) (i : Nat) (kw : Nat → Int), 125 - i < n → (i ≤ 125) → (∀ j, j < 625 → kw j = (if 125 * 4 ≤ j ∧ j < 125 * 4 + i then s (j - 125 * 4) else (kv) j)) → ∀ (H : Heap) (locs : List Loc), Hold X A [mO h Q ((4 : Nat) : Int) ln sp rs, aW X (Q 0) 125 s, aW X (Q 1) 125 rd, aW X (Q 2) 625 kw, aW X (Q 3) 400 tx, aW X (Q 4) 8 wi, aW X (Q 5) 8 gi].flatten H → va_S A s_.heap H locs → ∀ ls : Array Slot, lv_has ls 2 [(1, .int (iI ((i : Nat) : Int))), (0, .ref (h))] → W p_ l e_ (rmD 1) s_ m_ (List.toArray [.ref (h)]) below meth c_ H locs 0 0 Q_ (F0 m_ 50 ls []) := by
            intro n
            induction n with
            | zero => intro i kw hmu hi hkw H locs hH hS ls hl; exact absurd hmu (Nat.not_lt_zero _)
            | succ n ih50 => 
              intro i kw hmu hi hkw H locs hH hS ls hl
              refine lv_iload_n S.1 S.2.1 dX6_keeps_50 rfl (lv_at hl 0 rfl) ?_
              refine lv_bipush (v := iI (((125 : Nat) : Int))) S.1 S.2.1 dX6_keeps_51 (by decide) ?_
              refine zv_icmp_ge (tgt := 82) S dX6_keeps_53 (by decide) (by omega) (by decide) (fun c_53 => ?_) (fun c_53 => ?_)
              · skip
                refine lv_aload_n S.1 S.2.1 dX6_keeps_82 rfl (lv_at hl 1 rfl) ?_
                refine lv_dup S.1 S.2.1 dX6_keeps_83 rfl ?_
                refine zv_get (v := .int (iI ((4 : Nat) : Int))) S hAM hH nX6_keeps_X6 0 rfl rfl 3 (by decide) mX6_keeps_1 rfl rfl dX6_keeps_84 ?_
                refine lv_iconst (v := iI (((1 : Nat) : Int))) S.1 S.2.1 dX6_keeps_87 (by decide) ?_
                refine zv_iadd (z := ((5 : Nat) : Int)) S dX6_keeps_88 (by decide) ?_
                refine zv_put (v := .int (iI ((5 : Nat) : Int))) (w2 := [mO h Q ((5 : Nat) : Int) ln sp rs, aW X (Q 0) 125 s, aW X (Q 1) 125 rd, aW X (Q 2) 625 kw, aW X (Q 3) 400 tx, aW X (Q 4) 8 wi, aW X (Q 5) 8 gi].flatten) S hAM hH hS nX6_keeps_X6 tyX6 tyX6_ok nmX6 0 rfl rfl 3 (by decide) mX6_keeps_1 rfl rfl rfl rfl (Nat.le_of_ble_eq_true rfl) rfl dX6_keeps_89 (fun H locs hH hS => ?_)
                have e9 : i = 125 := (by omega)
                have hH : Hold X A [mO h Q ((5 : Nat) : Int) ln sp rs, aW X (Q 0) 125 s, aW X (Q 1) 125 rd, aW X (Q 2) 625 (kpF s kp 5), aW X (Q 3) 400 tx, aW X (Q 4) 8 wi, aW X (Q 5) 8 gi].flatten _ := hH.cong 3 rfl (fun j hj => by rw [hkw j hj, e9]; unfold kpF; rw [if_pos rfl]; by_cases e2 : 500 ≤ j; (rw [if_pos (by omega), if_pos e2]); (rw [if_neg (by omega), if_neg e2, hkv j hj, if_pos (by omega)])) rfl
                exact hret 92 ls _ _ () dX6_keeps_92 trivial hH hS
              · skip
                refine lv_aload_n S.1 S.2.1 dX6_keeps_56 rfl (lv_at hl 1 rfl) ?_
                refine zv_get (v := .ref (Q 2)) S hAM hH nX6_keeps_X6 0 rfl rfl 2 (by decide) mX6_keeps_2 rfl rfl dX6_keeps_57 ?_
                refine lv_bipush (v := iI (((125 : Nat) : Int))) S.1 S.2.1 dX6_keeps_60 (by decide) ?_
                refine lv_aload_n S.1 S.2.1 dX6_keeps_62 rfl (lv_at hl 1 rfl) ?_
                refine zv_get (v := .int (iI ((4 : Nat) : Int))) S hAM hH nX6_keeps_X6 0 rfl rfl 3 (by decide) mX6_keeps_1 rfl rfl dX6_keeps_63 ?_
                refine zv_imul (z := ((500 : Nat) : Int)) S dX6_keeps_66 (by decide) ?_
                refine lv_iload_n S.1 S.2.1 dX6_keeps_67 rfl (lv_at hl 0 rfl) ?_
                refine zv_iadd (z := (((500 + i) : Nat) : Int)) S dX6_keeps_68 (by omega) ?_
                refine lv_aload_n S.1 S.2.1 dX6_keeps_69 rfl (lv_at hl 1 rfl) ?_
                refine zv_get (v := .ref (Q 0)) S hAM hH nX6_keeps_X6 0 rfl rfl 0 (by decide) mX6_keeps_3 rfl rfl dX6_keeps_70 ?_
                refine lv_iload_n S.1 S.2.1 dX6_keeps_73 rfl (lv_at hl 0 rfl) ?_
                refine zv_iald S hAM hH 1 rfl (i) rfl (by omega) (by decide) dX6_keeps_74 ?_
                refine zv_iast (z := s i) (w2 := [mO h Q ((4 : Nat) : Int) ln sp rs, aW X (Q 0) 125 s, aW X (Q 1) 125 rd, aW X (Q 2) 625 (uI kw (500 + i) (s i)), aW X (Q 3) 400 tx, aW X (Q 4) 8 wi, aW X (Q 5) 8 gi].flatten) S hAM hH hS 3 rfl ((500 + i)) rfl (by omega) (by decide) rfl dX6_keeps_75 (fun H locs hH hS => ?_)
                refine zv_iinc (z := (((i + 1) : Nat) : Int)) (lv' := [(1, .int (iI (((i + 1) : Nat) : Int))), (0, .ref (h))]) S dX6_keeps_76 hl (k := 0) rfl (by omega) (by decide) rfl (fun ls hl => ?_)
                refine lv_goto (tgt := 50) S.1 S.2.1 dX6_keeps_79 (by decide) ?_
                exact ih50  ((i + 1)) (uI kw (500 + i) (s i)) (by omega) (by omega) (fun j hj => by by_cases e : j = 125 * 4 + i; (rw [e, uI_s, if_pos (by omega), Nat.add_sub_cancel_left]); (rw [uI_n e, hkw j hj]; by_cases e2 : 125 * 4 ≤ j ∧ j < 125 * 4 + i; (rw [if_pos e2, if_pos (by omega)]); (rw [if_neg e2, if_neg (by omega)]))) _ _ hH hS ls (lv_sub hl [0, 1] rfl)
          exact lp50 (125 - (0) + 1) (0) (kv) (Nat.lt_succ_self _) (by omega) (fun j hj => by rw [if_neg (by omega)]) _ _ hH hS ls (lv_sub hl [0, 1] rfl)
        · skip
          refine lv_aload_n S.1 S.2.1 dX6_keeps_17 rfl (lv_at hl 1 rfl) ?_
          refine zv_get (v := .ref (Q 2)) S hAM hH nX6_keeps_X6 0 rfl rfl 2 (by decide) mX6_keeps_2 rfl rfl dX6_keeps_18 ?_
          refine lv_iload_n S.1 S.2.1 dX6_keeps_21 rfl (lv_at hl 0 rfl) ?_
          refine lv_aload_n S.1 S.2.1 dX6_keeps_22 rfl (lv_at hl 1 rfl) ?_
          refine zv_get (v := .ref (Q 2)) S hAM hH nX6_keeps_X6 0 rfl rfl 2 (by decide) mX6_keeps_2 rfl rfl dX6_keeps_23 ?_
          refine lv_bipush (v := iI (((125 : Nat) : Int))) S.1 S.2.1 dX6_keeps_26 (by decide) ?_
          refine lv_iload_n S.1 S.2.1 dX6_keeps_28 rfl (lv_at hl 0 rfl) ?_
          refine zv_iadd (z := (((125 + i) : Nat) : Int)) S dX6_keeps_29 (by omega) ?_
          refine zv_iald S hAM hH 3 rfl ((125 + i)) rfl (by omega) (by decide) dX6_keeps_30 ?_
          refine zv_iast (z := kv (125 + i)) (w2 := [mO h Q ((5 : Nat) : Int) ln sp rs, aW X (Q 0) 125 s, aW X (Q 1) 125 rd, aW X (Q 2) 625 (uI kv i (kv (125 + i))), aW X (Q 3) 400 tx, aW X (Q 4) 8 wi, aW X (Q 5) 8 gi].flatten) S hAM hH hS 3 rfl (i) rfl (by omega) (by decide) rfl dX6_keeps_31 (fun H locs hH hS => ?_)
          refine zv_iinc (z := (((i + 1) : Nat) : Int)) (lv' := [(1, .int (iI (((i + 1) : Nat) : Int))), (0, .ref (h))]) S dX6_keeps_32 hl (k := 0) rfl (by omega) (by decide) rfl (fun ls hl => ?_)
          refine lv_goto (tgt := 10) S.1 S.2.1 dX6_keeps_35 (by decide) ?_
          exact ih10  ((i + 1)) (uI kv i (kv (125 + i))) (by omega) (by omega) (fun j hj => by by_cases e : j = i; (rw [e, uI_s, if_pos (by omega), hkv _ (by omega), if_neg (by omega)]); (rw [uI_n e, hkv j hj]; by_cases e2 : j < i; (rw [if_pos e2, if_pos (by omega)]); (rw [if_neg e2, if_neg (by omega)]))) _ _ hH hS ls (lv_sub hl [0, 1] rfl)
    exact lp10 (500 - (0) + 1) (0) (kp) (Nat.lt_succ_self _) (by omega) (fun j hj => by rw [if_neg (by omega)]) _ _ hH hS ls (lv_sub hl [0, 1] rfl)

theorem mX6_undo_1 : Cond.fieldLink RX6 101 "RoleDoublingPlannerModel" "keptMany" "I" ∈ wsX6_undo := List.mem_of_getElem? (i := 1) rfl
theorem nX6_undo_X6 : ∀ w ∈ wsX60, w ∈ wsX6_undo := fun _ h => List.mem_cons_of_mem _ (List.mem_append_right _ h)
theorem mX6_undo_2 : Cond.fieldLink RX6 7 "RoleDoublingPlannerModel" "s" "[I" ∈ wsX6_undo := List.mem_of_getElem? (i := 2) rfl
theorem mX6_undo_3 : Cond.fieldLink RX6 16 "RoleDoublingPlannerModel" "kept" "[I" ∈ wsX6_undo := List.mem_of_getElem? (i := 3) rfl
set_option maxHeartbeats 4000000 in
set_option maxRecDepth 100000 in
theorem kX6_undo (l : Launch) (X : XT) (h : Nat) (Q : Nat → Nat) (s : Nat → Int) (rd : Nat → Int) (kp : Nat → Int) (kn : Nat) (tx : Nat → Int) (ln : Int) (sp : Int) (rs : Int) (wi : Nat → Int) (gi : Nat → Int) (hkn : kn ≤ 5) : Ci l yX6_undo wsX6_undo (rmD 1) X [.ref h] [mO h Q ((kn : Nat) : Int) ln sp rs, aW X (Q 0) 125 s, aW X (Q 1) 125 rd, aW X (Q 2) 625 kp, aW X (Q 3) 400 tx, aW X (Q 4) 8 wi, aW X (Q 5) 8 gi] (fun (z : Int) (_ : Unit) => z = (opUnd s kp kn).1) (fun (_ : Unit) => [mO h Q (((opUnd s kp kn).2.2.2 : Nat) : Int) ln sp rs, aW X (Q 0) 125 ((opUnd s kp kn).2.1), aW X (Q 1) 125 rd, aW X (Q 2) 625 ((opUnd s kp kn).2.2.1), aW X (Q 3) 400 tx, aW X (Q 4) 8 wi, aW X (Q 5) 8 gi]) := by
  refine Ci.ofW (cc := cX6_undo) (maxL := 2) (by decide) rfl (Nat.le_of_ble_eq_true rfl) ?_
  intro p_ e_ s_ m_ below meth c_ A Q_ S hA hAM hH hS hret ls hl
  have hl : lv_has ls 2 [(0, .ref (h))] := hl
  refine lv_aload_n S.1 S.2.1 dX6_undo_0 rfl (lv_at hl 0 rfl) ?_
  refine zv_get (v := .int (iI ((kn : Nat) : Int))) S hAM hH nX6_undo_X6 0 rfl rfl 3 (by decide) mX6_undo_1 rfl rfl dX6_undo_1 ?_
  refine zv_if_ne (tgt := 11) S dX6_undo_4 (by decide) (by omega) (fun c_4 => ?_) (fun c_4 => ?_)
  · skip
    refine lv_aload_n S.1 S.2.1 dX6_undo_11 rfl (lv_at hl 0 rfl) ?_
    refine lv_dup S.1 S.2.1 dX6_undo_12 rfl ?_
    refine zv_get (v := .int (iI ((kn : Nat) : Int))) S hAM hH nX6_undo_X6 0 rfl rfl 3 (by decide) mX6_undo_1 rfl rfl dX6_undo_13 ?_
    refine lv_iconst (v := iI (((1 : Nat) : Int))) S.1 S.2.1 dX6_undo_16 (by decide) ?_
    refine zv_isub (z := (((kn - 1) : Nat) : Int)) S dX6_undo_17 (by omega) ?_
    refine zv_put (v := .int (iI (((kn - 1) : Nat) : Int))) (w2 := [mO h Q (((kn - 1) : Nat) : Int) ln sp rs, aW X (Q 0) 125 s, aW X (Q 1) 125 rd, aW X (Q 2) 625 kp, aW X (Q 3) 400 tx, aW X (Q 4) 8 wi, aW X (Q 5) 8 gi].flatten) S hAM hH hS nX6_undo_X6 tyX6 tyX6_ok nmX6 0 rfl rfl 3 (by decide) mX6_undo_1 rfl rfl rfl rfl (Nat.le_of_ble_eq_true rfl) rfl dX6_undo_18 (fun H locs hH hS => ?_)
    refine lv_iconst (v := iI (((0 : Nat) : Int))) S.1 S.2.1 dX6_undo_21 (by decide) ?_
    refine lv_istore_n (lv' := [(1, .int (iI ((0 : Nat) : Int))), (0, .ref (h))]) S.1 S.2.1 dX6_undo_22 rfl hl (by decide) rfl (fun ls hl => ?_)
    have lp23 : ∀ (n : Nat) (i : Nat) (sv : Nat → Int), 125 - i < n → (i ≤ 125) → (∀ j, j < 125 → sv j = (if j < i then kp (125 * (kn - 1) + j) else s j)) → ∀ (H : Heap) (locs : List Loc), Hold X A [mO h Q (((kn - 1) : Nat) : Int) ln sp rs, aW X (Q 0) 125 sv, aW X (Q 1) 125 rd, aW X (Q 2) 625 kp, aW X (Q 3) 400 tx, aW X (Q 4) 8 wi, aW X (Q 5) 8 gi].flatten H → va_S A s_.heap H locs → ∀ ls : Array Slot, lv_has ls 2 [(1, .int (iI ((i : Nat) : Int))), (0, .ref (h))] → W p_ l e_ (rmD 1) s_ m_ (List.toArray [.ref (h)]) below meth c_ H locs 0 0 Q_ (F0 m_ 23 ls []) := by
      intro n
      induction n with
      | zero => intro i sv hmu hi hsv H locs hH hS ls hl; exact absurd hmu (Nat.not_lt_zero _)
      | succ n ih23 => 
        intro i sv hmu hi hsv H locs hH hS ls hl
        refine lv_iload_n S.1 S.2.1 dX6_undo_23 rfl (lv_at hl 0 rfl) ?_
        refine lv_bipush (v := iI (((125 : Nat) : Int))) S.1 S.2.1 dX6_undo_24 (by decide) ?_
        refine zv_icmp_ge (tgt := 55) S dX6_undo_26 (by decide) (by omega) (by decide) (fun c_26 => ?_) (fun c_26 => ?_)
        · skip
          refine lv_aload_n S.1 S.2.1 dX6_undo_55 rfl (lv_at hl 1 rfl) ?_
          refine zv_get (v := .int (iI (((kn - 1) : Nat) : Int))) S hAM hH nX6_undo_X6 0 rfl rfl 3 (by decide) mX6_undo_1 rfl rfl dX6_undo_56 ?_
          have eO : opUnd s kp kn = ((((kn - 1) : Nat) : Int), unF kp (kn - 1), kp, kn - 1) := if_neg (by omega)
          rw [eO] at hret
          have e9 : i = 125 := (by omega)
          have hH : Hold X A [mO h Q (((kn - 1) : Nat) : Int) ln sp rs, aW X (Q 0) 125 (unF kp (kn - 1)), aW X (Q 1) 125 rd, aW X (Q 2) 625 kp, aW X (Q 3) 400 tx, aW X (Q 4) 8 wi, aW X (Q 5) 8 gi].flatten _ := hH.cong 1 rfl (fun j hj => by rw [hsv j hj, if_pos (by omega)]; rfl) rfl
          exact hret 59 ls _ _ ((((kn - 1) : Nat) : Int)) () dX6_undo_59 rfl rfl hH hS
        · skip
          refine lv_aload_n S.1 S.2.1 dX6_undo_29 rfl (lv_at hl 1 rfl) ?_
          refine zv_get (v := .ref (Q 0)) S hAM hH nX6_undo_X6 0 rfl rfl 0 (by decide) mX6_undo_2 rfl rfl dX6_undo_30 ?_
          refine lv_iload_n S.1 S.2.1 dX6_undo_33 rfl (lv_at hl 0 rfl) ?_
          refine lv_aload_n S.1 S.2.1 dX6_undo_34 rfl (lv_at hl 1 rfl) ?_
          refine zv_get (v := .ref (Q 2)) S hAM hH nX6_undo_X6 0 rfl rfl 2 (by decide) mX6_undo_3 rfl rfl dX6_undo_35 ?_
          refine lv_bipush (v := iI (((125 : Nat) : Int))) S.1 S.2.1 dX6_undo_38 (by decide) ?_
          refine lv_aload_n S.1 S.2.1 dX6_undo_40 rfl (lv_at hl 1 rfl) ?_
          refine zv_get (v := .int (iI (((kn - 1) : Nat) : Int))) S hAM hH nX6_undo_X6 0 rfl rfl 3 (by decide) mX6_undo_1 rfl rfl dX6_undo_41 ?_
          refine zv_imul (z := (((125 * (kn - 1)) : Nat) : Int)) S dX6_undo_44 (by omega) ?_
          refine lv_iload_n S.1 S.2.1 dX6_undo_45 rfl (lv_at hl 0 rfl) ?_
          refine zv_iadd (z := ((((125 * (kn - 1)) + i) : Nat) : Int)) S dX6_undo_46 (by omega) ?_
          refine zv_iald S hAM hH 3 rfl (((125 * (kn - 1)) + i)) rfl (by omega) (by decide) dX6_undo_47 ?_
          refine zv_iast (z := kp ((125 * (kn - 1)) + i)) (w2 := [mO h Q (((kn - 1) : Nat) : Int) ln sp rs, aW X (Q 0) 125 (uI sv i (kp ((125 * (kn - 1)) + i))), aW X (Q 1) 125 rd, aW X (Q 2) 625 kp, aW X (Q 3) 400 tx, aW X (Q 4) 8 wi, aW X (Q 5) 8 gi].flatten) S hAM hH hS 1 rfl (i) rfl (by omega) (by decide) rfl dX6_undo_48 (fun H locs hH hS => ?_)
          refine zv_iinc (z := (((i + 1) : Nat) : Int)) (lv' := [(1, .int (iI (((i + 1) : Nat) : Int))), (0, .ref (h))]) S dX6_undo_49 hl (k := 0) rfl (by omega) (by decide) rfl (fun ls hl => ?_)
          refine lv_goto (tgt := 23) S.1 S.2.1 dX6_undo_52 (by decide) ?_
          exact ih23  ((i + 1)) (uI sv i (kp ((125 * (kn - 1)) + i))) (by omega) (by omega) (fun j hj => by by_cases e : j = i; (rw [e, uI_s, if_pos (by omega)]); (rw [uI_n e, hsv j hj]; by_cases e2 : j < i; (rw [if_pos e2, if_pos (by omega)]); (rw [if_neg e2, if_neg (by omega)]))) _ _ hH hS ls (lv_sub hl [0, 1] rfl)
    exact lp23 (125 - (0) + 1) (0) (s) (Nat.lt_succ_self _) (by omega) (fun j hj => by rw [if_neg (by omega)]) _ _ hH hS ls (lv_sub hl [0, 1] rfl)
  · skip
    refine lv_sipush (v := iI (-1002)) S.1 S.2.1 dX6_undo_7 (by decide) ?_
    have eO : opUnd s kp kn = (-1002, s, kp, kn) := if_pos (by omega)
    rw [eO] at hret
    exact hret 10 ls _ _ (-1002) () dX6_undo_10 rfl rfl hH hS
