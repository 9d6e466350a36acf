theorem mX6_changeTime_1 : Cond.fieldLink RX6 7 "RoleDoublingPlannerModel" "s" "[I" ∈ wsX6_changeTime := List.mem_of_getElem? (i := 1) rfl
theorem nX6_changeTime_X6 : ∀ w ∈ wsX60, w ∈ wsX6_changeTime := fun _ h => List.mem_cons_of_mem _ (List.mem_append_right _ h)
set_option maxHeartbeats 4000000 in
set_option maxRecDepth 100000 in
theorem kX6_changeTime (l : Launch) (X : XT) (h : Nat) (Q : Nat → Nat) (s : Nat → Int) (rd : Nat → Int) (kp : Nat → Int) (km : Int) (tx : Nat → Int) (ln : Int) (sp : Int) (rs : Int) (wi : Nat → Int) (gi : Nat → Int) (p : Nat) (q : Nat) (f : Int) (hs : okR s) (hp : p < 8) (hq : q < 8) (hf : 0 ≤ f ∧ f ≤ 120) : Ci l yX6_changeTime wsX6_changeTime (rmD 1) X [.ref h, .int (iI ((p : Nat) : Int)), .int (iI ((q : Nat) : Int)), .int (iI (f))] [mO h Q km ln sp rs, aW X (Q 0) 125 s, aW X (Q 1) 125 rd, aW X (Q 2) 625 kp, aW X (Q 3) 400 tx, aW X (Q 4) 8 wi, aW X (Q 5) 8 gi] (fun (z : Int) (_ : Unit) => z = chT s p q f) (fun (_ : Unit) => [mO h Q km ln sp rs, aW X (Q 0) 125 s, aW X (Q 1) 125 rd, aW X (Q 2) 625 kp, aW X (Q 3) 400 tx, aW X (Q 4) 8 wi, aW X (Q 5) 8 gi]) := by
  refine Ci.ofW (cc := cX6_changeTime) (maxL := 5) (by decide) rfl (Nat.le_of_ble_eq_true rfl) ?_
  intro p_ e_ s_ m_ below meth c_ A Q_ S hA hAM hH hS hret ls hl
  have hl : lv_has ls 5 [(0, .ref (h)), (1, .int (iI ((p : Nat) : Int))), (2, .int (iI ((q : Nat) : Int))), (3, .int (iI (f)))] := hl
  have hk1 := hs.nr8
  have hk2 := hs.na20
  have hk3 := hs.ns10
  have hq1 := (hs.2.2.2.2.1 p hp).2.1
  have hq2 := (hs.2.2.2.2.1 q hq).2.2.1
  refine lv_aload_n S.1 S.2.1 dX6_changeTime_0 rfl (lv_at hl 0 rfl) ?_
  refine zv_get (v := .ref (Q 0)) S hAM hH nX6_changeTime_X6 0 rfl rfl 0 (by decide) mX6_changeTime_1 rfl rfl dX6_changeTime_1 ?_
  refine lv_bipush (v := iI (((20 : Nat) : Int))) S.1 S.2.1 dX6_changeTime_4 (by decide) ?_
  refine lv_iload_n S.1 S.2.1 dX6_changeTime_6 rfl (lv_at hl 1 rfl) ?_
  refine zv_iadd (z := (((20 + p) : Nat) : Int)) S dX6_changeTime_7 (by omega) ?_
  refine zv_iald S hAM hH 1 rfl ((20 + p)) rfl (by omega) (by decide) dX6_changeTime_8 ?_
  refine lv_aload_n S.1 S.2.1 dX6_changeTime_9 rfl (lv_at hl 0 rfl) ?_
  refine zv_get (v := .ref (Q 0)) S hAM hH nX6_changeTime_X6 0 rfl rfl 0 (by decide) mX6_changeTime_1 rfl rfl dX6_changeTime_10 ?_
  refine lv_bipush (v := iI (((28 : Nat) : Int))) S.1 S.2.1 dX6_changeTime_13 (by decide) ?_
  refine lv_iload_n S.1 S.2.1 dX6_changeTime_15 rfl (lv_at hl 2 rfl) ?_
  refine zv_iadd (z := (((28 + q) : Nat) : Int)) S dX6_changeTime_16 (by omega) ?_
  refine zv_iald S hAM hH 1 rfl ((28 + q)) rfl (by omega) (by decide) dX6_changeTime_17 ?_
  refine zv_iadd (z := (s (20 + p) + s (28 + q))) S dX6_changeTime_18 rfl ?_
  refine lv_iload_n S.1 S.2.1 dX6_changeTime_19 rfl (lv_at hl 3 rfl) ?_
  refine zv_isub (z := ((s (20 + p) + s (28 + q)) - f)) S dX6_changeTime_20 rfl ?_
  refine lv_istore (lv' := [(4, .int (iI (((s (20 + p) + s (28 + q)) - f)))), (0, .ref (h)), (1, .int (iI ((p : Nat) : Int))), (2, .int (iI ((q : Nat) : Int))), (3, .int (iI (f)))]) S.1 S.2.1 dX6_changeTime_21 hl (by decide) rfl (fun ls hl => ?_)
  refine lv_iload S.1 S.2.1 dX6_changeTime_23 (lv_at hl 0 rfl) ?_
  refine zv_if_ge (tgt := 32) S dX6_changeTime_25 (by decide) (by omega) (fun c_25 => ?_) (fun c_25 => ?_)
  · skip
    refine lv_iload S.1 S.2.1 dX6_changeTime_32 (lv_at hl 0 rfl) ?_
    exact hret 34 ls _ _ (((s (20 + p) + s (28 + q)) - f)) () dX6_changeTime_34 rfl (by unfold chT; split <;> omega) hH hS
  · skip
    refine lv_iconst (v := iI (((0 : Nat) : Int))) S.1 S.2.1 dX6_changeTime_28 (by decide) ?_
    refine lv_goto (tgt := 34) S.1 S.2.1 dX6_changeTime_29 (by decide) ?_
    exact hret 34 ls _ _ (((0 : Nat) : Int)) () dX6_changeTime_34 rfl (by unfold chT; split <;> omega) hH hS

theorem mX6_overlap_1 : Cond.fieldLink RX6 7 "RoleDoublingPlannerModel" "s" "[I" ∈ wsX6_overlap := List.mem_of_getElem? (i := 1) rfl
theorem nX6_overlap_X6 : ∀ w ∈ wsX60, w ∈ wsX6_overlap := fun _ h => List.mem_cons_of_mem _ (List.mem_append_right _ h)
set_option maxHeartbeats 4000000 in
set_option maxRecDepth 100000 in
theorem kX6_overlap (l : Launch) (X : XT) (h : Nat) (Q : Nat → Nat) (s : Nat → Int) (rd : Nat → Int) (kp : Nat → Int) (km : Int) (tx : Nat → Int) (ln : Int) (sp : Int) (rs : Int) (wi : Nat → Int) (gi : Nat → Int) (p : Nat) (q : Nat) (hs : okR s) (hp : p < 8) (hq : q < 8) : Ci l yX6_overlap wsX6_overlap (rmD 3) X [.ref h, .int (iI ((p : Nat) : Int)), .int (iI ((q : Nat) : Int))] [mO h Q km ln sp rs, aW X (Q 0) 125 s, aW X (Q 1) 125 rd, aW X (Q 2) 625 kp, aW X (Q 3) 400 tx, aW X (Q 4) 8 wi, aW X (Q 5) 8 gi] (fun (z : Int) (_ : Unit) => (z = 1 ∧ (ov s p q ≠ 0)) ∨ (z = 0 ∧ ¬ (ov s p q ≠ 0))) (fun (_ : Unit) => [mO h Q km ln sp rs, aW X (Q 0) 125 s, aW X (Q 1) 125 rd, aW X (Q 2) 625 kp, aW X (Q 3) 400 tx, aW X (Q 4) 8 wi, aW X (Q 5) 8 gi]) := by
  refine Ci.ofW (cc := cX6_overlap) (maxL := 6) (by decide) rfl (Nat.le_of_ble_eq_true rfl) ?_
  intro p_ e_ s_ m_ below meth c_ A Q_ S hA hAM hH hS hret ls hl
  have hl : lv_has ls 6 [(0, .ref (h)), (1, .int (iI ((p : Nat) : Int))), (2, .int (iI ((q : Nat) : Int)))] := hl
  have hk1 := hs.nr8
  have hk2 := hs.na20
  have hk3 := hs.ns10
  refine lv_iconst (v := iI (((0 : Nat) : Int))) S.1 S.2.1 dX6_overlap_0 (by decide) ?_
  refine lv_istore_n (lv' := [(3, .int (iI ((0 : Nat) : Int))), (0, .ref (h)), (1, .int (iI ((p : Nat) : Int))), (2, .int (iI ((q : Nat) : Int)))]) S.1 S.2.1 dX6_overlap_1 rfl hl (by decide) rfl (fun ls hl => ?_)
  refine lv_iconst (v := iI (((0 : Nat) : Int))) S.1 S.2.1 dX6_overlap_2 (by decide) ?_
  refine lv_istore (lv' := [(4, .int (iI ((0 : Nat) : Int))), (3, .int (iI ((0 : Nat) : Int))), (0, .ref (h)), (1, .int (iI ((p : Nat) : Int))), (2, .int (iI ((q : Nat) : Int)))]) S.1 S.2.1 dX6_overlap_3 hl (by decide) rfl (fun ls hl => ?_)
  have lp5 : ∀ (n : Nat) (a : Nat) (is : Nat), na s - a < n → (a ≤ na s) → (is = ovO s p q a) → (is ≤ 1) → ∀ (H : Heap) (locs : List Loc), Hold X A [mO h Q km ln sp rs, aW X (Q 0) 125 s, aW X (Q 1) 125 rd, aW X (Q 2) 625 kp, aW X (Q 3) 400 tx, aW X (Q 4) 8 wi, aW X (Q 5) 8 gi].flatten H → va_S A s_.heap H locs → ∀ ls : Array Slot, lv_has ls 6 [(4, .int (iI ((a : Nat) : Int))), (3, .int (iI ((is : Nat) : Int))), (0, .ref (h)), (1, .int (iI ((p : Nat) : Int))), (2, .int (iI ((q : Nat) : Int)))] → W p_ l e_ (rmD 3) s_ m_ (List.toArray [.ref (h), .int (iI ((p : Nat) : Int)), .int (iI ((q : Nat) : Int))]) below meth c_ H locs 0 0 Q_ (F0 m_ 5 ls []) := by
    intro n
    induction n with
    | zero => intro a is hmu hi hset h1 H locs hH hS ls hl; exact absurd hmu (Nat.not_lt_zero _)
    | succ n ih5 => 
      intro a is hmu hi hset h1 H locs hH hS ls hl
      refine lv_iload S.1 S.2.1 dX6_overlap_5 (lv_at hl 0 rfl) ?_
      refine lv_aload_n S.1 S.2.1 dX6_overlap_7 rfl (lv_at hl 2 rfl) ?_
      refine zv_get (v := .ref (Q 0)) S hAM hH nX6_overlap_X6 0 rfl rfl 0 (by decide) mX6_overlap_1 rfl rfl dX6_overlap_8 ?_
      refine lv_bipush (v := iI (((44 : Nat) : Int))) S.1 S.2.1 dX6_overlap_11 (by decide) ?_
      refine zv_iald S hAM hH 1 rfl (44) rfl (by decide) (by decide) dX6_overlap_13 ?_
      refine zv_top (z := s 44) (z2 := ((na s : Nat) : Int)) hs.e44 ?_
      refine zv_icmp_ge (tgt := 104) S dX6_overlap_14 (by decide) (by omega) (by omega) (fun c_14 => ?_) (fun c_14 => ?_)
      · skip
        refine lv_iload_n S.1 S.2.1 dX6_overlap_104 rfl (lv_at hl 1 rfl) ?_
        exact hret 105 ls _ _ (((is : Nat) : Int)) () dX6_overlap_105 (nar_b h1) (by have e9 : a = na s := (by omega); rw [e9] at hset; have e8 : ov s p q = ovO s p q (na s) := rfl; omega) hH hS
      · skip
        refine lv_iconst (v := iI (((0 : Nat) : Int))) S.1 S.2.1 dX6_overlap_17 (by decide) ?_
        refine lv_istore (lv' := [(5, .int (iI ((0 : Nat) : Int))), (4, .int (iI ((a : Nat) : Int))), (3, .int (iI ((is : Nat) : Int))), (0, .ref (h)), (1, .int (iI ((p : Nat) : Int))), (2, .int (iI ((q : Nat) : Int)))]) S.1 S.2.1 dX6_overlap_18 hl (by decide) rfl (fun ls hl => ?_)
        have lp20 : ∀ (n : Nat) (b : Nat) (iz : Nat), na s - b < n → (b ≤ na s) → (iz = ovI s p q a b (ovO s p q a)) → (iz ≤ 1) → ∀ (H : Heap) (locs : List Loc), Hold X A [mO h Q km ln sp rs, aW X (Q 0) 125 s, aW X (Q 1) 125 rd, aW X (Q 2) 625 kp, aW X (Q 3) 400 tx, aW X (Q 4) 8 wi, aW X (Q 5) 8 gi].flatten H → va_S A s_.heap H locs → ∀ ls : Array Slot, lv_has ls 6 [(5, .int (iI ((b : Nat) : Int))), (4, .int (iI ((a : Nat) : Int))), (3, .int (iI ((iz : Nat) : Int))), (0, .ref (h)), (1, .int (iI ((p : Nat) : Int))), (2, .int (iI ((q : Nat) : Int)))] → W p_ l e_ (rmD 3) s_ m_ (List.toArray [.ref (h), .int (iI ((p : Nat) : Int)), .int (iI ((q : Nat) : Int))]) below meth c_ H locs 0 0 Q_ (F0 m_ 20 ls []) := by
          intro n
          induction n with
          | zero => intro b iz hmu hj hset2 h2 H locs hH hS ls hl; exact absurd hmu (Nat.not_lt_zero _)
          | succ n ih20 => 
            intro b iz hmu hj hset2 h2 H locs hH hS ls hl
            refine lv_iload S.1 S.2.1 dX6_overlap_20 (lv_at hl 0 rfl) ?_
            refine lv_aload_n S.1 S.2.1 dX6_overlap_22 rfl (lv_at hl 3 rfl) ?_
            refine zv_get (v := .ref (Q 0)) S hAM hH nX6_overlap_X6 0 rfl rfl 0 (by decide) mX6_overlap_1 rfl rfl dX6_overlap_23 ?_
            refine lv_bipush (v := iI (((44 : Nat) : Int))) S.1 S.2.1 dX6_overlap_26 (by decide) ?_
            refine zv_iald S hAM hH 1 rfl (44) rfl (by decide) (by decide) dX6_overlap_28 ?_
            refine zv_top (z := s 44) (z2 := ((na s : Nat) : Int)) hs.e44 ?_
            refine zv_icmp_ge (tgt := 98) S dX6_overlap_29 (by decide) (by omega) (by omega) (fun c_29 => ?_) (fun c_29 => ?_)
            · skip
              refine zv_iinc (z := (((a + 1) : Nat) : Int)) (lv' := [(4, .int (iI (((a + 1) : Nat) : Int))), (5, .int (iI ((b : Nat) : Int))), (3, .int (iI ((iz : Nat) : Int))), (0, .ref (h)), (1, .int (iI ((p : Nat) : Int))), (2, .int (iI ((q : Nat) : Int)))]) S dX6_overlap_98 hl (k := 1) rfl (by omega) (by decide) rfl (fun ls hl => ?_)
              refine lv_goto (tgt := 5) S.1 S.2.1 dX6_overlap_101 (by decide) ?_
              exact ih5  ((a + 1)) (iz) (by omega) (by omega) (by have e9 : b = na s := (by omega); rw [hset2, e9]; rfl) (by omega) _ _ hH hS ls (lv_sub hl [0, 2, 3, 4, 5] rfl)
            · skip
              refine lv_iload_n S.1 S.2.1 dX6_overlap_32 rfl (lv_at hl 2 rfl) ?_
              refine zv_if_ne (tgt := 86) S dX6_overlap_33 (by decide) (by omega) (fun c_33 => ?_) (fun c_33 => ?_)
              · skip
                refine lv_iconst (v := iI (((1 : Nat) : Int))) S.1 S.2.1 dX6_overlap_86 (by decide) ?_
                refine lv_goto (tgt := 91) S.1 S.2.1 dX6_overlap_87 (by decide) ?_
                refine lv_istore_n (lv' := [(3, .int (iI ((1 : Nat) : Int))), (5, .int (iI ((b : Nat) : Int))), (4, .int (iI ((a : Nat) : Int))), (0, .ref (h)), (1, .int (iI ((p : Nat) : Int))), (2, .int (iI ((q : Nat) : Int)))]) S.1 S.2.1 dX6_overlap_91 rfl hl (by decide) rfl (fun ls hl => ?_)
                refine zv_iinc (z := (((b + 1) : Nat) : Int)) (lv' := [(5, .int (iI (((b + 1) : Nat) : Int))), (3, .int (iI ((1 : Nat) : Int))), (4, .int (iI ((a : Nat) : Int))), (0, .ref (h)), (1, .int (iI ((p : Nat) : Int))), (2, .int (iI ((q : Nat) : Int)))]) S dX6_overlap_92 hl (k := 1) rfl (by omega) (by decide) rfl (fun ls hl => ?_)
                refine lv_goto (tgt := 20) S.1 S.2.1 dX6_overlap_95 (by decide) ?_
                exact ih20  ((b + 1)) (1) (by omega) (by omega) (by rw [ovI]; split <;> first | rfl | (exfalso; omega)) (by omega) _ _ hH hS ls (lv_sub hl [0, 2, 1, 3, 4, 5] rfl)
              · skip
                refine lv_aload_n S.1 S.2.1 dX6_overlap_36 rfl (lv_at hl 3 rfl) ?_
                refine lv_iload S.1 S.2.1 dX6_overlap_37 (lv_at hl 1 rfl) ?_
                refine zc_Vi (n := 1) (As := [.int (iI ((a : Nat) : Int))]) (rest := []) S hAM hA (kX6_roleOf l X h Q s rd kp km tx ln sp rs wi gi a hs (by omega)) rfl gX6_overlap_X6_roleOf  (by decide +kernel) ⟨Nat.le_of_ble_eq_true rfl, Nat.le_of_ble_eq_true rfl⟩ hH hS [0, 1, 2, 3, 4, 5, 6] rfl 7 rfl (List.Perm.refl _) 6 0 rfl rfl rfl hl.1 rfl (Nat.le_of_ble_eq_true rfl) dX6_overlap_39 ⟨Nat.le_of_ble_eq_true rfl, Nat.le_of_ble_eq_true rfl⟩ (fun z2 _ H locs hp3 hH hS => ?_)
                have hH : Hold X A [mO h Q km ln sp rs, aW X (Q 0) 125 s, aW X (Q 1) 125 rd, aW X (Q 2) 625 kp, aW X (Q 3) 400 tx, aW X (Q 4) 8 wi, aW X (Q 5) 8 gi].flatten H := hH
                obtain rfl := hp3
                refine lv_iload_n S.1 S.2.1 dX6_overlap_42 rfl (lv_at hl 4 rfl) ?_
                refine zv_icmp_ne (tgt := 90) S dX6_overlap_43 (by decide) (by have := hs.rl8 a (by omega); omega) (by omega) (fun c_43 => ?_) (fun c_43 => ?_)
                · skip
                  refine lv_iconst (v := iI (((0 : Nat) : Int))) S.1 S.2.1 dX6_overlap_90 (by decide) ?_
                  refine lv_istore_n (lv' := [(3, .int (iI ((0 : Nat) : Int))), (5, .int (iI ((b : Nat) : Int))), (4, .int (iI ((a : Nat) : Int))), (0, .ref (h)), (1, .int (iI ((p : Nat) : Int))), (2, .int (iI ((q : Nat) : Int)))]) S.1 S.2.1 dX6_overlap_91 rfl hl (by decide) rfl (fun ls hl => ?_)
                  refine zv_iinc (z := (((b + 1) : Nat) : Int)) (lv' := [(5, .int (iI (((b + 1) : Nat) : Int))), (3, .int (iI ((0 : Nat) : Int))), (4, .int (iI ((a : Nat) : Int))), (0, .ref (h)), (1, .int (iI ((p : Nat) : Int))), (2, .int (iI ((q : Nat) : Int)))]) S dX6_overlap_92 hl (k := 1) rfl (by omega) (by decide) rfl (fun ls hl => ?_)
                  refine lv_goto (tgt := 20) S.1 S.2.1 dX6_overlap_95 (by decide) ?_
                  exact ih20  ((b + 1)) (0) (by omega) (by omega) (by rw [ovI]; split <;> first | rfl | (exfalso; omega)) (by omega) _ _ hH hS ls (lv_sub hl [0, 2, 1, 3, 4, 5] rfl)
                · skip
                  refine lv_aload_n S.1 S.2.1 dX6_overlap_46 rfl (lv_at hl 3 rfl) ?_
                  refine lv_iload S.1 S.2.1 dX6_overlap_47 (lv_at hl 0 rfl) ?_
                  refine zc_Vi (n := 1) (As := [.int (iI ((b : Nat) : Int))]) (rest := []) S hAM hA (kX6_roleOf l X h Q s rd kp km tx ln sp rs wi gi b hs (by omega)) rfl gX6_overlap_X6_roleOf  (by decide +kernel) ⟨Nat.le_of_ble_eq_true rfl, Nat.le_of_ble_eq_true rfl⟩ hH hS [0, 1, 2, 3, 4, 5, 6] rfl 7 rfl (List.Perm.refl _) 6 0 rfl rfl rfl hl.1 rfl (Nat.le_of_ble_eq_true rfl) dX6_overlap_49 ⟨Nat.le_of_ble_eq_true rfl, Nat.le_of_ble_eq_true rfl⟩ (fun z5 _ H locs hp6 hH hS => ?_)
                  have hH : Hold X A [mO h Q km ln sp rs, aW X (Q 0) 125 s, aW X (Q 1) 125 rd, aW X (Q 2) 625 kp, aW X (Q 3) 400 tx, aW X (Q 4) 8 wi, aW X (Q 5) 8 gi].flatten H := hH
                  obtain rfl := hp6
                  refine lv_iload_n S.1 S.2.1 dX6_overlap_52 rfl (lv_at hl 5 rfl) ?_
                  refine zv_icmp_ne (tgt := 90) S dX6_overlap_53 (by decide) (by have := hs.rl8 b (by omega); omega) (by omega) (fun c_53 => ?_) (fun c_53 => ?_)
                  · skip
                    refine lv_iconst (v := iI (((0 : Nat) : Int))) S.1 S.2.1 dX6_overlap_90 (by decide) ?_
                    refine lv_istore_n (lv' := [(3, .int (iI ((0 : Nat) : Int))), (5, .int (iI ((b : Nat) : Int))), (4, .int (iI ((a : Nat) : Int))), (0, .ref (h)), (1, .int (iI ((p : Nat) : Int))), (2, .int (iI ((q : Nat) : Int)))]) S.1 S.2.1 dX6_overlap_91 rfl hl (by decide) rfl (fun ls hl => ?_)
                    refine zv_iinc (z := (((b + 1) : Nat) : Int)) (lv' := [(5, .int (iI (((b + 1) : Nat) : Int))), (3, .int (iI ((0 : Nat) : Int))), (4, .int (iI ((a : Nat) : Int))), (0, .ref (h)), (1, .int (iI ((p : Nat) : Int))), (2, .int (iI ((q : Nat) : Int)))]) S dX6_overlap_92 hl (k := 1) rfl (by omega) (by decide) rfl (fun ls hl => ?_)
                    refine lv_goto (tgt := 20) S.1 S.2.1 dX6_overlap_95 (by decide) ?_
                    exact ih20  ((b + 1)) (0) (by omega) (by omega) (by rw [ovI]; split <;> first | rfl | (exfalso; omega)) (by omega) _ _ hH hS ls (lv_sub hl [0, 2, 1, 3, 4, 5] rfl)
                  · skip
                    refine lv_aload_n S.1 S.2.1 dX6_overlap_56 rfl (lv_at hl 3 rfl) ?_
                    refine lv_iload S.1 S.2.1 dX6_overlap_57 (lv_at hl 1 rfl) ?_
                    refine zc_Vi (n := 1) (As := [.int (iI ((a : Nat) : Int))]) (rest := []) S hAM hA (kX6_enters l X h Q s rd kp km tx ln sp rs wi gi a hs (by omega)) rfl gX6_overlap_X6_enters  (by decide +kernel) ⟨Nat.le_of_ble_eq_true rfl, Nat.le_of_ble_eq_true rfl⟩ hH hS [0, 1, 2, 3, 4, 5, 6] rfl 7 rfl (List.Perm.refl _) 6 0 rfl rfl rfl hl.1 rfl (Nat.le_of_ble_eq_true rfl) dX6_overlap_59 ⟨Nat.le_of_ble_eq_true rfl, Nat.le_of_ble_eq_true rfl⟩ (fun z8 _ H locs hp9 hH hS => ?_)
                    have hH : Hold X A [mO h Q km ln sp rs, aW X (Q 0) 125 s, aW X (Q 1) 125 rd, aW X (Q 2) 625 kp, aW X (Q 3) 400 tx, aW X (Q 4) 8 wi, aW X (Q 5) 8 gi].flatten H := hH
                    obtain rfl := hp9
                    refine lv_aload_n S.1 S.2.1 dX6_overlap_62 rfl (lv_at hl 3 rfl) ?_
                    refine lv_iload S.1 S.2.1 dX6_overlap_63 (lv_at hl 0 rfl) ?_
                    refine zc_Vi (n := 1) (As := [.int (iI ((b : Nat) : Int))]) (rest := [.int (iI (eT s a))]) S hAM hA (kX6_exits l X h Q s rd kp km tx ln sp rs wi gi b hs (by omega)) rfl gX6_overlap_X6_exits  (by decide +kernel) ⟨Nat.le_of_ble_eq_true rfl, Nat.le_of_ble_eq_true rfl⟩ hH hS [0, 1, 2, 3, 4, 5, 6] rfl 7 rfl (List.Perm.refl _) 6 0 rfl rfl rfl hl.1 rfl (Nat.le_of_ble_eq_true rfl) dX6_overlap_65 ⟨Nat.le_of_ble_eq_true rfl, Nat.le_of_ble_eq_true rfl⟩ (fun z11 _ H locs hp12 hH hS => ?_)
                    have hH : Hold X A [mO h Q km ln sp rs, aW X (Q 0) 125 s, aW X (Q 1) 125 rd, aW X (Q 2) 625 kp, aW X (Q 3) 400 tx, aW X (Q 4) 8 wi, aW X (Q 5) 8 gi].flatten H := hH
                    obtain rfl := hp12
                    refine zv_icmp_ge (tgt := 90) S dX6_overlap_68 (by decide) (hs.eTR _ (by omega)) (hs.xTR _ (by omega)) (fun c_68 => ?_) (fun c_68 => ?_)
                    · skip
                      refine lv_iconst (v := iI (((0 : Nat) : Int))) S.1 S.2.1 dX6_overlap_90 (by decide) ?_
                      refine lv_istore_n (lv' := [(3, .int (iI ((0 : Nat) : Int))), (5, .int (iI ((b : Nat) : Int))), (4, .int (iI ((a : Nat) : Int))), (0, .ref (h)), (1, .int (iI ((p : Nat) : Int))), (2, .int (iI ((q : Nat) : Int)))]) S.1 S.2.1 dX6_overlap_91 rfl hl (by decide) rfl (fun ls hl => ?_)
                      refine zv_iinc (z := (((b + 1) : Nat) : Int)) (lv' := [(5, .int (iI (((b + 1) : Nat) : Int))), (3, .int (iI ((0 : Nat) : Int))), (4, .int (iI ((a : Nat) : Int))), (0, .ref (h)), (1, .int (iI ((p : Nat) : Int))), (2, .int (iI ((q : Nat) : Int)))]) S dX6_overlap_92 hl (k := 1) rfl (by omega) (by decide) rfl (fun ls hl => ?_)
                      refine lv_goto (tgt := 20) S.1 S.2.1 dX6_overlap_95 (by decide) ?_
                      exact ih20  ((b + 1)) (0) (by omega) (by omega) (by rw [ovI]; split <;> first | rfl | (exfalso; omega)) (by omega) _ _ hH hS ls (lv_sub hl [0, 2, 1, 3, 4, 5] rfl)
                    · skip
                      refine lv_aload_n S.1 S.2.1 dX6_overlap_71 rfl (lv_at hl 3 rfl) ?_
                      refine lv_iload S.1 S.2.1 dX6_overlap_72 (lv_at hl 0 rfl) ?_
                      refine zc_Vi (n := 1) (As := [.int (iI ((b : Nat) : Int))]) (rest := []) S hAM hA (kX6_enters l X h Q s rd kp km tx ln sp rs wi gi b hs (by omega)) rfl gX6_overlap_X6_enters  (by decide +kernel) ⟨Nat.le_of_ble_eq_true rfl, Nat.le_of_ble_eq_true rfl⟩ hH hS [0, 1, 2, 3, 4, 5, 6] rfl 7 rfl (List.Perm.refl _) 6 0 rfl rfl rfl hl.1 rfl (Nat.le_of_ble_eq_true rfl) dX6_overlap_74 ⟨Nat.le_of_ble_eq_true rfl, Nat.le_of_ble_eq_true rfl⟩ (fun z14 _ H locs hp15 hH hS => ?_)
                      have hH : Hold X A [mO h Q km ln sp rs, aW X (Q 0) 125 s, aW X (Q 1) 125 rd, aW X (Q 2) 625 kp, aW X (Q 3) 400 tx, aW X (Q 4) 8 wi, aW X (Q 5) 8 gi].flatten H := hH
                      obtain rfl := hp15
                      refine lv_aload_n S.1 S.2.1 dX6_overlap_77 rfl (lv_at hl 3 rfl) ?_
                      refine lv_iload S.1 S.2.1 dX6_overlap_78 (lv_at hl 1 rfl) ?_
                      refine zc_Vi (n := 1) (As := [.int (iI ((a : Nat) : Int))]) (rest := [.int (iI (eT s b))]) S hAM hA (kX6_exits l X h Q s rd kp km tx ln sp rs wi gi a hs (by omega)) rfl gX6_overlap_X6_exits  (by decide +kernel) ⟨Nat.le_of_ble_eq_true rfl, Nat.le_of_ble_eq_true rfl⟩ hH hS [0, 1, 2, 3, 4, 5, 6] rfl 7 rfl (List.Perm.refl _) 6 0 rfl rfl rfl hl.1 rfl (Nat.le_of_ble_eq_true rfl) dX6_overlap_80 ⟨Nat.le_of_ble_eq_true rfl, Nat.le_of_ble_eq_true rfl⟩ (fun z17 _ H locs hp18 hH hS => ?_)
                      have hH : Hold X A [mO h Q km ln sp rs, aW X (Q 0) 125 s, aW X (Q 1) 125 rd, aW X (Q 2) 625 kp, aW X (Q 3) 400 tx, aW X (Q 4) 8 wi, aW X (Q 5) 8 gi].flatten H := hH
                      obtain rfl := hp18
                      refine zv_icmp_ge (tgt := 90) S dX6_overlap_83 (by decide) (hs.eTR _ (by omega)) (hs.xTR _ (by omega)) (fun c_83 => ?_) (fun c_83 => ?_)
                      · skip
                        refine lv_iconst (v := iI (((0 : Nat) : Int))) S.1 S.2.1 dX6_overlap_90 (by decide) ?_
                        refine lv_istore_n (lv' := [(3, .int (iI ((0 : Nat) : Int))), (5, .int (iI ((b : Nat) : Int))), (4, .int (iI ((a : Nat) : Int))), (0, .ref (h)), (1, .int (iI ((p : Nat) : Int))), (2, .int (iI ((q : Nat) : Int)))]) S.1 S.2.1 dX6_overlap_91 rfl hl (by decide) rfl (fun ls hl => ?_)
                        refine zv_iinc (z := (((b + 1) : Nat) : Int)) (lv' := [(5, .int (iI (((b + 1) : Nat) : Int))), (3, .int (iI ((0 : Nat) : Int))), (4, .int (iI ((a : Nat) : Int))), (0, .ref (h)), (1, .int (iI ((p : Nat) : Int))), (2, .int (iI ((q : Nat) : Int)))]) S dX6_overlap_92 hl (k := 1) rfl (by omega) (by decide) rfl (fun ls hl => ?_)
                        refine lv_goto (tgt := 20) S.1 S.2.1 dX6_overlap_95 (by decide) ?_
                        exact ih20  ((b + 1)) (0) (by omega) (by omega) (by rw [ovI]; split <;> first | rfl | (exfalso; omega)) (by omega) _ _ hH hS ls (lv_sub hl [0, 2, 1, 3, 4, 5] rfl)
                      · skip
                        refine lv_iconst (v := iI (((1 : Nat) : Int))) S.1 S.2.1 dX6_overlap_86 (by decide) ?_
                        refine lv_goto (tgt := 91) S.1 S.2.1 dX6_overlap_87 (by decide) ?_
                        refine lv_istore_n (lv' := [(3, .int (iI ((1 : Nat) : Int))), (5, .int (iI ((b : Nat) : Int))), (4, .int (iI ((a : Nat) : Int))), (0, .ref (h)), (1, .int (iI ((p : Nat) : Int))), (2, .int (iI ((q : Nat) : Int)))]) S.1 S.2.1 dX6_overlap_91 rfl hl (by decide) rfl (fun ls hl => ?_)
                        refine zv_iinc (z := (((b + 1) : Nat) : Int)) (lv' := [(5, .int (iI (((b + 1) : Nat) : Int))), (3, .int (iI ((1 : Nat) : Int))), (4, .int (iI ((a : Nat) : Int))), (0, .ref (h)), (1, .int (iI ((p : Nat) : Int))), (2, .int (iI ((q : Nat) : Int)))]) S dX6_overlap_92 hl (k := 1) rfl (by omega) (by decide) rfl (fun ls hl => ?_)
                        refine lv_goto (tgt := 20) S.1 S.2.1 dX6_overlap_95 (by decide) ?_
                        exact ih20  ((b + 1)) (1) (by omega) (by omega) (by rw [ovI]; split <;> first | rfl | (exfalso; omega)) (by omega) _ _ hH hS ls (lv_sub hl [0, 2, 1, 3, 4, 5] rfl)
        exact lp20 (na s - (0) + 1) (0) (is) (Nat.lt_succ_self _) (Nat.zero_le _) (by rw [hset]; rfl) (by omega) _ _ hH hS ls (lv_sub hl [0, 1, 2, 3, 4, 5] rfl)
  exact lp5 (na s - (0) + 1) (0) (0) (Nat.lt_succ_self _) (Nat.zero_le _) rfl (by omega) _ _ hH hS ls (lv_sub hl [0, 1, 2, 3, 4] rfl)

theorem mX6_roomOf_1 : Cond.constant RX6 155 (100000) ∈ wsX6_roomOf := List.mem_of_getElem? (i := 1) rfl
theorem mX6_roomOf_2 : Cond.fieldLink RX6 7 "RoleDoublingPlannerModel" "s" "[I" ∈ wsX6_roomOf := List.mem_of_getElem? (i := 2) rfl
theorem nX6_roomOf_X6 : ∀ w ∈ wsX60, w ∈ wsX6_roomOf := fun _ h => List.mem_cons_of_mem _ (List.mem_append_right _ h)
set_option maxHeartbeats 4000000 in
set_option maxRecDepth 100000 in
theorem kX6_roomOf (l : Launch) (X : XT) (h : Nat) (Q : Nat → Nat) (s : Nat → Int) (rd : Nat → Int) (kp : Nat → Int) (km : Int) (tx : Nat → Int) (ln : Int) (sp : Int) (rs : Int) (wi : Nat → Int) (gi : Nat → Int) (p : Nat) (q : Nat) (f : Int) (hs : okR s) (hp : p < 8) (hq : q < 8) (hf : 0 ≤ f ∧ f ≤ 120) : Ci l yX6_roomOf wsX6_roomOf (rmD 3) X [.ref h, .int (iI ((p : Nat) : Int)), .int (iI ((q : Nat) : Int)), .int (iI (f))] [mO h Q km ln sp rs, aW X (Q 0) 125 s, aW X (Q 1) 125 rd, aW X (Q 2) 625 kp, aW X (Q 3) 400 tx, aW X (Q 4) 8 wi, aW X (Q 5) 8 gi] (fun (z : Int) (_ : Unit) => z = rm s p q f) (fun (_ : Unit) => [mO h Q km ln sp rs, aW X (Q 0) 125 s, aW X (Q 1) 125 rd, aW X (Q 2) 625 kp, aW X (Q 3) 400 tx, aW X (Q 4) 8 wi, aW X (Q 5) 8 gi]) := by
  refine Ci.ofW (cc := cX6_roomOf) (maxL := 9) (by decide) rfl (Nat.le_of_ble_eq_true rfl) ?_
  intro p_ e_ s_ m_ below meth c_ A Q_ S hA hAM hH hS hret ls hl
  have hl : lv_has ls 9 [(0, .ref (h)), (1, .int (iI ((p : Nat) : Int))), (2, .int (iI ((q : Nat) : Int))), (3, .int (iI (f)))] := hl
  have hk1 := hs.nr8
  have hk2 := hs.na20
  have hk3 := hs.ns10
  refine lv_ldc (v := iI (((100000 : Nat) : Int))) S.1 S.2.1 S.2.2.2.1 (zv_const S mX6_roomOf_1 (by decide)) dX6_roomOf_0 ?_
  refine lv_istore (lv' := [(4, .int (iI ((100000 : Nat) : Int))), (0, .ref (h)), (1, .int (iI ((p : Nat) : Int))), (2, .int (iI ((q : Nat) : Int))), (3, .int (iI (f)))]) S.1 S.2.1 dX6_roomOf_2 hl (by decide) rfl (fun ls hl => ?_)
  refine lv_iconst (v := iI (((0 : Nat) : Int))) S.1 S.2.1 dX6_roomOf_4 (by decide) ?_
  refine lv_istore (lv' := [(5, .int (iI ((0 : Nat) : Int))), (4, .int (iI ((100000 : Nat) : Int))), (0, .ref (h)), (1, .int (iI ((p : Nat) : Int))), (2, .int (iI ((q : Nat) : Int))), (3, .int (iI (f)))]) S.1 S.2.1 dX6_roomOf_5 hl (by decide) rfl (fun ls hl => ?_)
  have lp7 : ∀ (n : Nat) (a : Nat) (y : Int), na s - a < n → (a ≤ na s) → (y = roO s p q f a) → (-2000 ≤ y ∧ y ≤ 100000) → ∀ (H : Heap) (locs : List Loc), Hold X A [mO h Q km ln sp rs, aW X (Q 0) 125 s, aW X (Q 1) 125 rd, aW X (Q 2) 625 kp, aW X (Q 3) 400 tx, aW X (Q 4) 8 wi, aW X (Q 5) 8 gi].flatten H → va_S A s_.heap H locs → ∀ ls : Array Slot, lv_has ls 9 [(5, .int (iI ((a : Nat) : Int))), (4, .int (iI (y))), (0, .ref (h)), (1, .int (iI ((p : Nat) : Int))), (2, .int (iI ((q : Nat) : Int))), (3, .int (iI (f)))] → W p_ l e_ (rmD 3) s_ m_ (List.toArray [.ref (h), .int (iI ((p : Nat) : Int)), .int (iI ((q : Nat) : Int)), .int (iI (f))]) below meth c_ H locs 0 0 Q_ (F0 m_ 7 ls []) := by
    intro n
    induction n with
    | zero => intro a y hmu hi hset h1 H locs hH hS ls hl; exact absurd hmu (Nat.not_lt_zero _)
    | succ n ih7 => 
      intro a y hmu hi hset h1 H locs hH hS ls hl
      refine lv_iload S.1 S.2.1 dX6_roomOf_7 (lv_at hl 0 rfl) ?_
      refine lv_aload_n S.1 S.2.1 dX6_roomOf_9 rfl (lv_at hl 2 rfl) ?_
      refine zv_get (v := .ref (Q 0)) S hAM hH nX6_roomOf_X6 0 rfl rfl 0 (by decide) mX6_roomOf_2 rfl rfl dX6_roomOf_10 ?_
      refine lv_bipush (v := iI (((44 : Nat) : Int))) S.1 S.2.1 dX6_roomOf_13 (by decide) ?_
      refine zv_iald S hAM hH 1 rfl (44) rfl (by decide) (by decide) dX6_roomOf_15 ?_
      refine zv_top (z := s 44) (z2 := ((na s : Nat) : Int)) hs.e44 ?_
      refine zv_icmp_ge (tgt := 114) S dX6_roomOf_16 (by decide) (by omega) (by omega) (fun c_16 => ?_) (fun c_16 => ?_)
      · skip
        refine lv_iload S.1 S.2.1 dX6_roomOf_114 (lv_at hl 1 rfl) ?_
        exact hret 116 ls _ _ (y) () dX6_roomOf_116 rfl (by have e9 : a = na s := (by omega); rw [hset, e9]; rfl) hH hS
      · skip
        refine lv_iconst (v := iI (((0 : Nat) : Int))) S.1 S.2.1 dX6_roomOf_19 (by decide) ?_
        refine lv_istore (lv' := [(6, .int (iI ((0 : Nat) : Int))), (5, .int (iI ((a : Nat) : Int))), (4, .int (iI (y))), (0, .ref (h)), (1, .int (iI ((p : Nat) : Int))), (2, .int (iI ((q : Nat) : Int))), (3, .int (iI (f)))]) S.1 S.2.1 dX6_roomOf_20 hl (by decide) rfl (fun ls hl => ?_)
        have lp22 : ∀ (n : Nat) (b : Nat) (x : Int), na s - b < n → (b ≤ na s) → (x = roI s p q f a b (roO s p q f a)) → (-2000 ≤ x ∧ x ≤ 100000) → ∀ (H : Heap) (locs : List Loc), Hold X A [mO h Q km ln sp rs, aW X (Q 0) 125 s, aW X (Q 1) 125 rd, aW X (Q 2) 625 kp, aW X (Q 3) 400 tx, aW X (Q 4) 8 wi, aW X (Q 5) 8 gi].flatten H → va_S A s_.heap H locs → ∀ ls : Array Slot, lv_has ls 9 [(6, .int (iI ((b : Nat) : Int))), (5, .int (iI ((a : Nat) : Int))), (4, .int (iI (x))), (0, .ref (h)), (1, .int (iI ((p : Nat) : Int))), (2, .int (iI ((q : Nat) : Int))), (3, .int (iI (f)))] → W p_ l e_ (rmD 3) s_ m_ (List.toArray [.ref (h), .int (iI ((p : Nat) : Int)), .int (iI ((q : Nat) : Int)), .int (iI (f))]) below meth c_ H locs 0 0 Q_ (F0 m_ 22 ls []) := by
          intro n
          induction n with
          | zero => intro b x hmu hj hset2 h2 H locs hH hS ls hl; exact absurd hmu (Nat.not_lt_zero _)
          | succ n ih22 => 
            intro b x hmu hj hset2 h2 H locs hH hS ls hl
            refine lv_iload S.1 S.2.1 dX6_roomOf_22 (lv_at hl 0 rfl) ?_
            refine lv_aload_n S.1 S.2.1 dX6_roomOf_24 rfl (lv_at hl 3 rfl) ?_
            refine zv_get (v := .ref (Q 0)) S hAM hH nX6_roomOf_X6 0 rfl rfl 0 (by decide) mX6_roomOf_2 rfl rfl dX6_roomOf_25 ?_
            refine lv_bipush (v := iI (((44 : Nat) : Int))) S.1 S.2.1 dX6_roomOf_28 (by decide) ?_
            refine zv_iald S hAM hH 1 rfl (44) rfl (by decide) (by decide) dX6_roomOf_30 ?_
            refine zv_top (z := s 44) (z2 := ((na s : Nat) : Int)) hs.e44 ?_
            refine zv_icmp_ge (tgt := 108) S dX6_roomOf_31 (by decide) (by omega) (by omega) (fun c_31 => ?_) (fun c_31 => ?_)
            · skip
              refine zv_iinc (z := (((a + 1) : Nat) : Int)) (lv' := [(5, .int (iI (((a + 1) : Nat) : Int))), (6, .int (iI ((b : Nat) : Int))), (4, .int (iI (x))), (0, .ref (h)), (1, .int (iI ((p : Nat) : Int))), (2, .int (iI ((q : Nat) : Int))), (3, .int (iI (f)))]) S dX6_roomOf_108 hl (k := 1) rfl (by omega) (by decide) rfl (fun ls hl => ?_)
              refine lv_goto (tgt := 7) S.1 S.2.1 dX6_roomOf_111 (by decide) ?_
              exact ih7  ((a + 1)) (x) (by omega) (by omega) (by have e9 : b = na s := (by omega); rw [hset2, e9]; rfl) (by omega) _ _ hH hS ls (lv_sub hl [0, 2, 3, 4, 5, 6] rfl)
            · skip
              have hE1 := hs.eTB b (by omega)
              have hX1 := hs.xTB a (by omega)
              have hC1 := hs.chB p q f hp hq (by omega)
              refine lv_aload_n S.1 S.2.1 dX6_roomOf_34 rfl (lv_at hl 3 rfl) ?_
              refine lv_iload S.1 S.2.1 dX6_roomOf_35 (lv_at hl 0 rfl) ?_
              refine zc_Vi (n := 1) (As := [.int (iI ((b : Nat) : Int))]) (rest := []) S hAM hA (kX6_enters l X h Q s rd kp km tx ln sp rs wi gi b hs (by omega)) rfl gX6_roomOf_X6_enters  (by decide +kernel) ⟨Nat.le_of_ble_eq_true rfl, Nat.le_of_ble_eq_true rfl⟩ hH hS [0, 1, 2, 3, 4, 5, 6] rfl 7 rfl (List.Perm.refl _) 6 0 rfl rfl rfl hl.1 rfl (Nat.le_of_ble_eq_true rfl) dX6_roomOf_37 ⟨Nat.le_of_ble_eq_true rfl, Nat.le_of_ble_eq_true rfl⟩ (fun z2 _ H locs hp3 hH hS => ?_)
              have hH : Hold X A [mO h Q km ln sp rs, aW X (Q 0) 125 s, aW X (Q 1) 125 rd, aW X (Q 2) 625 kp, aW X (Q 3) 400 tx, aW X (Q 4) 8 wi, aW X (Q 5) 8 gi].flatten H := hH
              obtain rfl := hp3
              refine lv_aload_n S.1 S.2.1 dX6_roomOf_40 rfl (lv_at hl 3 rfl) ?_
              refine lv_iload S.1 S.2.1 dX6_roomOf_41 (lv_at hl 1 rfl) ?_
              refine zc_Vi (n := 1) (As := [.int (iI ((a : Nat) : Int))]) (rest := [.int (iI (eT s b))]) S hAM hA (kX6_exits l X h Q s rd kp km tx ln sp rs wi gi a hs (by omega)) rfl gX6_roomOf_X6_exits  (by decide +kernel) ⟨Nat.le_of_ble_eq_true rfl, Nat.le_of_ble_eq_true rfl⟩ hH hS [0, 1, 2, 3, 4, 5, 6] rfl 7 rfl (List.Perm.refl _) 6 0 rfl rfl rfl hl.1 rfl (Nat.le_of_ble_eq_true rfl) dX6_roomOf_43 ⟨Nat.le_of_ble_eq_true rfl, Nat.le_of_ble_eq_true rfl⟩ (fun z5 _ H locs hp6 hH hS => ?_)
              have hH : Hold X A [mO h Q km ln sp rs, aW X (Q 0) 125 s, aW X (Q 1) 125 rd, aW X (Q 2) 625 kp, aW X (Q 3) 400 tx, aW X (Q 4) 8 wi, aW X (Q 5) 8 gi].flatten H := hH
              obtain rfl := hp6
              refine zv_isub (z := (eT s b - xT s a)) S dX6_roomOf_46 rfl ?_
              refine lv_istore (lv' := [(7, .int (iI ((eT s b - xT s a)))), (6, .int (iI ((b : Nat) : Int))), (5, .int (iI ((a : Nat) : Int))), (4, .int (iI (x))), (0, .ref (h)), (1, .int (iI ((p : Nat) : Int))), (2, .int (iI ((q : Nat) : Int))), (3, .int (iI (f)))]) S.1 S.2.1 dX6_roomOf_47 hl (by decide) rfl (fun ls hl => ?_)
              refine lv_aload_n S.1 S.2.1 dX6_roomOf_49 rfl (lv_at hl 4 rfl) ?_
              refine lv_iload S.1 S.2.1 dX6_roomOf_50 (lv_at hl 2 rfl) ?_
              refine zc_Vi (n := 1) (As := [.int (iI ((a : Nat) : Int))]) (rest := []) S hAM hA (kX6_roleOf l X h Q s rd kp km tx ln sp rs wi gi a hs (by omega)) rfl gX6_roomOf_X6_roleOf  (by decide +kernel) ⟨Nat.le_of_ble_eq_true rfl, Nat.le_of_ble_eq_true rfl⟩ hH hS [0, 1, 2, 3, 4, 5, 6] rfl 7 rfl (List.Perm.refl _) 6 0 rfl rfl rfl hl.1 rfl (Nat.le_of_ble_eq_true rfl) dX6_roomOf_52 ⟨Nat.le_of_ble_eq_true rfl, Nat.le_of_ble_eq_true rfl⟩ (fun z8 _ H locs hp9 hH hS => ?_)
              have hH : Hold X A [mO h Q km ln sp rs, aW X (Q 0) 125 s, aW X (Q 1) 125 rd, aW X (Q 2) 625 kp, aW X (Q 3) 400 tx, aW X (Q 4) 8 wi, aW X (Q 5) 8 gi].flatten H := hH
              obtain rfl := hp9
              refine lv_iload_n S.1 S.2.1 dX6_roomOf_55 rfl (lv_at hl 5 rfl) ?_
              refine zv_icmp_ne (tgt := 102) S dX6_roomOf_56 (by decide) (by have := hs.rl8 a (by omega); omega) (by omega) (fun c_56 => ?_) (fun c_56 => ?_)
              · skip
                refine zv_iinc (z := (((b + 1) : Nat) : Int)) (lv' := [(6, .int (iI (((b + 1) : Nat) : Int))), (7, .int (iI ((eT s b - xT s a)))), (5, .int (iI ((a : Nat) : Int))), (4, .int (iI (x))), (0, .ref (h)), (1, .int (iI ((p : Nat) : Int))), (2, .int (iI ((q : Nat) : Int))), (3, .int (iI (f)))]) S dX6_roomOf_102 hl (k := 1) rfl (by omega) (by decide) rfl (fun ls hl => ?_)
                refine lv_goto (tgt := 22) S.1 S.2.1 dX6_roomOf_105 (by decide) ?_
                exact ih22  ((b + 1)) (x) (by omega) (by omega) (by rw [roI]; split <;> first | rfl | (rw [hset2]; done) | (exfalso; omega)) (by omega) _ _ hH hS ls (lv_sub hl [0, 2, 3, 4, 5, 6, 7] rfl)
              · skip
                refine lv_aload_n S.1 S.2.1 dX6_roomOf_59 rfl (lv_at hl 4 rfl) ?_
                refine lv_iload S.1 S.2.1 dX6_roomOf_60 (lv_at hl 1 rfl) ?_
                refine zc_Vi (n := 1) (As := [.int (iI ((b : Nat) : Int))]) (rest := []) S hAM hA (kX6_roleOf l X h Q s rd kp km tx ln sp rs wi gi b hs (by omega)) rfl gX6_roomOf_X6_roleOf  (by decide +kernel) ⟨Nat.le_of_ble_eq_true rfl, Nat.le_of_ble_eq_true rfl⟩ hH hS [0, 1, 2, 3, 4, 5, 6] rfl 7 rfl (List.Perm.refl _) 6 0 rfl rfl rfl hl.1 rfl (Nat.le_of_ble_eq_true rfl) dX6_roomOf_62 ⟨Nat.le_of_ble_eq_true rfl, Nat.le_of_ble_eq_true rfl⟩ (fun z11 _ H locs hp12 hH hS => ?_)
                have hH : Hold X A [mO h Q km ln sp rs, aW X (Q 0) 125 s, aW X (Q 1) 125 rd, aW X (Q 2) 625 kp, aW X (Q 3) 400 tx, aW X (Q 4) 8 wi, aW X (Q 5) 8 gi].flatten H := hH
                obtain rfl := hp12
                refine lv_iload_n S.1 S.2.1 dX6_roomOf_65 rfl (lv_at hl 6 rfl) ?_
                refine zv_icmp_ne (tgt := 102) S dX6_roomOf_66 (by decide) (by have := hs.rl8 b (by omega); omega) (by omega) (fun c_66 => ?_) (fun c_66 => ?_)
                · skip
                  refine zv_iinc (z := (((b + 1) : Nat) : Int)) (lv' := [(6, .int (iI (((b + 1) : Nat) : Int))), (7, .int (iI ((eT s b - xT s a)))), (5, .int (iI ((a : Nat) : Int))), (4, .int (iI (x))), (0, .ref (h)), (1, .int (iI ((p : Nat) : Int))), (2, .int (iI ((q : Nat) : Int))), (3, .int (iI (f)))]) S dX6_roomOf_102 hl (k := 1) rfl (by omega) (by decide) rfl (fun ls hl => ?_)
                  refine lv_goto (tgt := 22) S.1 S.2.1 dX6_roomOf_105 (by decide) ?_
                  exact ih22  ((b + 1)) (x) (by omega) (by omega) (by rw [roI]; split <;> first | rfl | (rw [hset2]; done) | (exfalso; omega)) (by omega) _ _ hH hS ls (lv_sub hl [0, 2, 3, 4, 5, 6, 7] rfl)
                · skip
                  refine lv_iload S.1 S.2.1 dX6_roomOf_69 (lv_at hl 0 rfl) ?_
                  refine zv_if_lt (tgt := 102) S dX6_roomOf_71 (by decide) (by omega) (fun c_71 => ?_) (fun c_71 => ?_)
                  · skip
                    refine zv_iinc (z := (((b + 1) : Nat) : Int)) (lv' := [(6, .int (iI (((b + 1) : Nat) : Int))), (7, .int (iI ((eT s b - xT s a)))), (5, .int (iI ((a : Nat) : Int))), (4, .int (iI (x))), (0, .ref (h)), (1, .int (iI ((p : Nat) : Int))), (2, .int (iI ((q : Nat) : Int))), (3, .int (iI (f)))]) S dX6_roomOf_102 hl (k := 1) rfl (by omega) (by decide) rfl (fun ls hl => ?_)
                    refine lv_goto (tgt := 22) S.1 S.2.1 dX6_roomOf_105 (by decide) ?_
                    exact ih22  ((b + 1)) (x) (by omega) (by omega) (by rw [roI]; split <;> first | rfl | (rw [hset2]; done) | (exfalso; omega)) (by omega) _ _ hH hS ls (lv_sub hl [0, 2, 3, 4, 5, 6, 7] rfl)
                  · skip
                    refine lv_iload S.1 S.2.1 dX6_roomOf_74 (lv_at hl 0 rfl) ?_
                    refine lv_aload_n S.1 S.2.1 dX6_roomOf_76 rfl (lv_at hl 4 rfl) ?_
                    refine lv_iload_n S.1 S.2.1 dX6_roomOf_77 rfl (lv_at hl 5 rfl) ?_
                    refine lv_iload_n S.1 S.2.1 dX6_roomOf_78 rfl (lv_at hl 6 rfl) ?_
                    refine lv_iload_n S.1 S.2.1 dX6_roomOf_79 rfl (lv_at hl 7 rfl) ?_
                    refine zc_Vi (n := 3) (As := [.int (iI ((p : Nat) : Int)), .int (iI ((q : Nat) : Int)), .int (iI (f))]) (rest := [.int (iI ((eT s b - xT s a)))]) S hAM hA (kX6_changeTime l X h Q s rd kp km tx ln sp rs wi gi p q f hs (by omega) (by omega) (by omega)) rfl gX6_roomOf_X6_changeTime  (by decide +kernel) ⟨Nat.le_of_ble_eq_true rfl, Nat.le_of_ble_eq_true rfl⟩ hH hS [0, 1, 2, 3, 4, 5, 6] rfl 7 rfl (List.Perm.refl _) 6 0 rfl rfl rfl hl.1 rfl (Nat.le_of_ble_eq_true rfl) dX6_roomOf_80 ⟨Nat.le_of_ble_eq_true rfl, Nat.le_of_ble_eq_true rfl⟩ (fun z14 _ H locs hp15 hH hS => ?_)
                    have hH : Hold X A [mO h Q km ln sp rs, aW X (Q 0) 125 s, aW X (Q 1) 125 rd, aW X (Q 2) 625 kp, aW X (Q 3) 400 tx, aW X (Q 4) 8 wi, aW X (Q 5) 8 gi].flatten H := hH
                    obtain rfl := hp15
                    refine zv_isub (z := ((eT s b - xT s a) - chT s p q f)) S dX6_roomOf_83 rfl ?_
                    refine lv_istore (lv' := [(8, .int (iI (((eT s b - xT s a) - chT s p q f)))), (7, .int (iI ((eT s b - xT s a)))), (6, .int (iI ((b : Nat) : Int))), (5, .int (iI ((a : Nat) : Int))), (4, .int (iI (x))), (0, .ref (h)), (1, .int (iI ((p : Nat) : Int))), (2, .int (iI ((q : Nat) : Int))), (3, .int (iI (f)))]) S.1 S.2.1 dX6_roomOf_84 hl (by decide) rfl (fun ls hl => ?_)
                    refine lv_iload S.1 S.2.1 dX6_roomOf_86 (lv_at hl 0 rfl) ?_
                    refine lv_iload S.1 S.2.1 dX6_roomOf_88 (lv_at hl 4 rfl) ?_
                    refine zv_icmp_ge (tgt := 98) S dX6_roomOf_90 (by decide) (by omega) (by omega) (fun c_90 => ?_) (fun c_90 => ?_)
                    · skip
                      refine lv_iload S.1 S.2.1 dX6_roomOf_98 (lv_at hl 4 rfl) ?_
                      refine lv_istore (lv' := [(4, .int (iI (x))), (8, .int (iI (((eT s b - xT s a) - chT s p q f)))), (7, .int (iI ((eT s b - xT s a)))), (6, .int (iI ((b : Nat) : Int))), (5, .int (iI ((a : Nat) : Int))), (0, .ref (h)), (1, .int (iI ((p : Nat) : Int))), (2, .int (iI ((q : Nat) : Int))), (3, .int (iI (f)))]) S.1 S.2.1 dX6_roomOf_100 hl (by decide) rfl (fun ls hl => ?_)
                      refine zv_iinc (z := (((b + 1) : Nat) : Int)) (lv' := [(6, .int (iI (((b + 1) : Nat) : Int))), (4, .int (iI (x))), (8, .int (iI (((eT s b - xT s a) - chT s p q f)))), (7, .int (iI ((eT s b - xT s a)))), (5, .int (iI ((a : Nat) : Int))), (0, .ref (h)), (1, .int (iI ((p : Nat) : Int))), (2, .int (iI ((q : Nat) : Int))), (3, .int (iI (f)))]) S dX6_roomOf_102 hl (k := 3) rfl (by omega) (by decide) rfl (fun ls hl => ?_)
                      refine lv_goto (tgt := 22) S.1 S.2.1 dX6_roomOf_105 (by decide) ?_
                      exact ih22  ((b + 1)) (x) (by omega) (by omega) (by rw [roI]; split <;> first | rfl | (rw [hset2]; done) | (exfalso; omega)) (by omega) _ _ hH hS ls (lv_sub hl [0, 4, 1, 5, 6, 7, 8] rfl)
                    · skip
                      refine lv_iload S.1 S.2.1 dX6_roomOf_93 (lv_at hl 0 rfl) ?_
                      refine lv_goto (tgt := 100) S.1 S.2.1 dX6_roomOf_95 (by decide) ?_
                      refine lv_istore (lv' := [(4, .int (iI (((eT s b - xT s a) - chT s p q f)))), (8, .int (iI (((eT s b - xT s a) - chT s p q f)))), (7, .int (iI ((eT s b - xT s a)))), (6, .int (iI ((b : Nat) : Int))), (5, .int (iI ((a : Nat) : Int))), (0, .ref (h)), (1, .int (iI ((p : Nat) : Int))), (2, .int (iI ((q : Nat) : Int))), (3, .int (iI (f)))]) S.1 S.2.1 dX6_roomOf_100 hl (by decide) rfl (fun ls hl => ?_)
                      refine zv_iinc (z := (((b + 1) : Nat) : Int)) (lv' := [(6, .int (iI (((b + 1) : Nat) : Int))), (4, .int (iI (((eT s b - xT s a) - chT s p q f)))), (8, .int (iI (((eT s b - xT s a) - chT s p q f)))), (7, .int (iI ((eT s b - xT s a)))), (5, .int (iI ((a : Nat) : Int))), (0, .ref (h)), (1, .int (iI ((p : Nat) : Int))), (2, .int (iI ((q : Nat) : Int))), (3, .int (iI (f)))]) S dX6_roomOf_102 hl (k := 3) rfl (by omega) (by decide) rfl (fun ls hl => ?_)
                      refine lv_goto (tgt := 22) S.1 S.2.1 dX6_roomOf_105 (by decide) ?_
                      exact ih22  ((b + 1)) (((eT s b - xT s a) - chT s p q f)) (by omega) (by omega) (by rw [roI]; split <;> first | rfl | (rw [hset2]; done) | (exfalso; omega)) (by omega) _ _ hH hS ls (lv_sub hl [0, 4, 1, 5, 6, 7, 8] rfl)
        exact lp22 (na s - (0) + 1) (0) (y) (Nat.lt_succ_self _) (Nat.zero_le _) (by rw [hset]; rfl) (by omega) _ _ hH hS ls (lv_sub hl [0, 1, 2, 3, 4, 5, 6] rfl)
  exact lp7 (na s - (0) + 1) (0) (((100000 : Nat) : Int)) (Nat.lt_succ_self _) (Nat.zero_le _) rfl (by omega) _ _ hH hS ls (lv_sub hl [0, 1, 2, 3, 4, 5] rfl)

theorem mX6_reasonOf_1 : Cond.fieldLink RX6 7 "RoleDoublingPlannerModel" "s" "[I" ∈ wsX6_reasonOf := List.mem_of_getElem? (i := 1) rfl
theorem nX6_reasonOf_X6 : ∀ w ∈ wsX60, w ∈ wsX6_reasonOf := fun _ h => List.mem_cons_of_mem _ (List.mem_append_right _ h)
set_option maxHeartbeats 4000000 in
set_option maxRecDepth 100000 in
theorem kX6_reasonOf (l : Launch) (X : XT) (h : Nat) (Q : Nat → Nat) (s : Nat → Int) (rd : Nat → Int) (kp : Nat → Int) (km : Int) (tx : Nat → Int) (ln : Int) (sp : Int) (rs : Int) (wi : Nat → Int) (gi : Nat → Int) (p : Nat) (q : Nat) (f : Int) (hs : okR s) (hp : p < 8) (hq : q < 8) (hf : 0 ≤ f ∧ f ≤ 120) : Ci l yX6_reasonOf wsX6_reasonOf (rmD 4) X [.ref h, .int (iI ((p : Nat) : Int)), .int (iI ((q : Nat) : Int)), .int (iI (f))] [mO h Q km ln sp rs, aW X (Q 0) 125 s, aW X (Q 1) 125 rd, aW X (Q 2) 625 kp, aW X (Q 3) 400 tx, aW X (Q 4) 8 wi, aW X (Q 5) 8 gi] (fun (z : Int) (_ : Unit) => z = ((rsn s p q f : Nat) : Int)) (fun (_ : Unit) => [mO h Q km ln sp rs, aW X (Q 0) 125 s, aW X (Q 1) 125 rd, aW X (Q 2) 625 kp, aW X (Q 3) 400 tx, aW X (Q 4) 8 wi, aW X (Q 5) 8 gi]) := by
  refine Ci.ofW (cc := cX6_reasonOf) (maxL := 4) (by decide) rfl (Nat.le_of_ble_eq_true rfl) ?_
  intro p_ e_ s_ m_ below meth c_ A Q_ S hA hAM hH hS hret ls hl
  have hl : lv_has ls 4 [(0, .ref (h)), (1, .int (iI ((p : Nat) : Int))), (2, .int (iI ((q : Nat) : Int))), (3, .int (iI (f)))] := hl
  have hk1 := hs.nr8
  have hk2 := hs.na20
  have hk3 := hs.ns10
  refine lv_aload_n S.1 S.2.1 dX6_reasonOf_0 rfl (lv_at hl 0 rfl) ?_
  refine zv_get (v := .ref (Q 0)) S hAM hH nX6_reasonOf_X6 0 rfl rfl 0 (by decide) mX6_reasonOf_1 rfl rfl dX6_reasonOf_1 ?_
  refine lv_bipush (v := iI (((12 : Nat) : Int))) S.1 S.2.1 dX6_reasonOf_4 (by decide) ?_
  refine lv_iload_n S.1 S.2.1 dX6_reasonOf_6 rfl (lv_at hl 1 rfl) ?_
  refine zv_iadd (z := (((12 + p) : Nat) : Int)) S dX6_reasonOf_7 (by omega) ?_
  refine zv_iald S hAM hH 1 rfl ((12 + p)) rfl (by omega) (by decide) dX6_reasonOf_8 ?_
  refine lv_aload_n S.1 S.2.1 dX6_reasonOf_9 rfl (lv_at hl 0 rfl) ?_
  refine zv_get (v := .ref (Q 0)) S hAM hH nX6_reasonOf_X6 0 rfl rfl 0 (by decide) mX6_reasonOf_1 rfl rfl dX6_reasonOf_10 ?_
  refine lv_bipush (v := iI (((12 : Nat) : Int))) S.1 S.2.1 dX6_reasonOf_13 (by decide) ?_
  refine lv_iload_n S.1 S.2.1 dX6_reasonOf_15 rfl (lv_at hl 2 rfl) ?_
  refine zv_iadd (z := (((12 + q) : Nat) : Int)) S dX6_reasonOf_16 (by omega) ?_
  refine zv_iald S hAM hH 1 rfl ((12 + q)) rfl (by omega) (by decide) dX6_reasonOf_17 ?_
  refine zv_icmp_eq (tgt := 23) S dX6_reasonOf_18 (by decide) (hs.inRk _ (by omega)) (hs.inRk _ (by omega)) (fun c_18 => ?_) (fun c_18 => ?_)
  · skip
    refine lv_aload_n S.1 S.2.1 dX6_reasonOf_23 rfl (lv_at hl 0 rfl) ?_
    refine lv_iload_n S.1 S.2.1 dX6_reasonOf_24 rfl (lv_at hl 1 rfl) ?_
    refine lv_iload_n S.1 S.2.1 dX6_reasonOf_25 rfl (lv_at hl 2 rfl) ?_
    refine zc_Vi (n := 2) (As := [.int (iI ((p : Nat) : Int)), .int (iI ((q : Nat) : Int))]) (rest := []) S hAM hA (kX6_overlap l X h Q s rd kp km tx ln sp rs wi gi p q hs (by omega) (by omega)) rfl gX6_reasonOf_X6_overlap  (by decide +kernel) ⟨Nat.le_of_ble_eq_true rfl, Nat.le_of_ble_eq_true rfl⟩ hH hS [0, 1, 2, 3, 4, 5, 6] rfl 7 rfl (List.Perm.refl _) 6 0 rfl rfl rfl hl.1 rfl (Nat.le_of_ble_eq_true rfl) dX6_reasonOf_26 ⟨Nat.le_of_ble_eq_true rfl, Nat.le_of_ble_eq_true rfl⟩ (fun z2 _ H locs hp3 hH hS => ?_)
    have hH : Hold X A [mO h Q km ln sp rs, aW X (Q 0) 125 s, aW X (Q 1) 125 rd, aW X (Q 2) 625 kp, aW X (Q 3) 400 tx, aW X (Q 4) 8 wi, aW X (Q 5) 8 gi].flatten H := hH
    rcases hp3 with ⟨rfl, b_26⟩ | ⟨rfl, b_26⟩
    · refine zv_top (z := 1) (z2 := ((1 : Nat) : Int)) rfl ?_
      refine zv_if_eq (tgt := 34) S dX6_reasonOf_29 (by decide) (by decide) (fun c_29 => ?_) (fun c_29 => ?_)
      · exact (show False by omega).elim
      · skip
        refine lv_iconst (v := iI (((2 : Nat) : Int))) S.1 S.2.1 dX6_reasonOf_32 (by decide) ?_
        exact hret 33 ls _ _ (((2 : Nat) : Int)) () dX6_reasonOf_33 rfl (by have e8 : rsn s p q f = 2 := (by unfold rsn; (repeat' split) <;> omega); rw [e8]) hH hS
    · refine zv_top (z := 0) (z2 := ((0 : Nat) : Int)) rfl ?_
      refine zv_if_eq (tgt := 34) S dX6_reasonOf_29 (by decide) (by decide) (fun c_29 => ?_) (fun c_29 => ?_)
      · skip
        refine lv_aload_n S.1 S.2.1 dX6_reasonOf_34 rfl (lv_at hl 0 rfl) ?_
        refine lv_iload_n S.1 S.2.1 dX6_reasonOf_35 rfl (lv_at hl 1 rfl) ?_
        refine lv_iload_n S.1 S.2.1 dX6_reasonOf_36 rfl (lv_at hl 2 rfl) ?_
        refine lv_iload_n S.1 S.2.1 dX6_reasonOf_37 rfl (lv_at hl 3 rfl) ?_
        refine zc_Vi (n := 3) (As := [.int (iI ((p : Nat) : Int)), .int (iI ((q : Nat) : Int)), .int (iI (f))]) (rest := []) S hAM hA (kX6_roomOf l X h Q s rd kp km tx ln sp rs wi gi p q f hs (by omega) (by omega) (by omega)) rfl gX6_reasonOf_X6_roomOf  (by decide +kernel) ⟨Nat.le_of_ble_eq_true rfl, Nat.le_of_ble_eq_true rfl⟩ hH hS [0, 1, 2, 3, 4, 5, 6] rfl 7 rfl (List.Perm.refl _) 6 0 rfl rfl rfl hl.1 rfl (Nat.le_of_ble_eq_true rfl) dX6_reasonOf_38 ⟨Nat.le_of_ble_eq_true rfl, Nat.le_of_ble_eq_true rfl⟩ (fun z5 _ H locs hp6 hH hS => ?_)
        have hH : Hold X A [mO h Q km ln sp rs, aW X (Q 0) 125 s, aW X (Q 1) 125 rd, aW X (Q 2) 625 kp, aW X (Q 3) 400 tx, aW X (Q 4) 8 wi, aW X (Q 5) 8 gi].flatten H := hH
        obtain rfl := hp6
        refine zv_if_lt (tgt := 54) S dX6_reasonOf_41 (by decide) (by have := hs.rmB p q f (by omega) (by omega) (by omega); omega) (fun c_41 => ?_) (fun c_41 => ?_)
        · skip
          refine lv_iconst (v := iI (((3 : Nat) : Int))) S.1 S.2.1 dX6_reasonOf_54 (by decide) ?_
          refine lv_goto (tgt := 59) S.1 S.2.1 dX6_reasonOf_55 (by decide) ?_
          exact hret 59 ls _ _ (((3 : Nat) : Int)) () dX6_reasonOf_59 rfl (by have e8 : rsn s p q f = 3 := (by unfold rsn; (repeat' split) <;> omega); rw [e8]) hH hS
        · skip
          refine lv_aload_n S.1 S.2.1 dX6_reasonOf_44 rfl (lv_at hl 0 rfl) ?_
          refine lv_iload_n S.1 S.2.1 dX6_reasonOf_45 rfl (lv_at hl 2 rfl) ?_
          refine lv_iload_n S.1 S.2.1 dX6_reasonOf_46 rfl (lv_at hl 1 rfl) ?_
          refine lv_iload_n S.1 S.2.1 dX6_reasonOf_47 rfl (lv_at hl 3 rfl) ?_
          refine zc_Vi (n := 3) (As := [.int (iI ((q : Nat) : Int)), .int (iI ((p : Nat) : Int)), .int (iI (f))]) (rest := []) S hAM hA (kX6_roomOf l X h Q s rd kp km tx ln sp rs wi gi q p f hs (by omega) (by omega) (by omega)) rfl gX6_reasonOf_X6_roomOf  (by decide +kernel) ⟨Nat.le_of_ble_eq_true rfl, Nat.le_of_ble_eq_true rfl⟩ hH hS [0, 1, 2, 3, 4, 5, 6] rfl 7 rfl (List.Perm.refl _) 6 0 rfl rfl rfl hl.1 rfl (Nat.le_of_ble_eq_true rfl) dX6_reasonOf_48 ⟨Nat.le_of_ble_eq_true rfl, Nat.le_of_ble_eq_true rfl⟩ (fun z8 _ H locs hp9 hH hS => ?_)
          have hH : Hold X A [mO h Q km ln sp rs, aW X (Q 0) 125 s, aW X (Q 1) 125 rd, aW X (Q 2) 625 kp, aW X (Q 3) 400 tx, aW X (Q 4) 8 wi, aW X (Q 5) 8 gi].flatten H := hH
          obtain rfl := hp9
          refine zv_if_ge (tgt := 58) S dX6_reasonOf_51 (by decide) (by have := hs.rmB q p f (by omega) (by omega) (by omega); omega) (fun c_51 => ?_) (fun c_51 => ?_)
          · skip
            refine lv_iconst (v := iI (((0 : Nat) : Int))) S.1 S.2.1 dX6_reasonOf_58 (by decide) ?_
            exact hret 59 ls _ _ (((0 : Nat) : Int)) () dX6_reasonOf_59 rfl (by have e8 : rsn s p q f = 0 := (by unfold rsn; (repeat' split) <;> omega); rw [e8]) hH hS
          · skip
            refine lv_iconst (v := iI (((3 : Nat) : Int))) S.1 S.2.1 dX6_reasonOf_54 (by decide) ?_
            refine lv_goto (tgt := 59) S.1 S.2.1 dX6_reasonOf_55 (by decide) ?_
            exact hret 59 ls _ _ (((3 : Nat) : Int)) () dX6_reasonOf_59 rfl (by have e8 : rsn s p q f = 3 := (by unfold rsn; (repeat' split) <;> omega); rw [e8]) hH hS
      · exact (show False by omega).elim
  · skip
    refine lv_iconst (v := iI (((1 : Nat) : Int))) S.1 S.2.1 dX6_reasonOf_21 (by decide) ?_
    exact hret 22 ls _ _ (((1 : Nat) : Int)) () dX6_reasonOf_22 rfl (by have e8 : rsn s p q f = 1 := (by unfold rsn; (repeat' split) <;> omega); rw [e8]) hH hS

theorem mX6_layConflicts_1 : Cond.fieldLink RX6 7 "RoleDoublingPlannerModel" "s" "[I" ∈ wsX6_layConflicts := List.mem_of_getElem? (i := 1) rfl
theorem nX6_layConflicts_X6 : ∀ w ∈ wsX60, w ∈ wsX6_layConflicts := fun _ h => List.mem_cons_of_mem _ (List.mem_append_right _ h)
theorem mX6_layConflicts_2 : Cond.fieldLink RX6 22 "RoleDoublingPlannerModel" "with" "[I" ∈ wsX6_layConflicts := List.mem_of_getElem? (i := 2) rfl
set_option maxHeartbeats 4000000 in
set_option maxRecDepth 100000 in
theorem kX6_layConflicts (l : Launch) (X : XT) (h : Nat) (Q : Nat → Nat) (s : Nat → Int) (rd : Nat → Int) (kp : Nat → Int) (km : Int) (tx : Nat → Int) (ln : Int) (sp : Int) (rs : Int) (wi : Nat → Int) (gi : Nat → Int) (f : Int) (hs : okR s) (hf : 0 ≤ f ∧ f ≤ 120) : Cv l yX6_layConflicts wsX6_layConflicts (rmD 5) X [.ref h, .int (iI (f))] [mO h Q km ln sp rs, aW X (Q 0) 125 s, aW X (Q 1) 125 rd, aW X (Q 2) 625 kp, aW X (Q 3) 400 tx, aW X (Q 4) 8 wi, aW X (Q 5) 8 gi] (fun (_ : Unit) => True) (fun (_ : Unit) => [mO h Q km ln sp rs, aW X (Q 0) 125 s, aW X (Q 1) 125 rd, aW X (Q 2) 625 kp, aW X (Q 3) 400 tx, aW X (Q 4) 8 (wiF s f wi), aW X (Q 5) 8 gi]) := by
  refine Cv.ofW (cc := cX6_layConflicts) (maxL := 4) (by decide) rfl (Nat.le_of_ble_eq_true rfl) ?_
  intro p_ e_ s_ m_ below meth c_ A Q_ S hA hAM hH hS hmn hret ls hl
  have hl : lv_has ls 4 [(0, .ref (h)), (1, .int (iI (f)))] := hl
  have hk1 := hs.nr8
  have hk2 := hs.na20
  have hk3 := hs.ns10
  refine lv_iconst (v := iI (((0 : Nat) : Int))) S.1 S.2.1 dX6_layConflicts_0 (by decide) ?_
  refine lv_istore_n (lv' := [(2, .int (iI ((0 : Nat) : Int))), (0, .ref (h)), (1, .int (iI (f)))]) S.1 S.2.1 dX6_layConflicts_1 rfl hl (by decide) rfl (fun ls hl => ?_)
  have lp2 : ∀ (n : Nat) (p : Nat) (wv : Nat → Int), nr s - p < n → (p ≤ nr s) → (∀ k, k < 8 → wv k = wiO s f wi p k) → ∀ (H : Heap) (locs : List Loc), Hold X A [mO h Q km ln sp rs, aW X (Q 0) 125 s, aW X (Q 1) 125 rd, aW X (Q 2) 625 kp, aW X (Q 3) 400 tx, aW X (Q 4) 8 wv, aW X (Q 5) 8 gi].flatten H → va_S A s_.heap H locs → ∀ ls : Array Slot, lv_has ls 4 [(2, .int (iI ((p : Nat) : Int))), (0, .ref (h)), (1, .int (iI (f)))] → W p_ l e_ (rmD 5) s_ m_ (List.toArray [.ref (h), .int (iI (f))]) below meth c_ H locs 0 0 Q_ (F0 m_ 2 ls []) := by
    intro n
    induction n with
    | zero => intro p wv hmu hi hw H locs hH hS ls hl; exact absurd hmu (Nat.not_lt_zero _)
    | succ n ih2 => 
      intro p wv hmu hi hw H locs hH hS ls hl
      refine lv_iload_n S.1 S.2.1 dX6_layConflicts_2 rfl (lv_at hl 0 rfl) ?_
      refine lv_aload_n S.1 S.2.1 dX6_layConflicts_3 rfl (lv_at hl 1 rfl) ?_
      refine zv_get (v := .ref (Q 0)) S hAM hH nX6_layConflicts_X6 0 rfl rfl 0 (by decide) mX6_layConflicts_1 rfl rfl dX6_layConflicts_4 ?_
      refine lv_bipush (v := iI (((11 : Nat) : Int))) S.1 S.2.1 dX6_layConflicts_7 (by decide) ?_
      refine zv_iald S hAM hH 1 rfl (11) rfl (by decide) (by decide) dX6_layConflicts_9 ?_
      refine zv_top (z := s 11) (z2 := ((nr s : Nat) : Int)) hs.e11 ?_
      refine zv_icmp_ge (tgt := 76) S dX6_layConflicts_10 (by decide) (by omega) (by omega) (fun c_10 => ?_) (fun c_10 => ?_)
      · skip
        have e9 : p = nr s := (by omega)
        have hH : Hold X A [mO h Q km ln sp rs, aW X (Q 0) 125 s, aW X (Q 1) 125 rd, aW X (Q 2) 625 kp, aW X (Q 3) 400 tx, aW X (Q 4) 8 (wiF s f wi), aW X (Q 5) 8 gi].flatten _ := hH.cong 5 rfl (fun k hk => by rw [hw k hk, e9]; rfl) rfl
        exact hret 76 ls _ _ () dX6_layConflicts_76 trivial hH hS
      · skip
        refine lv_aload_n S.1 S.2.1 dX6_layConflicts_13 rfl (lv_at hl 1 rfl) ?_
        refine zv_get (v := .ref (Q 4)) S hAM hH nX6_layConflicts_X6 0 rfl rfl 8 (by decide) mX6_layConflicts_2 rfl rfl dX6_layConflicts_14 ?_
        refine lv_iload_n S.1 S.2.1 dX6_layConflicts_17 rfl (lv_at hl 0 rfl) ?_
        refine lv_iconst (v := iI (((0 : Nat) : Int))) S.1 S.2.1 dX6_layConflicts_18 (by decide) ?_
        refine zv_iast (z := ((0 : Nat) : Int)) (w2 := [mO h Q km ln sp rs, aW X (Q 0) 125 s, aW X (Q 1) 125 rd, aW X (Q 2) 625 kp, aW X (Q 3) 400 tx, aW X (Q 4) 8 (uI wv p (((0 : Nat) : Int))), aW X (Q 5) 8 gi].flatten) S hAM hH hS 5 rfl (p) rfl (by omega) (by decide) rfl dX6_layConflicts_19 (fun H locs hH hS => ?_)
        refine lv_iconst (v := iI (((0 : Nat) : Int))) S.1 S.2.1 dX6_layConflicts_20 (by decide) ?_
        refine lv_istore_n (lv' := [(3, .int (iI ((0 : Nat) : Int))), (2, .int (iI ((p : Nat) : Int))), (0, .ref (h)), (1, .int (iI (f)))]) S.1 S.2.1 dX6_layConflicts_21 rfl hl (by decide) rfl (fun ls hl => ?_)
        have lp22 : ∀ (n : Nat) (q : Nat) (wu : Nat → Int), nr s - q < n → (q ≤ nr s) → (∀ k, k < 8 → wu k = (if k = p then ((mk s f p q : Nat) : Int) else wiO s f wi p k)) → ∀ (H : Heap) (locs : List Loc), Hold X A [mO h Q km ln sp rs, aW X (Q 0) 125 s, aW X (Q 1) 125 rd, aW X (Q 2) 625 kp, aW X (Q 3) 400 tx, aW X (Q 4) 8 wu, aW X (Q 5) 8 gi].flatten H → va_S A s_.heap H locs → ∀ ls : Array Slot, lv_has ls 4 [(3, .int (iI ((q : Nat) : Int))), (2, .int (iI ((p : Nat) : Int))), (0, .ref (h)), (1, .int (iI (f)))] → W p_ l e_ (rmD 5) s_ m_ (List.toArray [.ref (h), .int (iI (f))]) below meth c_ H locs 0 0 Q_ (F0 m_ 22 ls []) := by
          intro n
          induction n with
          | zero => intro q wu hmu hj hw2 H locs hH hS ls hl; exact absurd hmu (Nat.not_lt_zero _)
          | succ n ih22 => 
            intro q wu hmu hj hw2 H locs hH hS ls hl
            refine lv_iload_n S.1 S.2.1 dX6_layConflicts_22 rfl (lv_at hl 0 rfl) ?_
            refine lv_aload_n S.1 S.2.1 dX6_layConflicts_23 rfl (lv_at hl 2 rfl) ?_
            refine zv_get (v := .ref (Q 0)) S hAM hH nX6_layConflicts_X6 0 rfl rfl 0 (by decide) mX6_layConflicts_1 rfl rfl dX6_layConflicts_24 ?_
            refine lv_bipush (v := iI (((11 : Nat) : Int))) S.1 S.2.1 dX6_layConflicts_27 (by decide) ?_
            refine zv_iald S hAM hH 1 rfl (11) rfl (by decide) (by decide) dX6_layConflicts_29 ?_
            refine zv_top (z := s 11) (z2 := ((nr s : Nat) : Int)) hs.e11 ?_
            refine zv_icmp_ge (tgt := 70) S dX6_layConflicts_30 (by decide) (by omega) (by omega) (fun c_30 => ?_) (fun c_30 => ?_)
            · skip
              refine zv_iinc (z := (((p + 1) : Nat) : Int)) (lv' := [(2, .int (iI (((p + 1) : Nat) : Int))), (3, .int (iI ((q : Nat) : Int))), (0, .ref (h)), (1, .int (iI (f)))]) S dX6_layConflicts_70 hl (k := 1) rfl (by omega) (by decide) rfl (fun ls hl => ?_)
              refine lv_goto (tgt := 2) S.1 S.2.1 dX6_layConflicts_73 (by decide) ?_
              exact ih2  ((p + 1)) (wu) (by omega) (by omega) (fun k hk => by have e9 : q = nr s := (by omega); rw [hw2 k hk, e9]; unfold wiO; by_cases e7 : k = p; (rw [if_pos e7, if_pos (by omega), e7]); (rw [if_neg e7]; by_cases e6 : k < p; (rw [if_pos e6, if_pos (by omega)]); (rw [if_neg e6, if_neg (by omega)]))) _ _ hH hS ls (lv_sub hl [0, 2, 3] rfl)
            · skip
              refine lv_aload_n S.1 S.2.1 dX6_layConflicts_33 rfl (lv_at hl 2 rfl) ?_
              refine zv_get (v := .ref (Q 4)) S hAM hH nX6_layConflicts_X6 0 rfl rfl 8 (by decide) mX6_layConflicts_2 rfl rfl dX6_layConflicts_34 ?_
              refine lv_iload_n S.1 S.2.1 dX6_layConflicts_37 rfl (lv_at hl 1 rfl) ?_
              refine lv_dup2_11 S.1 S.2.1 dX6_layConflicts_38 rfl rfl ?_
              refine zv_iald S hAM hH 5 rfl (p) rfl (by omega) (by decide) dX6_layConflicts_39 ?_
              refine zv_top (z := wu p) (z2 := ((mk s f p q : Nat) : Int)) (by rw [hw2 p (by omega), if_pos rfl]) ?_
              refine lv_iload_n S.1 S.2.1 dX6_layConflicts_40 rfl (lv_at hl 1 rfl) ?_
              refine lv_iload_n S.1 S.2.1 dX6_layConflicts_41 rfl (lv_at hl 0 rfl) ?_
              refine zv_icmp_eq (tgt := 61) S dX6_layConflicts_42 (by decide) (by omega) (by omega) (fun c_42 => ?_) (fun c_42 => ?_)
              · skip
                refine lv_iconst (v := iI (((0 : Nat) : Int))) S.1 S.2.1 dX6_layConflicts_61 (by decide) ?_
                refine zv_ior (z := ((mk s f p q : Nat) : Int)) S dX6_layConflicts_62 (by rw [iI_or, Nat.or_zero]) ?_
                refine zv_iast (z := ((mk s f p q : Nat) : Int)) (w2 := [mO h Q km ln sp rs, aW X (Q 0) 125 s, aW X (Q 1) 125 rd, aW X (Q 2) 625 kp, aW X (Q 3) 400 tx, aW X (Q 4) 8 (uI wu p (((mk s f p q : Nat) : Int))), aW X (Q 5) 8 gi].flatten) S hAM hH hS 5 rfl (p) rfl (by omega) (by decide) rfl dX6_layConflicts_63 (fun H locs hH hS => ?_)
                refine zv_iinc (z := (((q + 1) : Nat) : Int)) (lv' := [(3, .int (iI (((q + 1) : Nat) : Int))), (2, .int (iI ((p : Nat) : Int))), (0, .ref (h)), (1, .int (iI (f)))]) S dX6_layConflicts_64 hl (k := 0) rfl (by omega) (by decide) rfl (fun ls hl => ?_)
                refine lv_goto (tgt := 22) S.1 S.2.1 dX6_layConflicts_67 (by decide) ?_
                exact ih22  ((q + 1)) (uI wu p (((mk s f p q : Nat) : Int))) (by omega) (by omega) (fun k hk => by by_cases e7 : k = p; (rw [e7, uI_s, if_pos rfl, mk]; split <;> first | rfl | (exfalso; omega)); (rw [uI_n e7, if_neg e7, hw2 k hk, if_neg e7])) _ _ hH hS ls (lv_sub hl [0, 1, 2, 3] rfl)
              · skip
                refine lv_aload_n S.1 S.2.1 dX6_layConflicts_45 rfl (lv_at hl 2 rfl) ?_
                refine lv_iload_n S.1 S.2.1 dX6_layConflicts_46 rfl (lv_at hl 1 rfl) ?_
                refine lv_iload_n S.1 S.2.1 dX6_layConflicts_47 rfl (lv_at hl 0 rfl) ?_
                refine lv_iload_n S.1 S.2.1 dX6_layConflicts_48 rfl (lv_at hl 3 rfl) ?_
                refine zc_Vi (n := 3) (As := [.int (iI ((p : Nat) : Int)), .int (iI ((q : Nat) : Int)), .int (iI (f))]) (rest := [.int (iI ((mk s f p q : Nat) : Int)), .int (iI ((p : Nat) : Int)), .ref (Q 4)]) S hAM hA (kX6_reasonOf l X h Q s rd kp km tx ln sp rs wu gi p q f hs (by omega) (by omega) (by omega)) rfl gX6_layConflicts_X6_reasonOf  (by decide +kernel) ⟨Nat.le_of_ble_eq_true rfl, Nat.le_of_ble_eq_true rfl⟩ hH hS [0, 1, 2, 3, 4, 5, 6] rfl 7 rfl (List.Perm.refl _) 6 0 rfl rfl rfl hl.1 rfl (Nat.le_of_ble_eq_true rfl) dX6_layConflicts_49 ⟨Nat.le_of_ble_eq_true rfl, Nat.le_of_ble_eq_true rfl⟩ (fun z2 _ H locs hp3 hH hS => ?_)
                have hH : Hold X A [mO h Q km ln sp rs, aW X (Q 0) 125 s, aW X (Q 1) 125 rd, aW X (Q 2) 625 kp, aW X (Q 3) 400 tx, aW X (Q 4) 8 wu, aW X (Q 5) 8 gi].flatten H := hH
                obtain rfl := hp3
                refine zv_if_eq (tgt := 61) S dX6_layConflicts_52 (by decide) (by have : rsn s p q f ≤ 3 := rsn3 _ _ _ _; omega) (fun c_52 => ?_) (fun c_52 => ?_)
                · skip
                  refine lv_iconst (v := iI (((0 : Nat) : Int))) S.1 S.2.1 dX6_layConflicts_61 (by decide) ?_
                  refine zv_ior (z := ((mk s f p q : Nat) : Int)) S dX6_layConflicts_62 (by rw [iI_or, Nat.or_zero]) ?_
                  refine zv_iast (z := ((mk s f p q : Nat) : Int)) (w2 := [mO h Q km ln sp rs, aW X (Q 0) 125 s, aW X (Q 1) 125 rd, aW X (Q 2) 625 kp, aW X (Q 3) 400 tx, aW X (Q 4) 8 (uI wu p (((mk s f p q : Nat) : Int))), aW X (Q 5) 8 gi].flatten) S hAM hH hS 5 rfl (p) rfl (by omega) (by decide) rfl dX6_layConflicts_63 (fun H locs hH hS => ?_)
                  refine zv_iinc (z := (((q + 1) : Nat) : Int)) (lv' := [(3, .int (iI (((q + 1) : Nat) : Int))), (2, .int (iI ((p : Nat) : Int))), (0, .ref (h)), (1, .int (iI (f)))]) S dX6_layConflicts_64 hl (k := 0) rfl (by omega) (by decide) rfl (fun ls hl => ?_)
                  refine lv_goto (tgt := 22) S.1 S.2.1 dX6_layConflicts_67 (by decide) ?_
                  exact ih22  ((q + 1)) (uI wu p (((mk s f p q : Nat) : Int))) (by omega) (by omega) (fun k hk => by by_cases e7 : k = p; (rw [e7, uI_s, if_pos rfl, mk]; split <;> first | rfl | (exfalso; omega)); (rw [uI_n e7, if_neg e7, hw2 k hk, if_neg e7])) _ _ hH hS ls (lv_sub hl [0, 1, 2, 3] rfl)
                · skip
                  refine lv_iconst (v := iI (((1 : Nat) : Int))) S.1 S.2.1 dX6_layConflicts_55 (by decide) ?_
                  refine lv_iload_n S.1 S.2.1 dX6_layConflicts_56 rfl (lv_at hl 0 rfl) ?_
                  refine zv_ishl (z := (((2 ^ q) : Nat) : Int)) S dX6_layConflicts_57 (iI_shl1 _ (by omega)) ?_
                  refine lv_goto (tgt := 62) S.1 S.2.1 dX6_layConflicts_58 (by decide) ?_
                  refine zv_ior (z := (((mk s f p q ||| (2 ^ q)) : Nat) : Int)) S dX6_layConflicts_62 (iI_or _ _) ?_
                  refine zv_iast (z := (((mk s f p q ||| (2 ^ q)) : Nat) : Int)) (w2 := [mO h Q km ln sp rs, aW X (Q 0) 125 s, aW X (Q 1) 125 rd, aW X (Q 2) 625 kp, aW X (Q 3) 400 tx, aW X (Q 4) 8 (uI wu p ((((mk s f p q ||| (2 ^ q)) : Nat) : Int))), aW X (Q 5) 8 gi].flatten) S hAM hH hS 5 rfl (p) rfl (by omega) (by decide) rfl dX6_layConflicts_63 (fun H locs hH hS => ?_)
                  refine zv_iinc (z := (((q + 1) : Nat) : Int)) (lv' := [(3, .int (iI (((q + 1) : Nat) : Int))), (2, .int (iI ((p : Nat) : Int))), (0, .ref (h)), (1, .int (iI (f)))]) S dX6_layConflicts_64 hl (k := 0) rfl (by omega) (by decide) rfl (fun ls hl => ?_)
                  refine lv_goto (tgt := 22) S.1 S.2.1 dX6_layConflicts_67 (by decide) ?_
                  exact ih22  ((q + 1)) (uI wu p ((((mk s f p q ||| (2 ^ q)) : Nat) : Int))) (by omega) (by omega) (fun k hk => by by_cases e7 : k = p; (rw [e7, uI_s, if_pos rfl, mk]; split <;> first | rfl | (exfalso; omega)); (rw [uI_n e7, if_neg e7, hw2 k hk, if_neg e7])) _ _ hH hS ls (lv_sub hl [0, 1, 2, 3] rfl)
        exact lp22 (nr s - (0) + 1) (0) (uI wv p (((0 : Nat) : Int))) (Nat.lt_succ_self _) (Nat.zero_le _) (fun k hk => by by_cases e7 : k = p; (rw [e7, uI_s, if_pos rfl]; rfl); (rw [uI_n e7, if_neg e7, hw k hk])) _ _ hH hS ls (lv_sub hl [0, 1, 2, 3] rfl)
  exact lp2 (nr s - (0) + 1) (0) (wi) (Nat.lt_succ_self _) (Nat.zero_le _) (fun k _ => (if_neg (Nat.not_lt_zero k)).symm) _ _ hH hS ls (lv_sub hl [0, 1, 2] rfl)

set_option maxHeartbeats 4000000 in
set_option maxRecDepth 100000 in
theorem kX6_areTwo (l : Launch) (X : XT) (h : Nat) (Q : Nat → Nat) (s : Nat → Int) (rd : Nat → Int) (kp : Nat → Int) (km : Int) (tx : Nat → Int) (ln : Int) (sp : Int) (rs : Int) (wi : Nat → Int) (gi : Nat → Int) (r : Int) (o : Int) (hs : okR s) (hr : inR r) (ho : inR o) : Ci l yX6_areTwo wsX6_areTwo (rmD 3) X [.ref h, .int (iI (r)), .int (iI (o))] [mO h Q km ln sp rs, aW X (Q 0) 125 s, aW X (Q 1) 125 rd, aW X (Q 2) 625 kp, aW X (Q 3) 400 tx, aW X (Q 4) 8 wi, aW X (Q 5) 8 gi] (fun (z : Int) (_ : Unit) => (z = 1 ∧ ((0 ≤ r ∧ r < ((nr s : Nat) : Int)) ∧ (0 ≤ o ∧ o < ((nr s : Nat) : Int)) ∧ ¬ r = o)) ∨ (z = 0 ∧ ¬ ((0 ≤ r ∧ r < ((nr s : Nat) : Int)) ∧ (0 ≤ o ∧ o < ((nr s : Nat) : Int)) ∧ ¬ r = o))) (fun (_ : Unit) => [mO h Q km ln sp rs, aW X (Q 0) 125 s, aW X (Q 1) 125 rd, aW X (Q 2) 625 kp, aW X (Q 3) 400 tx, aW X (Q 4) 8 wi, aW X (Q 5) 8 gi]) := by
  refine Ci.ofW (cc := cX6_areTwo) (maxL := 3) (by decide) rfl (Nat.le_of_ble_eq_true rfl) ?_
  intro p_ e_ s_ m_ below meth c_ A Q_ S hA hAM hH hS hret ls hl
  have hl : lv_has ls 3 [(0, .ref (h)), (1, .int (iI (r))), (2, .int (iI (o)))] := hl
  have hk1 := hs.nr8
  have hk2 := hs.na20
  have hk3 := hs.ns10
  refine lv_aload_n S.1 S.2.1 dX6_areTwo_0 rfl (lv_at hl 0 rfl) ?_
  refine lv_iload_n S.1 S.2.1 dX6_areTwo_1 rfl (lv_at hl 1 rfl) ?_
  refine zc_Vi (n := 1) (As := [.int (iI (r))]) (rest := []) S hAM hA (kX6_isRole l X h Q s rd kp km tx ln sp rs wi gi r hs (by omega)) rfl gX6_areTwo_X6_isRole  (by decide +kernel) ⟨Nat.le_of_ble_eq_true rfl, Nat.le_of_ble_eq_true rfl⟩ hH hS [0, 1, 2, 3, 4, 5, 6] rfl 7 rfl (List.Perm.refl _) 6 0 rfl rfl rfl hl.1 rfl (Nat.le_of_ble_eq_true rfl) dX6_areTwo_2 ⟨Nat.le_of_ble_eq_true rfl, Nat.le_of_ble_eq_true rfl⟩ (fun z2 _ H locs hp3 hH hS => ?_)
  have hH : Hold X A [mO h Q km ln sp rs, aW X (Q 0) 125 s, aW X (Q 1) 125 rd, aW X (Q 2) 625 kp, aW X (Q 3) 400 tx, aW X (Q 4) 8 wi, aW X (Q 5) 8 gi].flatten H := hH
  rcases hp3 with ⟨rfl, b_2⟩ | ⟨rfl, b_2⟩
  · refine zv_top (z := 1) (z2 := ((1 : Nat) : Int)) rfl ?_
    refine zv_if_eq (tgt := 25) S dX6_areTwo_5 (by decide) (by decide) (fun c_5 => ?_) (fun c_5 => ?_)
    · exact (show False by omega).elim
    · skip
      refine lv_aload_n S.1 S.2.1 dX6_areTwo_8 rfl (lv_at hl 0 rfl) ?_
      refine lv_iload_n S.1 S.2.1 dX6_areTwo_9 rfl (lv_at hl 2 rfl) ?_
      refine zc_Vi (n := 1) (As := [.int (iI (o))]) (rest := []) S hAM hA (kX6_isRole l X h Q s rd kp km tx ln sp rs wi gi o hs (by omega)) rfl gX6_areTwo_X6_isRole  (by decide +kernel) ⟨Nat.le_of_ble_eq_true rfl, Nat.le_of_ble_eq_true rfl⟩ hH hS [0, 1, 2, 3, 4, 5, 6] rfl 7 rfl (List.Perm.refl _) 6 0 rfl rfl rfl hl.1 rfl (Nat.le_of_ble_eq_true rfl) dX6_areTwo_10 ⟨Nat.le_of_ble_eq_true rfl, Nat.le_of_ble_eq_true rfl⟩ (fun z5 _ H locs hp6 hH hS => ?_)
      have hH : Hold X A [mO h Q km ln sp rs, aW X (Q 0) 125 s, aW X (Q 1) 125 rd, aW X (Q 2) 625 kp, aW X (Q 3) 400 tx, aW X (Q 4) 8 wi, aW X (Q 5) 8 gi].flatten H := hH
      rcases hp6 with ⟨rfl, b_10⟩ | ⟨rfl, b_10⟩
      · refine zv_top (z := 1) (z2 := ((1 : Nat) : Int)) rfl ?_
        refine zv_if_eq (tgt := 25) S dX6_areTwo_13 (by decide) (by decide) (fun c_13 => ?_) (fun c_13 => ?_)
        · exact (show False by omega).elim
        · skip
          refine lv_iload_n S.1 S.2.1 dX6_areTwo_16 rfl (lv_at hl 1 rfl) ?_
          refine lv_iload_n S.1 S.2.1 dX6_areTwo_17 rfl (lv_at hl 2 rfl) ?_
          refine zv_icmp_eq (tgt := 25) S dX6_areTwo_18 (by decide) (by omega) (by omega) (fun c_18 => ?_) (fun c_18 => ?_)
          · skip
            refine lv_iconst (v := iI (((0 : Nat) : Int))) S.1 S.2.1 dX6_areTwo_25 (by decide) ?_
            exact hret 26 ls _ _ (((0 : Nat) : Int)) () dX6_areTwo_26 rfl (by first | exact Or.inl ⟨rfl, by omega⟩ | exact Or.inr ⟨rfl, by omega⟩) hH hS
          · skip
            refine lv_iconst (v := iI (((1 : Nat) : Int))) S.1 S.2.1 dX6_areTwo_21 (by decide) ?_
            refine lv_goto (tgt := 26) S.1 S.2.1 dX6_areTwo_22 (by decide) ?_
            exact hret 26 ls _ _ (((1 : Nat) : Int)) () dX6_areTwo_26 rfl (by first | exact Or.inl ⟨rfl, by omega⟩ | exact Or.inr ⟨rfl, by omega⟩) hH hS
      · refine zv_top (z := 0) (z2 := ((0 : Nat) : Int)) rfl ?_
        refine zv_if_eq (tgt := 25) S dX6_areTwo_13 (by decide) (by decide) (fun c_13 => ?_) (fun c_13 => ?_)
        · skip
          refine lv_iconst (v := iI (((0 : Nat) : Int))) S.1 S.2.1 dX6_areTwo_25 (by decide) ?_
          exact hret 26 ls _ _ (((0 : Nat) : Int)) () dX6_areTwo_26 rfl (by first | exact Or.inl ⟨rfl, by omega⟩ | exact Or.inr ⟨rfl, by omega⟩) hH hS
        · exact (show False by omega).elim
  · refine zv_top (z := 0) (z2 := ((0 : Nat) : Int)) rfl ?_
    refine zv_if_eq (tgt := 25) S dX6_areTwo_5 (by decide) (by decide) (fun c_5 => ?_) (fun c_5 => ?_)
    · skip
      refine lv_iconst (v := iI (((0 : Nat) : Int))) S.1 S.2.1 dX6_areTwo_25 (by decide) ?_
      exact hret 26 ls _ _ (((0 : Nat) : Int)) () dX6_areTwo_26 rfl (by first | exact Or.inl ⟨rfl, by omega⟩ | exact Or.inr ⟨rfl, by omega⟩) hH hS
    · exact (show False by omega).elim

set_option maxHeartbeats 4000000 in
set_option maxRecDepth 100000 in
theorem kX6_conflict (l : Launch) (X : XT) (h : Nat) (Q : Nat → Nat) (s : Nat → Int) (rd : Nat → Int) (kp : Nat → Int) (km : Int) (tx : Nat → Int) (ln : Int) (sp : Int) (rs : Int) (wi : Nat → Int) (gi : Nat → Int) (r : Int) (o : Int) (hs : okR s) (hr : inR r) (ho : inR o) : Ci l yX6_conflict wsX6_conflict (rmD 5) X [.ref h, .int (iI (r)), .int (iI (o))] [mO h Q km ln sp rs, aW X (Q 0) 125 s, aW X (Q 1) 125 rd, aW X (Q 2) 625 kp, aW X (Q 3) 400 tx, aW X (Q 4) 8 wi, aW X (Q 5) 8 gi] (fun (z : Int) (_ : Unit) => z = (if (0 ≤ r ∧ r < ((nr s : Nat) : Int)) ∧ (0 ≤ o ∧ o < ((nr s : Nat) : Int)) ∧ ¬ r = o then ((rsn s r.toNat o.toNat 0 : Nat) : Int) else -1001)) (fun (_ : Unit) => [mO h Q km ln sp rs, aW X (Q 0) 125 s, aW X (Q 1) 125 rd, aW X (Q 2) 625 kp, aW X (Q 3) 400 tx, aW X (Q 4) 8 wi, aW X (Q 5) 8 gi]) := by
  refine Ci.ofW (cc := cX6_conflict) (maxL := 3) (by decide) rfl (Nat.le_of_ble_eq_true rfl) ?_
  intro p_ e_ s_ m_ below meth c_ A Q_ S hA hAM hH hS hret ls hl
  have hl : lv_has ls 3 [(0, .ref (h)), (1, .int (iI (r))), (2, .int (iI (o)))] := hl
  have hk1 := hs.nr8
  have hk2 := hs.na20
  have hk3 := hs.ns10
  refine lv_aload_n S.1 S.2.1 dX6_conflict_0 rfl (lv_at hl 0 rfl) ?_
  refine lv_iload_n S.1 S.2.1 dX6_conflict_1 rfl (lv_at hl 1 rfl) ?_
  refine lv_iload_n S.1 S.2.1 dX6_conflict_2 rfl (lv_at hl 2 rfl) ?_
  refine zc_Vi (n := 2) (As := [.int (iI (r)), .int (iI (o))]) (rest := []) S hAM hA (kX6_areTwo l X h Q s rd kp km tx ln sp rs wi gi r o hs (by omega) (by omega)) rfl gX6_conflict_X6_areTwo  (by decide +kernel) ⟨Nat.le_of_ble_eq_true rfl, Nat.le_of_ble_eq_true rfl⟩ hH hS [0, 1, 2, 3, 4, 5, 6] rfl 7 rfl (List.Perm.refl _) 6 0 rfl rfl rfl hl.1 rfl (Nat.le_of_ble_eq_true rfl) dX6_conflict_3 ⟨Nat.le_of_ble_eq_true rfl, Nat.le_of_ble_eq_true rfl⟩ (fun z2 _ H locs hp3 hH hS => ?_)
  have hH : Hold X A [mO h Q km ln sp rs, aW X (Q 0) 125 s, aW X (Q 1) 125 rd, aW X (Q 2) 625 kp, aW X (Q 3) 400 tx, aW X (Q 4) 8 wi, aW X (Q 5) 8 gi].flatten H := hH
  rcases hp3 with ⟨rfl, b_3⟩ | ⟨rfl, b_3⟩
  · refine zv_top (z := 1) (z2 := ((1 : Nat) : Int)) rfl ?_
    obtain ⟨rn, rfl⟩ : ∃ rn : Nat, r = ((rn : Nat) : Int) := ⟨r.toNat, by omega⟩
    obtain ⟨on, rfl⟩ : ∃ on : Nat, o = ((on : Nat) : Int) := ⟨o.toNat, by omega⟩
    refine zv_if_eq (tgt := 19) S dX6_conflict_6 (by decide) (by decide) (fun c_6 => ?_) (fun c_6 => ?_)
    · exact (show False by omega).elim
    · skip
      refine lv_aload_n S.1 S.2.1 dX6_conflict_9 rfl (lv_at hl 0 rfl) ?_
      refine lv_iload_n S.1 S.2.1 dX6_conflict_10 rfl (lv_at hl 1 rfl) ?_
      refine lv_iload_n S.1 S.2.1 dX6_conflict_11 rfl (lv_at hl 2 rfl) ?_
      refine lv_iconst (v := iI (((0 : Nat) : Int))) S.1 S.2.1 dX6_conflict_12 (by decide) ?_
      refine zc_Vi (n := 3) (As := [.int (iI ((rn : Nat) : Int)), .int (iI ((on : Nat) : Int)), .int (iI ((0 : Nat) : Int))]) (rest := []) S hAM hA (kX6_reasonOf l X h Q s rd kp km tx ln sp rs wi gi rn on 0 hs (by omega) (by omega) (by omega)) rfl gX6_conflict_X6_reasonOf  (by decide +kernel) ⟨Nat.le_of_ble_eq_true rfl, Nat.le_of_ble_eq_true rfl⟩ hH hS [0, 1, 2, 3, 4, 5, 6] rfl 7 rfl (List.Perm.refl _) 6 0 rfl rfl rfl hl.1 rfl (Nat.le_of_ble_eq_true rfl) dX6_conflict_13 ⟨Nat.le_of_ble_eq_true rfl, Nat.le_of_ble_eq_true rfl⟩ (fun z5 _ H locs hp6 hH hS => ?_)
      have hH : Hold X A [mO h Q km ln sp rs, aW X (Q 0) 125 s, aW X (Q 1) 125 rd, aW X (Q 2) 625 kp, aW X (Q 3) 400 tx, aW X (Q 4) 8 wi, aW X (Q 5) 8 gi].flatten H := hH
      obtain rfl := hp6
      refine lv_goto (tgt := 22) S.1 S.2.1 dX6_conflict_16 (by decide) ?_
      exact hret 22 ls _ _ (((rsn s rn on 0 : Nat) : Int)) () dX6_conflict_22 rfl (by (try simp only [Int.toNat_natCast]); split <;> first | rfl | (exfalso; omega)) hH hS
  · refine zv_top (z := 0) (z2 := ((0 : Nat) : Int)) rfl ?_
    refine zv_if_eq (tgt := 19) S dX6_conflict_6 (by decide) (by decide) (fun c_6 => ?_) (fun c_6 => ?_)
    · skip
      refine lv_sipush (v := iI (-1001)) S.1 S.2.1 dX6_conflict_19 (by decide) ?_
      exact hret 22 ls _ _ (-1001) () dX6_conflict_22 rfl (by (try simp only [Int.toNat_natCast]); split <;> first | rfl | (exfalso; omega)) hH hS
    · exact (show False by omega).elim

theorem mX6_conflictCount_1 : Cond.fieldLink RX6 7 "RoleDoublingPlannerModel" "s" "[I" ∈ wsX6_conflictCount := List.mem_of_getElem? (i := 1) rfl
theorem nX6_conflictCount_X6 : ∀ w ∈ wsX60, w ∈ wsX6_conflictCount := fun _ h => List.mem_cons_of_mem _ (List.mem_append_right _ h)
theorem mX6_conflictCount_2 : Cond.fieldLink RX6 22 "RoleDoublingPlannerModel" "with" "[I" ∈ wsX6_conflictCount := List.mem_of_getElem? (i := 2) rfl
set_option maxHeartbeats 4000000 in
set_option maxRecDepth 100000 in
theorem kX6_conflictCount (l : Launch) (X : XT) (h : Nat) (Q : Nat → Nat) (s : Nat → Int) (rd : Nat → Int) (kp : Nat → Int) (km : Int) (tx : Nat → Int) (ln : Int) (sp : Int) (rs : Int) (wi : Nat → Int) (gi : Nat → Int) (hs : okR s) : Ci l yX6_conflictCount wsX6_conflictCount (rmD 6) X [.ref h] [mO h Q km ln sp rs, aW X (Q 0) 125 s, aW X (Q 1) 125 rd, aW X (Q 2) 625 kp, aW X (Q 3) 400 tx, aW X (Q 4) 8 wi, aW X (Q 5) 8 gi] (fun (z : Int) (_ : Unit) => z = ((ccS s (nr s) / 2 : Nat) : Int)) (fun (_ : Unit) => [mO h Q km ln sp rs, aW X (Q 0) 125 s, aW X (Q 1) 125 rd, aW X (Q 2) 625 kp, aW X (Q 3) 400 tx, aW X (Q 4) 8 (wiF s 0 wi), aW X (Q 5) 8 gi]) := by
  refine Ci.ofW (cc := cX6_conflictCount) (maxL := 3) (by decide) rfl (Nat.le_of_ble_eq_true rfl) ?_
  intro p_ e_ s_ m_ below meth c_ A Q_ S hA hAM hH hS hret ls hl
  have hl : lv_has ls 3 [(0, .ref (h))] := hl
  have hk1 := hs.nr8
  have hk2 := hs.na20
  have hk3 := hs.ns10
  refine lv_aload_n S.1 S.2.1 dX6_conflictCount_0 rfl (lv_at hl 0 rfl) ?_
  refine lv_iconst (v := iI (((0 : Nat) : Int))) S.1 S.2.1 dX6_conflictCount_1 (by decide) ?_
  refine zc_Vv (n := 1) (As := [.int (iI ((0 : Nat) : Int))]) (rest := []) S hAM hA (kX6_layConflicts l X h Q s rd kp km tx ln sp rs wi gi 0 hs (by omega)) rfl gX6_conflictCount_X6_layConflicts  (by decide +kernel) ⟨Nat.le_of_ble_eq_true rfl, Nat.le_of_ble_eq_true rfl⟩ hH hS [0, 1, 2, 3, 4, 5, 6] rfl 7 rfl (List.Perm.refl _) 6 0 rfl rfl rfl hl.1 rfl (Nat.le_of_ble_eq_true rfl) dX6_conflictCount_2 ⟨Nat.le_of_ble_eq_true rfl, Nat.le_of_ble_eq_true rfl⟩ (fun _ H locs hp3 hH hS => ?_)
  have hH : Hold X A [mO h Q km ln sp rs, aW X (Q 0) 125 s, aW X (Q 1) 125 rd, aW X (Q 2) 625 kp, aW X (Q 3) 400 tx, aW X (Q 4) 8 (wiF s 0 wi), aW X (Q 5) 8 gi].flatten H := hH
  refine lv_iconst (v := iI (((0 : Nat) : Int))) S.1 S.2.1 dX6_conflictCount_5 (by decide) ?_
  refine lv_istore_n (lv' := [(1, .int (iI ((0 : Nat) : Int))), (0, .ref (h))]) S.1 S.2.1 dX6_conflictCount_6 rfl hl (by decide) rfl (fun ls hl => ?_)
  refine lv_iconst (v := iI (((0 : Nat) : Int))) S.1 S.2.1 dX6_conflictCount_7 (by decide) ?_
  refine lv_istore_n (lv' := [(2, .int (iI ((0 : Nat) : Int))), (1, .int (iI ((0 : Nat) : Int))), (0, .ref (h))]) S.1 S.2.1 dX6_conflictCount_8 rfl hl (by decide) rfl (fun ls hl => ?_)
  have lp9 : ∀ (n : Nat) (p : Nat) (t : Nat), nr s - p < n → (p ≤ nr s) → (t = ccS s p) → (t ≤ 8 * p) → ∀ (H : Heap) (locs : List Loc), Hold X A [mO h Q km ln sp rs, aW X (Q 0) 125 s, aW X (Q 1) 125 rd, aW X (Q 2) 625 kp, aW X (Q 3) 400 tx, aW X (Q 4) 8 (wiF s 0 wi), aW X (Q 5) 8 gi].flatten H → va_S A s_.heap H locs → ∀ ls : Array Slot, lv_has ls 3 [(2, .int (iI ((p : Nat) : Int))), (1, .int (iI ((t : Nat) : Int))), (0, .ref (h))] → W p_ l e_ (rmD 6) s_ m_ (List.toArray [.ref (h)]) below meth c_ H locs 0 0 Q_ (F0 m_ 9 ls []) := by
    intro n
    induction n with
    | zero => intro p t hmu hi hset h1 H locs hH hS ls hl; exact absurd hmu (Nat.not_lt_zero _)
    | succ n ih9 => 
      intro p t hmu hi hset h1 H locs hH hS ls hl
      refine lv_iload_n S.1 S.2.1 dX6_conflictCount_9 rfl (lv_at hl 0 rfl) ?_
      refine lv_aload_n S.1 S.2.1 dX6_conflictCount_10 rfl (lv_at hl 2 rfl) ?_
      refine zv_get (v := .ref (Q 0)) S hAM hH nX6_conflictCount_X6 0 rfl rfl 0 (by decide) mX6_conflictCount_1 rfl rfl dX6_conflictCount_11 ?_
      refine lv_bipush (v := iI (((11 : Nat) : Int))) S.1 S.2.1 dX6_conflictCount_14 (by decide) ?_
      refine zv_iald S hAM hH 1 rfl (11) rfl (by decide) (by decide) dX6_conflictCount_16 ?_
      refine zv_top (z := s 11) (z2 := ((nr s : Nat) : Int)) hs.e11 ?_
      refine zv_icmp_ge (tgt := 38) S dX6_conflictCount_17 (by decide) (by omega) (by omega) (fun c_17 => ?_) (fun c_17 => ?_)
      · skip
        refine lv_iload_n S.1 S.2.1 dX6_conflictCount_38 rfl (lv_at hl 1 rfl) ?_
        refine lv_iconst (v := iI (((2 : Nat) : Int))) S.1 S.2.1 dX6_conflictCount_39 (by decide) ?_
        refine zv_idiv (z := (((t / 2) : Nat) : Int)) S dX6_conflictCount_40 (by decide) (iI_div (by omega) (by omega) (by omega)) ?_
        exact hret 41 ls _ _ ((((t / 2) : Nat) : Int)) () dX6_conflictCount_41 rfl (by have e9 : p = nr s := (by omega); rw [hset, e9]) hH hS
      · skip
        refine lv_iload_n S.1 S.2.1 dX6_conflictCount_20 rfl (lv_at hl 1 rfl) ?_
        refine lv_aload_n S.1 S.2.1 dX6_conflictCount_21 rfl (lv_at hl 2 rfl) ?_
        refine zv_get (v := .ref (Q 4)) S hAM hH nX6_conflictCount_X6 0 rfl rfl 8 (by decide) mX6_conflictCount_2 rfl rfl dX6_conflictCount_22 ?_
        refine lv_iload_n S.1 S.2.1 dX6_conflictCount_25 rfl (lv_at hl 0 rfl) ?_
        refine zv_iald S hAM hH 5 rfl (p) rfl (by omega) (by decide) dX6_conflictCount_26 ?_
        refine zv_top (z := (wiF s 0 wi) p) (z2 := ((mk s 0 p (nr s) : Nat) : Int)) (wiF_at (by omega)) ?_
        refine zc_Si (n := 1) (As := [.int (iI ((mk s 0 p (nr s) : Nat) : Int))]) (rest := [.int (iI ((t : Nat) : Int))]) S hAM hA (kX6_ones l X (mk s 0 p (nr s)) (mk_lt _ _ _ _ (by omega))) rfl gX6_conflictCount_X6_ones  (by decide +kernel) ⟨Nat.le_of_ble_eq_true rfl, Nat.le_of_ble_eq_true rfl⟩ hH hS [0, 1, 2, 3, 4, 5, 6] rfl 7 rfl (List.Perm.refl _)  rfl hl.1 rfl (Nat.le_of_ble_eq_true rfl) dX6_conflictCount_27 ⟨Nat.le_of_ble_eq_true rfl, Nat.le_of_ble_eq_true rfl⟩ (fun z5 _ H locs hp6 hH hS => ?_)
        have hH : Hold X A [mO h Q km ln sp rs, aW X (Q 0) 125 s, aW X (Q 1) 125 rd, aW X (Q 2) 625 kp, aW X (Q 3) 400 tx, aW X (Q 4) 8 (wiF s 0 wi), aW X (Q 5) 8 gi].flatten H := hH
        obtain rfl := hp6
        refine zv_iadd (z := (((t + pop (mk s 0 p (nr s))) : Nat) : Int)) S dX6_conflictCount_30 (by omega) ?_
        refine lv_istore_n (lv' := [(1, .int (iI (((t + pop (mk s 0 p (nr s))) : Nat) : Int))), (2, .int (iI ((p : Nat) : Int))), (0, .ref (h))]) S.1 S.2.1 dX6_conflictCount_31 rfl hl (by decide) rfl (fun ls hl => ?_)
        refine zv_iinc (z := (((p + 1) : Nat) : Int)) (lv' := [(2, .int (iI (((p + 1) : Nat) : Int))), (1, .int (iI (((t + pop (mk s 0 p (nr s))) : Nat) : Int))), (0, .ref (h))]) S dX6_conflictCount_32 hl (k := 1) rfl (by omega) (by decide) rfl (fun ls hl => ?_)
        refine lv_goto (tgt := 9) S.1 S.2.1 dX6_conflictCount_35 (by decide) ?_
        exact ih9  ((p + 1)) ((t + pop (mk s 0 p (nr s)))) (by omega) (by omega) (by rw [hset]; rfl) (by have := pop_8 _ (mk_lt s 0 p (nr s) (by omega)); omega) _ _ hH hS ls (lv_sub hl [0, 1, 2] rfl)
  exact lp9 (nr s - (0) + 1) (0) (0) (Nat.lt_succ_self _) (Nat.zero_le _) rfl (by omega) _ _ hH hS ls (lv_sub hl [0, 1, 2] rfl)

set_option maxHeartbeats 4000000 in
set_option maxRecDepth 100000 in
theorem kX6_slackOf (l : Launch) (X : XT) (h : Nat) (Q : Nat → Nat) (s : Nat → Int) (rd : Nat → Int) (kp : Nat → Int) (km : Int) (tx : Nat → Int) (ln : Int) (sp : Int) (rs : Int) (wi : Nat → Int) (gi : Nat → Int) (p : Nat) (q : Nat) (hs : okR s) (hp : p < 8) (hq : q < 8) : Ci l yX6_slackOf wsX6_slackOf (rmD 4) X [.ref h, .int (iI ((p : Nat) : Int)), .int (iI ((q : Nat) : Int))] [mO h Q km ln sp rs, aW X (Q 0) 125 s, aW X (Q 1) 125 rd, aW X (Q 2) 625 kp, aW X (Q 3) 400 tx, aW X (Q 4) 8 wi, aW X (Q 5) 8 gi] (fun (z : Int) (_ : Unit) => z = skO s p q) (fun (_ : Unit) => [mO h Q km ln sp rs, aW X (Q 0) 125 s, aW X (Q 1) 125 rd, aW X (Q 2) 625 kp, aW X (Q 3) 400 tx, aW X (Q 4) 8 wi, aW X (Q 5) 8 gi]) := by
  refine Ci.ofW (cc := cX6_slackOf) (maxL := 5) (by decide) rfl (Nat.le_of_ble_eq_true rfl) ?_
  intro p_ e_ s_ m_ below meth c_ A Q_ S hA hAM hH hS hret ls hl
  have hl : lv_has ls 5 [(0, .ref (h)), (1, .int (iI ((p : Nat) : Int))), (2, .int (iI ((q : Nat) : Int)))] := hl
  have hk1 := hs.nr8
  have hk2 := hs.na20
  have hk3 := hs.ns10
  refine lv_aload_n S.1 S.2.1 dX6_slackOf_0 rfl (lv_at hl 0 rfl) ?_
  refine lv_iload_n S.1 S.2.1 dX6_slackOf_1 rfl (lv_at hl 1 rfl) ?_
  refine lv_iload_n S.1 S.2.1 dX6_slackOf_2 rfl (lv_at hl 2 rfl) ?_
  refine lv_iconst (v := iI (((0 : Nat) : Int))) S.1 S.2.1 dX6_slackOf_3 (by decide) ?_
  refine zc_Vi (n := 3) (As := [.int (iI ((p : Nat) : Int)), .int (iI ((q : Nat) : Int)), .int (iI ((0 : Nat) : Int))]) (rest := []) S hAM hA (kX6_roomOf l X h Q s rd kp km tx ln sp rs wi gi p q 0 hs (by omega) (by omega) (by omega)) rfl gX6_slackOf_X6_roomOf  (by decide +kernel) ⟨Nat.le_of_ble_eq_true rfl, Nat.le_of_ble_eq_true rfl⟩ hH hS [0, 1, 2, 3, 4, 5, 6] rfl 7 rfl (List.Perm.refl _) 6 0 rfl rfl rfl hl.1 rfl (Nat.le_of_ble_eq_true rfl) dX6_slackOf_4 ⟨Nat.le_of_ble_eq_true rfl, Nat.le_of_ble_eq_true rfl⟩ (fun z2 _ H locs hp3 hH hS => ?_)
  have hH : Hold X A [mO h Q km ln sp rs, aW X (Q 0) 125 s, aW X (Q 1) 125 rd, aW X (Q 2) 625 kp, aW X (Q 3) 400 tx, aW X (Q 4) 8 wi, aW X (Q 5) 8 gi].flatten H := hH
  obtain rfl := hp3
  refine lv_istore_n (lv' := [(3, .int (iI (rm s p q 0))), (0, .ref (h)), (1, .int (iI ((p : Nat) : Int))), (2, .int (iI ((q : Nat) : Int)))]) S.1 S.2.1 dX6_slackOf_7 rfl hl (by decide) rfl (fun ls hl => ?_)
  refine lv_aload_n S.1 S.2.1 dX6_slackOf_8 rfl (lv_at hl 1 rfl) ?_
  refine lv_iload_n S.1 S.2.1 dX6_slackOf_9 rfl (lv_at hl 3 rfl) ?_
  refine lv_iload_n S.1 S.2.1 dX6_slackOf_10 rfl (lv_at hl 2 rfl) ?_
  refine lv_iconst (v := iI (((0 : Nat) : Int))) S.1 S.2.1 dX6_slackOf_11 (by decide) ?_
  refine zc_Vi (n := 3) (As := [.int (iI ((q : Nat) : Int)), .int (iI ((p : Nat) : Int)), .int (iI ((0 : Nat) : Int))]) (rest := []) S hAM hA (kX6_roomOf l X h Q s rd kp km tx ln sp rs wi gi q p 0 hs (by omega) (by omega) (by omega)) rfl gX6_slackOf_X6_roomOf  (by decide +kernel) ⟨Nat.le_of_ble_eq_true rfl, Nat.le_of_ble_eq_true rfl⟩ hH hS [0, 1, 2, 3, 4, 5, 6] rfl 7 rfl (List.Perm.refl _) 6 0 rfl rfl rfl hl.1 rfl (Nat.le_of_ble_eq_true rfl) dX6_slackOf_12 ⟨Nat.le_of_ble_eq_true rfl, Nat.le_of_ble_eq_true rfl⟩ (fun z5 _ H locs hp6 hH hS => ?_)
  have hH : Hold X A [mO h Q km ln sp rs, aW X (Q 0) 125 s, aW X (Q 1) 125 rd, aW X (Q 2) 625 kp, aW X (Q 3) 400 tx, aW X (Q 4) 8 wi, aW X (Q 5) 8 gi].flatten H := hH
  obtain rfl := hp6
  refine lv_istore (lv' := [(4, .int (iI (rm s q p 0))), (3, .int (iI (rm s p q 0))), (0, .ref (h)), (1, .int (iI ((p : Nat) : Int))), (2, .int (iI ((q : Nat) : Int)))]) S.1 S.2.1 dX6_slackOf_15 hl (by decide) rfl (fun ls hl => ?_)
  refine lv_iload_n S.1 S.2.1 dX6_slackOf_17 rfl (lv_at hl 1 rfl) ?_
  refine lv_iload S.1 S.2.1 dX6_slackOf_18 (lv_at hl 0 rfl) ?_
  refine zv_icmp_ge (tgt := 27) S dX6_slackOf_20 (by decide) (by have := hs.rmB p q 0 (by omega) (by omega) (by omega); omega) (by have := hs.rmB q p 0 (by omega) (by omega) (by omega); omega) (fun c_20 => ?_) (fun c_20 => ?_)
  · skip
    refine lv_iload S.1 S.2.1 dX6_slackOf_27 (lv_at hl 0 rfl) ?_
    exact hret 29 ls _ _ (rm s q p 0) () dX6_slackOf_29 rfl (by unfold skO; split <;> first | rfl | omega) hH hS
  · skip
    refine lv_iload_n S.1 S.2.1 dX6_slackOf_23 rfl (lv_at hl 1 rfl) ?_
    refine lv_goto (tgt := 29) S.1 S.2.1 dX6_slackOf_24 (by decide) ?_
    exact hret 29 ls _ _ (rm s p q 0) () dX6_slackOf_29 rfl (by unfold skO; split <;> first | rfl | omega) hH hS

theorem mX6_slack_1 : Cond.constant RX6 155 (100000) ∈ wsX6_slack := List.mem_of_getElem? (i := 1) rfl
set_option maxHeartbeats 4000000 in
set_option maxRecDepth 100000 in
theorem kX6_slack (l : Launch) (X : XT) (h : Nat) (Q : Nat → Nat) (s : Nat → Int) (rd : Nat → Int) (kp : Nat → Int) (km : Int) (tx : Nat → Int) (ln : Int) (sp : Int) (rs : Int) (wi : Nat → Int) (gi : Nat → Int) (r : Int) (o : Int) (hs : okR s) (hr : inR r) (ho : inR o) : Ci l yX6_slack wsX6_slack (rmD 5) X [.ref h, .int (iI (r)), .int (iI (o))] [mO h Q km ln sp rs, aW X (Q 0) 125 s, aW X (Q 1) 125 rd, aW X (Q 2) 625 kp, aW X (Q 3) 400 tx, aW X (Q 4) 8 wi, aW X (Q 5) 8 gi] (fun (z : Int) (_ : Unit) => z = slkF s r o) (fun (_ : Unit) => [mO h Q km ln sp rs, aW X (Q 0) 125 s, aW X (Q 1) 125 rd, aW X (Q 2) 625 kp, aW X (Q 3) 400 tx, aW X (Q 4) 8 wi, aW X (Q 5) 8 gi]) := by
  refine Ci.ofW (cc := cX6_slack) (maxL := 4) (by decide) rfl (Nat.le_of_ble_eq_true rfl) ?_
  intro p_ e_ s_ m_ below meth c_ A Q_ S hA hAM hH hS hret ls hl
  have hl : lv_has ls 4 [(0, .ref (h)), (1, .int (iI (r))), (2, .int (iI (o)))] := hl
  have hk1 := hs.nr8
  have hk2 := hs.na20
  have hk3 := hs.ns10
  refine lv_aload_n S.1 S.2.1 dX6_slack_0 rfl (lv_at hl 0 rfl) ?_
  refine lv_iload_n S.1 S.2.1 dX6_slack_1 rfl (lv_at hl 1 rfl) ?_
  refine lv_iload_n S.1 S.2.1 dX6_slack_2 rfl (lv_at hl 2 rfl) ?_
  refine zc_Vi (n := 2) (As := [.int (iI (r)), .int (iI (o))]) (rest := []) S hAM hA (kX6_areTwo l X h Q s rd kp km tx ln sp rs wi gi r o hs (by omega) (by omega)) rfl gX6_slack_X6_areTwo  (by decide +kernel) ⟨Nat.le_of_ble_eq_true rfl, Nat.le_of_ble_eq_true rfl⟩ hH hS [0, 1, 2, 3, 4, 5, 6] rfl 7 rfl (List.Perm.refl _) 6 0 rfl rfl rfl hl.1 rfl (Nat.le_of_ble_eq_true rfl) dX6_slack_3 ⟨Nat.le_of_ble_eq_true rfl, Nat.le_of_ble_eq_true rfl⟩ (fun z2 _ H locs hp3 hH hS => ?_)
  have hH : Hold X A [mO h Q km ln sp rs, aW X (Q 0) 125 s, aW X (Q 1) 125 rd, aW X (Q 2) 625 kp, aW X (Q 3) 400 tx, aW X (Q 4) 8 wi, aW X (Q 5) 8 gi].flatten H := hH
  rcases hp3 with ⟨rfl, b_3⟩ | ⟨rfl, b_3⟩
  · refine zv_top (z := 1) (z2 := ((1 : Nat) : Int)) rfl ?_
    obtain ⟨rn, rfl⟩ : ∃ rn : Nat, r = ((rn : Nat) : Int) := ⟨r.toNat, by omega⟩
    obtain ⟨on, rfl⟩ : ∃ on : Nat, o = ((on : Nat) : Int) := ⟨o.toNat, by omega⟩
    refine zv_if_ne (tgt := 13) S dX6_slack_6 (by decide) (by decide) (fun c_6 => ?_) (fun c_6 => ?_)
    · skip
      refine lv_aload_n S.1 S.2.1 dX6_slack_13 rfl (lv_at hl 0 rfl) ?_
      refine lv_iload_n S.1 S.2.1 dX6_slack_14 rfl (lv_at hl 1 rfl) ?_
      refine lv_iload_n S.1 S.2.1 dX6_slack_15 rfl (lv_at hl 2 rfl) ?_
      refine zc_Vi (n := 2) (As := [.int (iI ((rn : Nat) : Int)), .int (iI ((on : Nat) : Int))]) (rest := []) S hAM hA (kX6_overlap l X h Q s rd kp km tx ln sp rs wi gi rn on hs (by omega) (by omega)) rfl gX6_slack_X6_overlap  (by decide +kernel) ⟨Nat.le_of_ble_eq_true rfl, Nat.le_of_ble_eq_true rfl⟩ hH hS [0, 1, 2, 3, 4, 5, 6] rfl 7 rfl (List.Perm.refl _) 6 0 rfl rfl rfl hl.1 rfl (Nat.le_of_ble_eq_true rfl) dX6_slack_16 ⟨Nat.le_of_ble_eq_true rfl, Nat.le_of_ble_eq_true rfl⟩ (fun z5 _ H locs hp6 hH hS => ?_)
      have hH : Hold X A [mO h Q km ln sp rs, aW X (Q 0) 125 s, aW X (Q 1) 125 rd, aW X (Q 2) 625 kp, aW X (Q 3) 400 tx, aW X (Q 4) 8 wi, aW X (Q 5) 8 gi].flatten H := hH
      rcases hp6 with ⟨rfl, b_16⟩ | ⟨rfl, b_16⟩
      · refine zv_top (z := 1) (z2 := ((1 : Nat) : Int)) rfl ?_
        refine zv_if_eq (tgt := 26) S dX6_slack_19 (by decide) (by decide) (fun c_19 => ?_) (fun c_19 => ?_)
        · exact (show False by omega).elim
        · skip
          refine lv_sipush (v := iI (-1002)) S.1 S.2.1 dX6_slack_22 (by decide) ?_
          exact hret 25 ls _ _ (-1002) () dX6_slack_25 rfl (by unfold slkF; (try simp only [Int.toNat_natCast]); (repeat' split) <;> first | rfl | (exfalso; omega) | omega) hH hS
      · refine zv_top (z := 0) (z2 := ((0 : Nat) : Int)) rfl ?_
        refine zv_if_eq (tgt := 26) S dX6_slack_19 (by decide) (by decide) (fun c_19 => ?_) (fun c_19 => ?_)
        · skip
          refine lv_aload_n S.1 S.2.1 dX6_slack_26 rfl (lv_at hl 0 rfl) ?_
          refine lv_iload_n S.1 S.2.1 dX6_slack_27 rfl (lv_at hl 1 rfl) ?_
          refine lv_iload_n S.1 S.2.1 dX6_slack_28 rfl (lv_at hl 2 rfl) ?_
          refine zc_Vi (n := 2) (As := [.int (iI ((rn : Nat) : Int)), .int (iI ((on : Nat) : Int))]) (rest := []) S hAM hA (kX6_slackOf l X h Q s rd kp km tx ln sp rs wi gi rn on hs (by omega) (by omega)) rfl gX6_slack_X6_slackOf  (by decide +kernel) ⟨Nat.le_of_ble_eq_true rfl, Nat.le_of_ble_eq_true rfl⟩ hH hS [0, 1, 2, 3, 4, 5, 6] rfl 7 rfl (List.Perm.refl _) 6 0 rfl rfl rfl hl.1 rfl (Nat.le_of_ble_eq_true rfl) dX6_slack_29 ⟨Nat.le_of_ble_eq_true rfl, Nat.le_of_ble_eq_true rfl⟩ (fun z8 _ H locs hp9 hH hS => ?_)
          have hH : Hold X A [mO h Q km ln sp rs, aW X (Q 0) 125 s, aW X (Q 1) 125 rd, aW X (Q 2) 625 kp, aW X (Q 3) 400 tx, aW X (Q 4) 8 wi, aW X (Q 5) 8 gi].flatten H := hH
          obtain rfl := hp9
          refine lv_istore_n (lv' := [(3, .int (iI (skO s rn on))), (0, .ref (h)), (1, .int (iI ((rn : Nat) : Int))), (2, .int (iI ((on : Nat) : Int)))]) S.1 S.2.1 dX6_slack_32 rfl hl (by decide) rfl (fun ls hl => ?_)
          refine lv_iload_n S.1 S.2.1 dX6_slack_33 rfl (lv_at hl 0 rfl) ?_
          refine lv_ldc (v := iI (((100000 : Nat) : Int))) S.1 S.2.1 S.2.2.2.1 (zv_const S mX6_slack_1 (by decide)) dX6_slack_34 ?_
          refine zv_icmp_ne (tgt := 45) S dX6_slack_36 (by decide) (by have := hs.skB rn on (by omega) (by omega); omega) (by decide) (fun c_36 => ?_) (fun c_36 => ?_)
          · skip
            refine lv_iload_n S.1 S.2.1 dX6_slack_45 rfl (lv_at hl 0 rfl) ?_
            exact hret 46 ls _ _ (skO s rn on) () dX6_slack_46 rfl (by unfold slkF; (try simp only [Int.toNat_natCast]); (repeat' split) <;> first | rfl | (exfalso; omega) | omega) hH hS
          · skip
            refine lv_sipush (v := iI (-1004)) S.1 S.2.1 dX6_slack_39 (by decide) ?_
            refine lv_goto (tgt := 46) S.1 S.2.1 dX6_slack_42 (by decide) ?_
            exact hret 46 ls _ _ (-1004) () dX6_slack_46 rfl (by unfold slkF; (try simp only [Int.toNat_natCast]); (repeat' split) <;> first | rfl | (exfalso; omega) | omega) hH hS
        · exact (show False by omega).elim
    · exact (show False by omega).elim
  · refine zv_top (z := 0) (z2 := ((0 : Nat) : Int)) rfl ?_
    refine zv_if_ne (tgt := 13) S dX6_slack_6 (by decide) (by decide) (fun c_6 => ?_) (fun c_6 => ?_)
    · exact (show False by omega).elim
    · skip
      refine lv_sipush (v := iI (-1001)) S.1 S.2.1 dX6_slack_9 (by decide) ?_
      exact hret 12 ls _ _ (-1001) () dX6_slack_12 rfl (by unfold slkF; (try simp only [Int.toNat_natCast]); (repeat' split) <;> first | rfl | (exfalso; omega) | omega) hH hS

theorem mX6_actorOf_1 : Cond.fieldLink RX6 7 "RoleDoublingPlannerModel" "s" "[I" ∈ wsX6_actorOf := List.mem_of_getElem? (i := 1) rfl
theorem nX6_actorOf_X6 : ∀ w ∈ wsX60, w ∈ wsX6_actorOf := fun _ h => List.mem_cons_of_mem _ (List.mem_append_right _ h)
set_option maxHeartbeats 4000000 in
set_option maxRecDepth 100000 in
theorem kX6_actorOf (l : Launch) (X : XT) (h : Nat) (Q : Nat → Nat) (s : Nat → Int) (rd : Nat → Int) (kp : Nat → Int) (km : Int) (tx : Nat → Int) (ln : Int) (sp : Int) (rs : Int) (wi : Nat → Int) (gi : Nat → Int) (r : Int) (hs : okR s) (hr : inR r) : Ci l yX6_actorOf wsX6_actorOf (rmD 3) X [.ref h, .int (iI (r))] [mO h Q km ln sp rs, aW X (Q 0) 125 s, aW X (Q 1) 125 rd, aW X (Q 2) 625 kp, aW X (Q 3) 400 tx, aW X (Q 4) 8 wi, aW X (Q 5) 8 gi] (fun (z : Int) (_ : Unit) => z = (if 0 ≤ r ∧ r < ((nr s : Nat) : Int) then (if s (36 + r.toNat) = -1 then -1004 else s (36 + r.toNat)) else -1001)) (fun (_ : Unit) => [mO h Q km ln sp rs, aW X (Q 0) 125 s, aW X (Q 1) 125 rd, aW X (Q 2) 625 kp, aW X (Q 3) 400 tx, aW X (Q 4) 8 wi, aW X (Q 5) 8 gi]) := by
  refine Ci.ofW (cc := cX6_actorOf) (maxL := 2) (by decide) rfl (Nat.le_of_ble_eq_true rfl) ?_
  intro p_ e_ s_ m_ below meth c_ A Q_ S hA hAM hH hS hret ls hl
  have hl : lv_has ls 2 [(0, .ref (h)), (1, .int (iI (r)))] := hl
  have hk1 := hs.nr8
  have hk2 := hs.na20
  have hk3 := hs.ns10
  refine lv_aload_n S.1 S.2.1 dX6_actorOf_0 rfl (lv_at hl 0 rfl) ?_
  refine lv_iload_n S.1 S.2.1 dX6_actorOf_1 rfl (lv_at hl 1 rfl) ?_
  refine zc_Vi (n := 1) (As := [.int (iI (r))]) (rest := []) S hAM hA (kX6_isRole l X h Q s rd kp km tx ln sp rs wi gi r hs (by omega)) rfl gX6_actorOf_X6_isRole  (by decide +kernel) ⟨Nat.le_of_ble_eq_true rfl, Nat.le_of_ble_eq_true rfl⟩ hH hS [0, 1, 2, 3, 4, 5, 6] rfl 7 rfl (List.Perm.refl _) 6 0 rfl rfl rfl hl.1 rfl (Nat.le_of_ble_eq_true rfl) dX6_actorOf_2 ⟨Nat.le_of_ble_eq_true rfl, Nat.le_of_ble_eq_true rfl⟩ (fun z2 _ H locs hp3 hH hS => ?_)
  have hH : Hold X A [mO h Q km ln sp rs, aW X (Q 0) 125 s, aW X (Q 1) 125 rd, aW X (Q 2) 625 kp, aW X (Q 3) 400 tx, aW X (Q 4) 8 wi, aW X (Q 5) 8 gi].flatten H := hH
  rcases hp3 with ⟨rfl, b_2⟩ | ⟨rfl, b_2⟩
  · refine zv_top (z := 1) (z2 := ((1 : Nat) : Int)) rfl ?_
    obtain ⟨rn, rfl⟩ : ∃ rn : Nat, r = ((rn : Nat) : Int) := ⟨r.toNat, by omega⟩
    refine zv_if_ne (tgt := 12) S dX6_actorOf_5 (by decide) (by decide) (fun c_5 => ?_) (fun c_5 => ?_)
    · skip
      refine lv_aload_n S.1 S.2.1 dX6_actorOf_12 rfl (lv_at hl 0 rfl) ?_
      refine zv_get (v := .ref (Q 0)) S hAM hH nX6_actorOf_X6 0 rfl rfl 0 (by decide) mX6_actorOf_1 rfl rfl dX6_actorOf_13 ?_
      refine lv_bipush (v := iI (((36 : Nat) : Int))) S.1 S.2.1 dX6_actorOf_16 (by decide) ?_
      refine lv_iload_n S.1 S.2.1 dX6_actorOf_18 rfl (lv_at hl 1 rfl) ?_
      refine zv_iadd (z := (((36 + rn) : Nat) : Int)) S dX6_actorOf_19 (by omega) ?_
      refine zv_iald S hAM hH 1 rfl ((36 + rn)) rfl (by omega) (by decide) dX6_actorOf_20 ?_
      refine lv_iconst (v := iI (-1)) S.1 S.2.1 dX6_actorOf_21 (by decide) ?_
      refine zv_icmp_ne (tgt := 31) S dX6_actorOf_22 (by decide) (hs.inRk _ (by omega)) (by decide) (fun c_22 => ?_) (fun c_22 => ?_)
      · skip
        refine lv_aload_n S.1 S.2.1 dX6_actorOf_31 rfl (lv_at hl 0 rfl) ?_
        refine zv_get (v := .ref (Q 0)) S hAM hH nX6_actorOf_X6 0 rfl rfl 0 (by decide) mX6_actorOf_1 rfl rfl dX6_actorOf_32 ?_
        refine lv_bipush (v := iI (((36 : Nat) : Int))) S.1 S.2.1 dX6_actorOf_35 (by decide) ?_
        refine lv_iload_n S.1 S.2.1 dX6_actorOf_37 rfl (lv_at hl 1 rfl) ?_
        refine zv_iadd (z := (((36 + rn) : Nat) : Int)) S dX6_actorOf_38 (by omega) ?_
        refine zv_iald S hAM hH 1 rfl ((36 + rn)) rfl (by omega) (by decide) dX6_actorOf_39 ?_
        exact hret 40 ls _ _ (s (36 + rn)) () dX6_actorOf_40 rfl (by (try simp only [Int.toNat_natCast]); (repeat' split) <;> first | rfl | (exfalso; omega) | omega) hH hS
      · skip
        refine lv_sipush (v := iI (-1004)) S.1 S.2.1 dX6_actorOf_25 (by decide) ?_
        refine lv_goto (tgt := 40) S.1 S.2.1 dX6_actorOf_28 (by decide) ?_
        exact hret 40 ls _ _ (-1004) () dX6_actorOf_40 rfl (by (try simp only [Int.toNat_natCast]); (repeat' split) <;> first | rfl | (exfalso; omega) | omega) hH hS
    · exact (show False by omega).elim
  · refine zv_top (z := 0) (z2 := ((0 : Nat) : Int)) rfl ?_
    refine zv_if_ne (tgt := 12) S dX6_actorOf_5 (by decide) (by decide) (fun c_5 => ?_) (fun c_5 => ?_)
    · exact (show False by omega).elim
    · skip
      refine lv_sipush (v := iI (-1001)) S.1 S.2.1 dX6_actorOf_8 (by decide) ?_
      exact hret 11 ls _ _ (-1001) () dX6_actorOf_11 rfl (by (try simp only [Int.toNat_natCast]); (repeat' split) <;> first | rfl | (exfalso; omega) | omega) hH hS

set_option maxHeartbeats 4000000 in
set_option maxRecDepth 100000 in
theorem kX6_rolesOf (l : Launch) (X : XT) (h : Nat) (Q : Nat → Nat) (s : Nat → Int) (rd : Nat → Int) (kp : Nat → Int) (km : Int) (tx : Nat → Int) (ln : Int) (sp : Int) (rs : Int) (wi : Nat → Int) (gi : Nat → Int) (r : Int) (hs : okR s) (hr : inR r) : Ci l yX6_rolesOf wsX6_rolesOf (rmD 3) X [.ref h, .int (iI (r))] [mO h Q km ln sp rs, aW X (Q 0) 125 s, aW X (Q 1) 125 rd, aW X (Q 2) 625 kp, aW X (Q 3) 400 tx, aW X (Q 4) 8 wi, aW X (Q 5) 8 gi] (fun (z : Int) (_ : Unit) => z = (if 0 ≤ r ∧ r ≤ 7 then ((cb s r (nr s) : Nat) : Int) else -1001)) (fun (_ : Unit) => [mO h Q km ln sp rs, aW X (Q 0) 125 s, aW X (Q 1) 125 rd, aW X (Q 2) 625 kp, aW X (Q 3) 400 tx, aW X (Q 4) 8 wi, aW X (Q 5) 8 gi]) := by
  refine Ci.ofW (cc := cX6_rolesOf) (maxL := 2) (by decide) rfl (Nat.le_of_ble_eq_true rfl) ?_
  intro p_ e_ s_ m_ below meth c_ A Q_ S hA hAM hH hS hret ls hl
  have hl : lv_has ls 2 [(0, .ref (h)), (1, .int (iI (r)))] := hl
  have hk1 := hs.nr8
  have hk2 := hs.na20
  have hk3 := hs.ns10
  refine lv_iload_n S.1 S.2.1 dX6_rolesOf_0 rfl (lv_at hl 1 rfl) ?_
  refine zc_Si (n := 1) (As := [.int (iI (r))]) (rest := []) S hAM hA (kX6_isActor l X r (by omega)) rfl gX6_rolesOf_X6_isActor  (by decide +kernel) ⟨Nat.le_of_ble_eq_true rfl, Nat.le_of_ble_eq_true rfl⟩ hH hS [0, 1, 2, 3, 4, 5, 6] rfl 7 rfl (List.Perm.refl _)  rfl hl.1 rfl (Nat.le_of_ble_eq_true rfl) dX6_rolesOf_1 ⟨Nat.le_of_ble_eq_true rfl, Nat.le_of_ble_eq_true rfl⟩ (fun z2 _ H locs hp3 hH hS => ?_)
  have hH : Hold X A [mO h Q km ln sp rs, aW X (Q 0) 125 s, aW X (Q 1) 125 rd, aW X (Q 2) 625 kp, aW X (Q 3) 400 tx, aW X (Q 4) 8 wi, aW X (Q 5) 8 gi].flatten H := hH
  rcases hp3 with ⟨rfl, b_1⟩ | ⟨rfl, b_1⟩
  · refine zv_top (z := 1) (z2 := ((1 : Nat) : Int)) rfl ?_
    refine zv_if_eq (tgt := 15) S dX6_rolesOf_4 (by decide) (by decide) (fun c_4 => ?_) (fun c_4 => ?_)
    · exact (show False by omega).elim
    · skip
      refine lv_aload_n S.1 S.2.1 dX6_rolesOf_7 rfl (lv_at hl 0 rfl) ?_
      refine lv_iload_n S.1 S.2.1 dX6_rolesOf_8 rfl (lv_at hl 1 rfl) ?_
      refine zc_Vi (n := 1) (As := [.int (iI (r))]) (rest := []) S hAM hA (kX6_castBy l X h Q s rd kp km tx ln sp rs wi gi r hs (by omega)) rfl gX6_rolesOf_X6_castBy  (by decide +kernel) ⟨Nat.le_of_ble_eq_true rfl, Nat.le_of_ble_eq_true rfl⟩ hH hS [0, 1, 2, 3, 4, 5, 6] rfl 7 rfl (List.Perm.refl _) 6 0 rfl rfl rfl hl.1 rfl (Nat.le_of_ble_eq_true rfl) dX6_rolesOf_9 ⟨Nat.le_of_ble_eq_true rfl, Nat.le_of_ble_eq_true rfl⟩ (fun z5 _ H locs hp6 hH hS => ?_)
      have hH : Hold X A [mO h Q km ln sp rs, aW X (Q 0) 125 s, aW X (Q 1) 125 rd, aW X (Q 2) 625 kp, aW X (Q 3) 400 tx, aW X (Q 4) 8 wi, aW X (Q 5) 8 gi].flatten H := hH
      obtain rfl := hp6
      refine lv_goto (tgt := 18) S.1 S.2.1 dX6_rolesOf_12 (by decide) ?_
      exact hret 18 ls _ _ (((cb s r (nr s) : Nat) : Int)) () dX6_rolesOf_18 rfl (by split <;> first | rfl | (exfalso; omega)) hH hS
  · refine zv_top (z := 0) (z2 := ((0 : Nat) : Int)) rfl ?_
    refine zv_if_eq (tgt := 15) S dX6_rolesOf_4 (by decide) (by decide) (fun c_4 => ?_) (fun c_4 => ?_)
    · skip
      refine lv_sipush (v := iI (-1001)) S.1 S.2.1 dX6_rolesOf_15 (by decide) ?_
      exact hret 18 ls _ _ (-1001) () dX6_rolesOf_18 rfl (by split <;> first | rfl | (exfalso; omega)) hH hS
    · exact (show False by omega).elim

theorem mX6_tightestChange_1 : Cond.constant RX6 155 (100000) ∈ wsX6_tightestChange := List.mem_of_getElem? (i := 1) rfl
theorem mX6_tightestChange_2 : Cond.fieldLink RX6 7 "RoleDoublingPlannerModel" "s" "[I" ∈ wsX6_tightestChange := List.mem_of_getElem? (i := 2) rfl
theorem nX6_tightestChange_X6 : ∀ w ∈ wsX60, w ∈ wsX6_tightestChange := fun _ h => List.mem_cons_of_mem _ (List.mem_append_right _ h)
set_option maxHeartbeats 4000000 in
set_option maxRecDepth 100000 in
theorem kX6_tightestChange (l : Launch) (X : XT) (h : Nat) (Q : Nat → Nat) (s : Nat → Int) (rd : Nat → Int) (kp : Nat → Int) (km : Int) (tx : Nat → Int) (ln : Int) (sp : Int) (rs : Int) (wi : Nat → Int) (gi : Nat → Int) (x : Int) (hs : okR s) (hx : inR x) : Ci l yX6_tightestChange wsX6_tightestChange (rmD 5) X [.ref h, .int (iI (x))] [mO h Q km ln sp rs, aW X (Q 0) 125 s, aW X (Q 1) 125 rd, aW X (Q 2) 625 kp, aW X (Q 3) 400 tx, aW X (Q 4) 8 wi, aW X (Q 5) 8 gi] (fun (z : Int) (_ : Unit) => z = tcF s x) (fun (_ : Unit) => [mO h Q km ln sp rs, aW X (Q 0) 125 s, aW X (Q 1) 125 rd, aW X (Q 2) 625 kp, aW X (Q 3) 400 tx, aW X (Q 4) 8 wi, aW X (Q 5) 8 gi]) := by
  refine Ci.ofW (cc := cX6_tightestChange) (maxL := 6) (by decide) rfl (Nat.le_of_ble_eq_true rfl) ?_
  intro p_ e_ s_ m_ below meth c_ A Q_ S hA hAM hH hS hret ls hl
  have hl : lv_has ls 6 [(0, .ref (h)), (1, .int (iI (x)))] := hl
  have hk1 := hs.nr8
  have hk2 := hs.na20
  have hk3 := hs.ns10
  refine lv_iload_n S.1 S.2.1 dX6_tightestChange_0 rfl (lv_at hl 1 rfl) ?_
  refine zc_Si (n := 1) (As := [.int (iI (x))]) (rest := []) S hAM hA (kX6_isActor l X x (by omega)) rfl gX6_tightestChange_X6_isActor  (by decide +kernel) ⟨Nat.le_of_ble_eq_true rfl, Nat.le_of_ble_eq_true rfl⟩ hH hS [0, 1, 2, 3, 4, 5, 6] rfl 7 rfl (List.Perm.refl _)  rfl hl.1 rfl (Nat.le_of_ble_eq_true rfl) dX6_tightestChange_1 ⟨Nat.le_of_ble_eq_true rfl, Nat.le_of_ble_eq_true rfl⟩ (fun z2 _ H locs hp3 hH hS => ?_)
  have hH : Hold X A [mO h Q km ln sp rs, aW X (Q 0) 125 s, aW X (Q 1) 125 rd, aW X (Q 2) 625 kp, aW X (Q 3) 400 tx, aW X (Q 4) 8 wi, aW X (Q 5) 8 gi].flatten H := hH
  rcases hp3 with ⟨rfl, b_1⟩ | ⟨rfl, b_1⟩
  · refine zv_top (z := 1) (z2 := ((1 : Nat) : Int)) rfl ?_
    refine zv_if_ne (tgt := 11) S dX6_tightestChange_4 (by decide) (by decide) (fun c_4 => ?_) (fun c_4 => ?_)
    · skip
      refine lv_ldc (v := iI (((100000 : Nat) : Int))) S.1 S.2.1 S.2.2.2.1 (zv_const S mX6_tightestChange_1 (by decide)) dX6_tightestChange_11 ?_
      refine lv_istore_n (lv' := [(2, .int (iI ((100000 : Nat) : Int))), (0, .ref (h)), (1, .int (iI (x)))]) S.1 S.2.1 dX6_tightestChange_13 rfl hl (by decide) rfl (fun ls hl => ?_)
      refine lv_iconst (v := iI (((0 : Nat) : Int))) S.1 S.2.1 dX6_tightestChange_14 (by decide) ?_
      refine lv_istore_n (lv' := [(3, .int (iI ((0 : Nat) : Int))), (2, .int (iI ((100000 : Nat) : Int))), (0, .ref (h)), (1, .int (iI (x)))]) S.1 S.2.1 dX6_tightestChange_15 rfl hl (by decide) rfl (fun ls hl => ?_)
      have lp16 : ∀ (n : Nat) (p : Nat) (y : Int), nr s - p < n → (p ≤ nr s) → (y = tcO s x p) → (-2000 ≤ y ∧ y ≤ 100000) → ∀ (H : Heap) (locs : List Loc), Hold X A [mO h Q km ln sp rs, aW X (Q 0) 125 s, aW X (Q 1) 125 rd, aW X (Q 2) 625 kp, aW X (Q 3) 400 tx, aW X (Q 4) 8 wi, aW X (Q 5) 8 gi].flatten H → va_S A s_.heap H locs → ∀ ls : Array Slot, lv_has ls 6 [(3, .int (iI ((p : Nat) : Int))), (2, .int (iI (y))), (0, .ref (h)), (1, .int (iI (x)))] → W p_ l e_ (rmD 5) s_ m_ (List.toArray [.ref (h), .int (iI (x))]) below meth c_ H locs 0 0 Q_ (F0 m_ 16 ls []) := by
        intro n
        induction n with
        | zero => intro p y hmu hi hset h1 H locs hH hS ls hl; exact absurd hmu (Nat.not_lt_zero _)
        | succ n ih16 => 
          intro p y hmu hi hset h1 H locs hH hS ls hl
          refine lv_iload_n S.1 S.2.1 dX6_tightestChange_16 rfl (lv_at hl 0 rfl) ?_
          refine lv_aload_n S.1 S.2.1 dX6_tightestChange_17 rfl (lv_at hl 2 rfl) ?_
          refine zv_get (v := .ref (Q 0)) S hAM hH nX6_tightestChange_X6 0 rfl rfl 0 (by decide) mX6_tightestChange_2 rfl rfl dX6_tightestChange_18 ?_
          refine lv_bipush (v := iI (((11 : Nat) : Int))) S.1 S.2.1 dX6_tightestChange_21 (by decide) ?_
          refine zv_iald S hAM hH 1 rfl (11) rfl (by decide) (by decide) dX6_tightestChange_23 ?_
          refine zv_top (z := s 11) (z2 := ((nr s : Nat) : Int)) hs.e11 ?_
          refine zv_icmp_ge (tgt := 97) S dX6_tightestChange_24 (by decide) (by omega) (by omega) (fun c_24 => ?_) (fun c_24 => ?_)
          · skip
            refine lv_iload_n S.1 S.2.1 dX6_tightestChange_97 rfl (lv_at hl 1 rfl) ?_
            refine lv_ldc (v := iI (((100000 : Nat) : Int))) S.1 S.2.1 S.2.2.2.1 (zv_const S mX6_tightestChange_1 (by decide)) dX6_tightestChange_98 ?_
            refine zv_icmp_ne (tgt := 109) S dX6_tightestChange_100 (by decide) (by omega) (by decide) (fun c_100 => ?_) (fun c_100 => ?_)
            · skip
              refine lv_iload_n S.1 S.2.1 dX6_tightestChange_109 rfl (lv_at hl 1 rfl) ?_
              exact hret 110 ls _ _ (y) () dX6_tightestChange_110 rfl (by have e9 : p = nr s := (by omega); rw [e9] at hset; unfold tcF; rw [if_pos (by omega)]; split <;> first | rfl | omega) hH hS
            · skip
              refine lv_sipush (v := iI (-1004)) S.1 S.2.1 dX6_tightestChange_103 (by decide) ?_
              refine lv_goto (tgt := 110) S.1 S.2.1 dX6_tightestChange_106 (by decide) ?_
              exact hret 110 ls _ _ (-1004) () dX6_tightestChange_110 rfl (by have e9 : p = nr s := (by omega); rw [e9] at hset; unfold tcF; rw [if_pos (by omega)]; split <;> first | rfl | omega) hH hS
          · skip
            refine lv_iconst (v := iI (((0 : Nat) : Int))) S.1 S.2.1 dX6_tightestChange_27 (by decide) ?_
            refine lv_istore (lv' := [(4, .int (iI ((0 : Nat) : Int))), (3, .int (iI ((p : Nat) : Int))), (2, .int (iI (y))), (0, .ref (h)), (1, .int (iI (x)))]) S.1 S.2.1 dX6_tightestChange_28 hl (by decide) rfl (fun ls hl => ?_)
            have lp30 : ∀ (n : Nat) (q : Nat) (w : Int), p - q < n → (q ≤ p) → (w = tcI s x p q (tcO s x p)) → (-2000 ≤ w ∧ w ≤ 100000) → ∀ (H : Heap) (locs : List Loc), Hold X A [mO h Q km ln sp rs, aW X (Q 0) 125 s, aW X (Q 1) 125 rd, aW X (Q 2) 625 kp, aW X (Q 3) 400 tx, aW X (Q 4) 8 wi, aW X (Q 5) 8 gi].flatten H → va_S A s_.heap H locs → ∀ ls : Array Slot, lv_has ls 6 [(4, .int (iI ((q : Nat) : Int))), (3, .int (iI ((p : Nat) : Int))), (2, .int (iI (w))), (0, .ref (h)), (1, .int (iI (x)))] → W p_ l e_ (rmD 5) s_ m_ (List.toArray [.ref (h), .int (iI (x))]) below meth c_ H locs 0 0 Q_ (F0 m_ 30 ls []) := by
              intro n
              induction n with
              | zero => intro q w hmu hj hset2 h2 H locs hH hS ls hl; exact absurd hmu (Nat.not_lt_zero _)
              | succ n ih30 => 
                intro q w hmu hj hset2 h2 H locs hH hS ls hl
                refine lv_iload S.1 S.2.1 dX6_tightestChange_30 (lv_at hl 0 rfl) ?_
                refine lv_iload_n S.1 S.2.1 dX6_tightestChange_32 rfl (lv_at hl 1 rfl) ?_
                refine zv_icmp_ge (tgt := 91) S dX6_tightestChange_33 (by decide) (by omega) (by omega) (fun c_33 => ?_) (fun c_33 => ?_)
                · skip
                  refine zv_iinc (z := (((p + 1) : Nat) : Int)) (lv' := [(3, .int (iI (((p + 1) : Nat) : Int))), (4, .int (iI ((q : Nat) : Int))), (2, .int (iI (w))), (0, .ref (h)), (1, .int (iI (x)))]) S dX6_tightestChange_91 hl (k := 1) rfl (by omega) (by decide) rfl (fun ls hl => ?_)
                  refine lv_goto (tgt := 16) S.1 S.2.1 dX6_tightestChange_94 (by decide) ?_
                  exact ih16  ((p + 1)) (w) (by omega) (by omega) (by have e9 : q = p := (by omega); rw [hset2, e9]; rfl) (by omega) _ _ hH hS ls (lv_sub hl [0, 2, 3, 4] rfl)
                · skip
                  have hK1 := hs.skB p q (by omega) (by omega)
                  refine lv_aload_n S.1 S.2.1 dX6_tightestChange_36 rfl (lv_at hl 3 rfl) ?_
                  refine zv_get (v := .ref (Q 0)) S hAM hH nX6_tightestChange_X6 0 rfl rfl 0 (by decide) mX6_tightestChange_2 rfl rfl dX6_tightestChange_37 ?_
                  refine lv_bipush (v := iI (((36 : Nat) : Int))) S.1 S.2.1 dX6_tightestChange_40 (by decide) ?_
                  refine lv_iload_n S.1 S.2.1 dX6_tightestChange_42 rfl (lv_at hl 1 rfl) ?_
                  refine zv_iadd (z := (((36 + p) : Nat) : Int)) S dX6_tightestChange_43 (by omega) ?_
                  refine zv_iald S hAM hH 1 rfl ((36 + p)) rfl (by omega) (by decide) dX6_tightestChange_44 ?_
                  refine lv_iload_n S.1 S.2.1 dX6_tightestChange_45 rfl (lv_at hl 4 rfl) ?_
                  refine zv_icmp_ne (tgt := 85) S dX6_tightestChange_46 (by decide) (hs.inRk _ (by omega)) (by omega) (fun c_46 => ?_) (fun c_46 => ?_)
                  · skip
                    refine zv_iinc (z := (((q + 1) : Nat) : Int)) (lv' := [(4, .int (iI (((q + 1) : Nat) : Int))), (3, .int (iI ((p : Nat) : Int))), (2, .int (iI (w))), (0, .ref (h)), (1, .int (iI (x)))]) S dX6_tightestChange_85 hl (k := 0) rfl (by omega) (by decide) rfl (fun ls hl => ?_)
                    refine lv_goto (tgt := 30) S.1 S.2.1 dX6_tightestChange_88 (by decide) ?_
                    exact ih30  ((q + 1)) (w) (by omega) (by omega) (by rw [tcI]; split <;> first | rfl | (rw [hset2]; done) | (exfalso; omega)) (by omega) _ _ hH hS ls (lv_sub hl [0, 1, 2, 3, 4] rfl)
                  · skip
                    refine lv_aload_n S.1 S.2.1 dX6_tightestChange_49 rfl (lv_at hl 3 rfl) ?_
                    refine zv_get (v := .ref (Q 0)) S hAM hH nX6_tightestChange_X6 0 rfl rfl 0 (by decide) mX6_tightestChange_2 rfl rfl dX6_tightestChange_50 ?_
                    refine lv_bipush (v := iI (((36 : Nat) : Int))) S.1 S.2.1 dX6_tightestChange_53 (by decide) ?_
                    refine lv_iload S.1 S.2.1 dX6_tightestChange_55 (lv_at hl 0 rfl) ?_
                    refine zv_iadd (z := (((36 + q) : Nat) : Int)) S dX6_tightestChange_57 (by omega) ?_
                    refine zv_iald S hAM hH 1 rfl ((36 + q)) rfl (by omega) (by decide) dX6_tightestChange_58 ?_
                    refine lv_iload_n S.1 S.2.1 dX6_tightestChange_59 rfl (lv_at hl 4 rfl) ?_
                    refine zv_icmp_ne (tgt := 85) S dX6_tightestChange_60 (by decide) (hs.inRk _ (by omega)) (by omega) (fun c_60 => ?_) (fun c_60 => ?_)
                    · skip
                      refine zv_iinc (z := (((q + 1) : Nat) : Int)) (lv' := [(4, .int (iI (((q + 1) : Nat) : Int))), (3, .int (iI ((p : Nat) : Int))), (2, .int (iI (w))), (0, .ref (h)), (1, .int (iI (x)))]) S dX6_tightestChange_85 hl (k := 0) rfl (by omega) (by decide) rfl (fun ls hl => ?_)
                      refine lv_goto (tgt := 30) S.1 S.2.1 dX6_tightestChange_88 (by decide) ?_
                      exact ih30  ((q + 1)) (w) (by omega) (by omega) (by rw [tcI]; split <;> first | rfl | (rw [hset2]; done) | (exfalso; omega)) (by omega) _ _ hH hS ls (lv_sub hl [0, 1, 2, 3, 4] rfl)
                    · skip
                      refine lv_aload_n S.1 S.2.1 dX6_tightestChange_63 rfl (lv_at hl 3 rfl) ?_
                      refine lv_iload_n S.1 S.2.1 dX6_tightestChange_64 rfl (lv_at hl 1 rfl) ?_
                      refine lv_iload S.1 S.2.1 dX6_tightestChange_65 (lv_at hl 0 rfl) ?_
                      refine zc_Vi (n := 2) (As := [.int (iI ((p : Nat) : Int)), .int (iI ((q : Nat) : Int))]) (rest := []) S hAM hA (kX6_slackOf l X h Q s rd kp km tx ln sp rs wi gi p q hs (by omega) (by omega)) rfl gX6_tightestChange_X6_slackOf  (by decide +kernel) ⟨Nat.le_of_ble_eq_true rfl, Nat.le_of_ble_eq_true rfl⟩ hH hS [0, 1, 2, 3, 4, 5, 6] rfl 7 rfl (List.Perm.refl _) 6 0 rfl rfl rfl hl.1 rfl (Nat.le_of_ble_eq_true rfl) dX6_tightestChange_67 ⟨Nat.le_of_ble_eq_true rfl, Nat.le_of_ble_eq_true rfl⟩ (fun z5 _ H locs hp6 hH hS => ?_)
                      have hH : Hold X A [mO h Q km ln sp rs, aW X (Q 0) 125 s, aW X (Q 1) 125 rd, aW X (Q 2) 625 kp, aW X (Q 3) 400 tx, aW X (Q 4) 8 wi, aW X (Q 5) 8 gi].flatten H := hH
                      obtain rfl := hp6
                      refine lv_istore (lv' := [(5, .int (iI (skO s p q))), (4, .int (iI ((q : Nat) : Int))), (3, .int (iI ((p : Nat) : Int))), (2, .int (iI (w))), (0, .ref (h)), (1, .int (iI (x)))]) S.1 S.2.1 dX6_tightestChange_70 hl (by decide) rfl (fun ls hl => ?_)
                      refine lv_iload S.1 S.2.1 dX6_tightestChange_72 (lv_at hl 0 rfl) ?_
                      refine lv_iload_n S.1 S.2.1 dX6_tightestChange_74 rfl (lv_at hl 3 rfl) ?_
                      refine zv_icmp_ge (tgt := 83) S dX6_tightestChange_75 (by decide) (by have := hs.skB p q (by omega) (by omega); omega) (by omega) (fun c_75 => ?_) (fun c_75 => ?_)
                      · skip
                        refine lv_iload_n S.1 S.2.1 dX6_tightestChange_83 rfl (lv_at hl 3 rfl) ?_
                        refine lv_istore_n (lv' := [(2, .int (iI (w))), (5, .int (iI (skO s p q))), (4, .int (iI ((q : Nat) : Int))), (3, .int (iI ((p : Nat) : Int))), (0, .ref (h)), (1, .int (iI (x)))]) S.1 S.2.1 dX6_tightestChange_84 rfl hl (by decide) rfl (fun ls hl => ?_)
                        refine zv_iinc (z := (((q + 1) : Nat) : Int)) (lv' := [(4, .int (iI (((q + 1) : Nat) : Int))), (2, .int (iI (w))), (5, .int (iI (skO s p q))), (3, .int (iI ((p : Nat) : Int))), (0, .ref (h)), (1, .int (iI (x)))]) S dX6_tightestChange_85 hl (k := 2) rfl (by omega) (by decide) rfl (fun ls hl => ?_)
                        refine lv_goto (tgt := 30) S.1 S.2.1 dX6_tightestChange_88 (by decide) ?_
                        exact ih30  ((q + 1)) (w) (by omega) (by omega) (by rw [tcI]; split <;> first | rfl | (rw [hset2]; done) | (exfalso; omega)) (by omega) _ _ hH hS ls (lv_sub hl [0, 3, 1, 4, 5] rfl)
                      · skip
                        refine lv_iload S.1 S.2.1 dX6_tightestChange_78 (lv_at hl 0 rfl) ?_
                        refine lv_goto (tgt := 84) S.1 S.2.1 dX6_tightestChange_80 (by decide) ?_
                        refine lv_istore_n (lv' := [(2, .int (iI (skO s p q))), (5, .int (iI (skO s p q))), (4, .int (iI ((q : Nat) : Int))), (3, .int (iI ((p : Nat) : Int))), (0, .ref (h)), (1, .int (iI (x)))]) S.1 S.2.1 dX6_tightestChange_84 rfl hl (by decide) rfl (fun ls hl => ?_)
                        refine zv_iinc (z := (((q + 1) : Nat) : Int)) (lv' := [(4, .int (iI (((q + 1) : Nat) : Int))), (2, .int (iI (skO s p q))), (5, .int (iI (skO s p q))), (3, .int (iI ((p : Nat) : Int))), (0, .ref (h)), (1, .int (iI (x)))]) S dX6_tightestChange_85 hl (k := 2) rfl (by omega) (by decide) rfl (fun ls hl => ?_)
                        refine lv_goto (tgt := 30) S.1 S.2.1 dX6_tightestChange_88 (by decide) ?_
                        exact ih30  ((q + 1)) (skO s p q) (by omega) (by omega) (by rw [tcI]; split <;> first | rfl | (rw [hset2]; done) | (exfalso; omega)) (by omega) _ _ hH hS ls (lv_sub hl [0, 3, 1, 4, 5] rfl)
            exact lp30 (p - (0) + 1) (0) (y) (Nat.lt_succ_self _) (Nat.zero_le _) (by rw [hset]; rfl) (by omega) _ _ hH hS ls (lv_sub hl [0, 1, 2, 3, 4] rfl)
      exact lp16 (nr s - (0) + 1) (0) (((100000 : Nat) : Int)) (Nat.lt_succ_self _) (Nat.zero_le _) rfl (by omega) _ _ hH hS ls (lv_sub hl [0, 1, 2, 3] rfl)
    · exact (show False by omega).elim
  · refine zv_top (z := 0) (z2 := ((0 : Nat) : Int)) rfl ?_
    refine zv_if_ne (tgt := 11) S dX6_tightestChange_4 (by decide) (by decide) (fun c_4 => ?_) (fun c_4 => ?_)
    · exact (show False by omega).elim
    · skip
      refine lv_sipush (v := iI (-1001)) S.1 S.2.1 dX6_tightestChange_7 (by decide) ?_
      exact hret 10 ls _ _ (-1001) () dX6_tightestChange_10 rfl (by unfold tcF; rw [if_neg (by omega)]) hH hS

theorem mX6_mayHave_1 : Cond.fieldLink RX6 25 "RoleDoublingPlannerModel" "given" "[I" ∈ wsX6_mayHave := List.mem_of_getElem? (i := 1) rfl
theorem nX6_mayHave_X6 : ∀ w ∈ wsX60, w ∈ wsX6_mayHave := fun _ h => List.mem_cons_of_mem _ (List.mem_append_right _ h)
theorem mX6_mayHave_2 : Cond.fieldLink RX6 22 "RoleDoublingPlannerModel" "with" "[I" ∈ wsX6_mayHave := List.mem_of_getElem? (i := 2) rfl
set_option maxHeartbeats 4000000 in
set_option maxRecDepth 100000 in
theorem kX6_mayHave (l : Launch) (X : XT) (h : Nat) (Q : Nat → Nat) (s : Nat → Int) (rd : Nat → Int) (kp : Nat → Int) (km : Int) (tx : Nat → Int) (ln : Int) (sp : Int) (rs : Int) (wi : Nat → Int) (gi : Nat → Int) (r : Nat) (x : Int) (m : Nat) (hr : r < 8) (hx : inR x) (hm : wi r = ((m : Nat) : Int)) (hm2 : m < 256) (hg : ∀ k, k < 8 → inR (gi k)) : Ci l yX6_mayHave wsX6_mayHave (rmD 1) X [.ref h, .int (iI ((r : Nat) : Int)), .int (iI (x))] [mO h Q km ln sp rs, aW X (Q 0) 125 s, aW X (Q 1) 125 rd, aW X (Q 2) 625 kp, aW X (Q 3) 400 tx, aW X (Q 4) 8 wi, aW X (Q 5) 8 gi] (fun (z : Int) (_ : Unit) => (z = 1 ∧ (mhI gi m x r ≠ 0)) ∨ (z = 0 ∧ ¬ (mhI gi m x r ≠ 0))) (fun (_ : Unit) => [mO h Q km ln sp rs, aW X (Q 0) 125 s, aW X (Q 1) 125 rd, aW X (Q 2) 625 kp, aW X (Q 3) 400 tx, aW X (Q 4) 8 wi, aW X (Q 5) 8 gi]) := by
  refine Ci.ofW (cc := cX6_mayHave) (maxL := 5) (by decide) rfl (Nat.le_of_ble_eq_true rfl) ?_
  intro p_ e_ s_ m_ below meth c_ A Q_ S hA hAM hH hS hret ls hl
  have hl : lv_has ls 5 [(0, .ref (h)), (1, .int (iI ((r : Nat) : Int))), (2, .int (iI (x)))] := hl
  refine lv_iconst (v := iI (((1 : Nat) : Int))) S.1 S.2.1 dX6_mayHave_0 (by decide) ?_
  refine lv_istore_n (lv' := [(3, .int (iI ((1 : Nat) : Int))), (0, .ref (h)), (1, .int (iI ((r : Nat) : Int))), (2, .int (iI (x)))]) S.1 S.2.1 dX6_mayHave_1 rfl hl (by decide) rfl (fun ls hl => ?_)
  refine lv_iconst (v := iI (((0 : Nat) : Int))) S.1 S.2.1 dX6_mayHave_2 (by decide) ?_
  refine lv_istore (lv' := [(4, .int (iI ((0 : Nat) : Int))), (3, .int (iI ((1 : Nat) : Int))), (0, .ref (h)), (1, .int (iI ((r : Nat) : Int))), (2, .int (iI (x)))]) S.1 S.2.1 dX6_mayHave_3 hl (by decide) rfl (fun ls hl => ?_)
  have lp5 : ∀ (n : Nat) (p : Nat) (is : Nat), r - p < n → (p ≤ r) → (is = mhI gi m x p) → (is ≤ 1) → ∀ (H : Heap) (locs : List Loc), Hold X A [mO h Q km ln sp rs, aW X (Q 0) 125 s, aW X (Q 1) 125 rd, aW X (Q 2) 625 kp, aW X (Q 3) 400 tx, aW X (Q 4) 8 wi, aW X (Q 5) 8 gi].flatten H → va_S A s_.heap H locs → ∀ ls : Array Slot, lv_has ls 5 [(4, .int (iI ((p : Nat) : Int))), (3, .int (iI ((is : Nat) : Int))), (0, .ref (h)), (1, .int (iI ((r : Nat) : Int))), (2, .int (iI (x)))] → W p_ l e_ (rmD 1) s_ m_ (List.toArray [.ref (h), .int (iI ((r : Nat) : Int)), .int (iI (x))]) below meth c_ H locs 0 0 Q_ (F0 m_ 5 ls []) := by
    intro n
    induction n with
    | zero => intro p is hmu hi hset h1 H locs hH hS ls hl; exact absurd hmu (Nat.not_lt_zero _)
    | succ n ih5 => 
      intro p is hmu hi hset h1 H locs hH hS ls hl
      refine lv_iload S.1 S.2.1 dX6_mayHave_5 (lv_at hl 0 rfl) ?_
      refine lv_iload_n S.1 S.2.1 dX6_mayHave_7 rfl (lv_at hl 3 rfl) ?_
      refine zv_icmp_ge (tgt := 52) S dX6_mayHave_8 (by decide) (by omega) (by omega) (fun c_8 => ?_) (fun c_8 => ?_)
      · skip
        refine lv_iload_n S.1 S.2.1 dX6_mayHave_52 rfl (lv_at hl 1 rfl) ?_
        exact hret 53 ls _ _ (((is : Nat) : Int)) () dX6_mayHave_53 (nar_b h1) (by have e9 : p = r := (by omega); rw [e9] at hset; omega) hH hS
      · skip
        refine lv_iload_n S.1 S.2.1 dX6_mayHave_11 rfl (lv_at hl 1 rfl) ?_
        refine zv_if_eq (tgt := 44) S dX6_mayHave_12 (by decide) (by omega) (fun c_12 => ?_) (fun c_12 => ?_)
        · skip
          refine lv_iconst (v := iI (((0 : Nat) : Int))) S.1 S.2.1 dX6_mayHave_44 (by decide) ?_
          refine lv_istore_n (lv' := [(3, .int (iI ((0 : Nat) : Int))), (4, .int (iI ((p : Nat) : Int))), (0, .ref (h)), (1, .int (iI ((r : Nat) : Int))), (2, .int (iI (x)))]) S.1 S.2.1 dX6_mayHave_45 rfl hl (by decide) rfl (fun ls hl => ?_)
          refine zv_iinc (z := (((p + 1) : Nat) : Int)) (lv' := [(4, .int (iI (((p + 1) : Nat) : Int))), (3, .int (iI ((0 : Nat) : Int))), (0, .ref (h)), (1, .int (iI ((r : Nat) : Int))), (2, .int (iI (x)))]) S dX6_mayHave_46 hl (k := 1) rfl (by omega) (by decide) rfl (fun ls hl => ?_)
          refine lv_goto (tgt := 5) S.1 S.2.1 dX6_mayHave_49 (by decide) ?_
          exact ih5  ((p + 1)) (0) (by omega) (by omega) (by rw [mhI]; split <;> first | rfl | (exfalso; omega)) (by omega) _ _ hH hS ls (lv_sub hl [0, 1, 2, 3, 4] rfl)
        · skip
          refine lv_aload_n S.1 S.2.1 dX6_mayHave_15 rfl (lv_at hl 2 rfl) ?_
          refine zv_get (v := .ref (Q 5)) S hAM hH nX6_mayHave_X6 0 rfl rfl 9 (by decide) mX6_mayHave_1 rfl rfl dX6_mayHave_16 ?_
          refine lv_iload S.1 S.2.1 dX6_mayHave_19 (lv_at hl 0 rfl) ?_
          refine zv_iald S hAM hH 6 rfl (p) rfl (by omega) (by decide) dX6_mayHave_21 ?_
          refine lv_iload_n S.1 S.2.1 dX6_mayHave_22 rfl (lv_at hl 4 rfl) ?_
          refine zv_icmp_ne (tgt := 40) S dX6_mayHave_23 (by decide) (hg _ (by omega)) (by omega) (fun c_23 => ?_) (fun c_23 => ?_)
          · skip
            refine lv_iconst (v := iI (((1 : Nat) : Int))) S.1 S.2.1 dX6_mayHave_40 (by decide) ?_
            refine lv_goto (tgt := 45) S.1 S.2.1 dX6_mayHave_41 (by decide) ?_
            refine lv_istore_n (lv' := [(3, .int (iI ((1 : Nat) : Int))), (4, .int (iI ((p : Nat) : Int))), (0, .ref (h)), (1, .int (iI ((r : Nat) : Int))), (2, .int (iI (x)))]) S.1 S.2.1 dX6_mayHave_45 rfl hl (by decide) rfl (fun ls hl => ?_)
            refine zv_iinc (z := (((p + 1) : Nat) : Int)) (lv' := [(4, .int (iI (((p + 1) : Nat) : Int))), (3, .int (iI ((1 : Nat) : Int))), (0, .ref (h)), (1, .int (iI ((r : Nat) : Int))), (2, .int (iI (x)))]) S dX6_mayHave_46 hl (k := 1) rfl (by omega) (by decide) rfl (fun ls hl => ?_)
            refine lv_goto (tgt := 5) S.1 S.2.1 dX6_mayHave_49 (by decide) ?_
            exact ih5  ((p + 1)) (1) (by omega) (by omega) (by rw [mhI]; split <;> first | rfl | (exfalso; omega)) (by omega) _ _ hH hS ls (lv_sub hl [0, 1, 2, 3, 4] rfl)
          · skip
            refine lv_aload_n S.1 S.2.1 dX6_mayHave_26 rfl (lv_at hl 2 rfl) ?_
            refine zv_get (v := .ref (Q 4)) S hAM hH nX6_mayHave_X6 0 rfl rfl 8 (by decide) mX6_mayHave_2 rfl rfl dX6_mayHave_27 ?_
            refine lv_iload_n S.1 S.2.1 dX6_mayHave_30 rfl (lv_at hl 3 rfl) ?_
            refine zv_iald S hAM hH 5 rfl (r) rfl (by omega) (by decide) dX6_mayHave_31 ?_
            refine zv_top (z := wi r) (z2 := ((m : Nat) : Int)) hm ?_
            refine lv_iload S.1 S.2.1 dX6_mayHave_32 (lv_at hl 0 rfl) ?_
            refine zv_ishr (z := (((m / 2 ^ p) : Nat) : Int)) S dX6_mayHave_34 (iI_shr0 _ _ (by omega) (by omega)) ?_
            refine lv_iconst (v := iI (((1 : Nat) : Int))) S.1 S.2.1 dX6_mayHave_35 (by decide) ?_
            refine zv_iand (z := ((((m / 2 ^ p) % 2) : Nat) : Int)) S dX6_mayHave_36 (iI_and1 _) ?_
            refine zv_if_ne (tgt := 44) S dX6_mayHave_37 (by decide) (by omega) (fun c_37 => ?_) (fun c_37 => ?_)
            · skip
              refine lv_iconst (v := iI (((0 : Nat) : Int))) S.1 S.2.1 dX6_mayHave_44 (by decide) ?_
              refine lv_istore_n (lv' := [(3, .int (iI ((0 : Nat) : Int))), (4, .int (iI ((p : Nat) : Int))), (0, .ref (h)), (1, .int (iI ((r : Nat) : Int))), (2, .int (iI (x)))]) S.1 S.2.1 dX6_mayHave_45 rfl hl (by decide) rfl (fun ls hl => ?_)
              refine zv_iinc (z := (((p + 1) : Nat) : Int)) (lv' := [(4, .int (iI (((p + 1) : Nat) : Int))), (3, .int (iI ((0 : Nat) : Int))), (0, .ref (h)), (1, .int (iI ((r : Nat) : Int))), (2, .int (iI (x)))]) S dX6_mayHave_46 hl (k := 1) rfl (by omega) (by decide) rfl (fun ls hl => ?_)
              refine lv_goto (tgt := 5) S.1 S.2.1 dX6_mayHave_49 (by decide) ?_
              exact ih5  ((p + 1)) (0) (by omega) (by omega) (by rw [mhI]; split <;> first | rfl | (exfalso; omega)) (by omega) _ _ hH hS ls (lv_sub hl [0, 1, 2, 3, 4] rfl)
            · skip
              refine lv_iconst (v := iI (((1 : Nat) : Int))) S.1 S.2.1 dX6_mayHave_40 (by decide) ?_
              refine lv_goto (tgt := 45) S.1 S.2.1 dX6_mayHave_41 (by decide) ?_
              refine lv_istore_n (lv' := [(3, .int (iI ((1 : Nat) : Int))), (4, .int (iI ((p : Nat) : Int))), (0, .ref (h)), (1, .int (iI ((r : Nat) : Int))), (2, .int (iI (x)))]) S.1 S.2.1 dX6_mayHave_45 rfl hl (by decide) rfl (fun ls hl => ?_)
              refine zv_iinc (z := (((p + 1) : Nat) : Int)) (lv' := [(4, .int (iI (((p + 1) : Nat) : Int))), (3, .int (iI ((1 : Nat) : Int))), (0, .ref (h)), (1, .int (iI ((r : Nat) : Int))), (2, .int (iI (x)))]) S dX6_mayHave_46 hl (k := 1) rfl (by omega) (by decide) rfl (fun ls hl => ?_)
              refine lv_goto (tgt := 5) S.1 S.2.1 dX6_mayHave_49 (by decide) ?_
              exact ih5  ((p + 1)) (1) (by omega) (by omega) (by rw [mhI]; split <;> first | rfl | (exfalso; omega)) (by omega) _ _ hH hS ls (lv_sub hl [0, 1, 2, 3, 4] rfl)
  exact lp5 (r - (0) + 1) (0) (1) (Nat.lt_succ_self _) (Nat.zero_le _) rfl (by omega) _ _ hH hS ls (lv_sub hl [0, 1, 2, 3, 4] rfl)
