theorem mX6_cliqueNumber_1 : Cond.fieldLink RX6 7 "RoleDoublingPlannerModel" "s" "[I" ∈ wsX6_cliqueNumber := List.mem_of_getElem? (i := 1) rfl
theorem nX6_cliqueNumber_X6 : ∀ w ∈ wsX60, w ∈ wsX6_cliqueNumber := fun _ h => List.mem_cons_of_mem _ (List.mem_append_right _ h)
theorem mX6_cliqueNumber_2 : Cond.fieldLink RX6 22 "RoleDoublingPlannerModel" "with" "[I" ∈ wsX6_cliqueNumber := List.mem_of_getElem? (i := 2) rfl
set_option maxHeartbeats 4000000 in
set_option maxRecDepth 100000 in
theorem kX6_cliqueNumber (l : Launch) (X : XT) (h : Nat) (Q : Nat → Nat) (s : Nat → Int) (rd : Nat → Int) (kp : Nat → Int) (km : Int) (tx : Nat → Int) (ln : Int) (sp : Int) (rs : Int) (wi : Nat → Int) (gi : Nat → Int) (hs : okR s) : Ci l yX6_cliqueNumber wsX6_cliqueNumber (rmD 6) X [.ref h] [mO h Q km ln sp rs, aW X (Q 0) 125 s, aW X (Q 1) 125 rd, aW X (Q 2) 625 kp, aW X (Q 3) 400 tx, aW X (Q 4) 8 wi, aW X (Q 5) 8 gi] (fun (z : Int) (_ : Unit) => z = ((clM s (2 ^ nr s) : Nat) : Int)) (fun (_ : Unit) => [mO h Q km ln sp rs, aW X (Q 0) 125 s, aW X (Q 1) 125 rd, aW X (Q 2) 625 kp, aW X (Q 3) 400 tx, aW X (Q 4) 8 (wiF s 0 wi), aW X (Q 5) 8 gi]) := by
  refine Ci.ofW (cc := cX6_cliqueNumber) (maxL := 5) (by decide) rfl (Nat.le_of_ble_eq_true rfl) ?_
  intro p_ e_ s_ m_ below meth c_ A Q_ S hA hAM hH hS hret ls hl
  have hl : lv_has ls 5 [(0, .ref (h))] := hl
  have hk1 := hs.nr8
  have hk2 := hs.na20
  have hk3 := hs.ns10
  have hP : 2 ^ nr s ≤ 256 := Nat.le_trans (Nat.pow_le_pow_right (by omega) hk1) (by decide)
  refine lv_aload_n S.1 S.2.1 dX6_cliqueNumber_0 rfl (lv_at hl 0 rfl) ?_
  refine lv_iconst (v := iI (((0 : Nat) : Int))) S.1 S.2.1 dX6_cliqueNumber_1 (by decide) ?_
  refine zc_Vv (n := 1) (As := [.int (iI ((0 : Nat) : Int))]) (rest := []) S hAM hA (kX6_layConflicts l X h Q s rd kp km tx ln sp rs wi gi 0 hs (by omega)) rfl gX6_cliqueNumber_X6_layConflicts  (by decide +kernel) ⟨Nat.le_of_ble_eq_true rfl, Nat.le_of_ble_eq_true rfl⟩ hH hS [0, 1, 2, 3, 4, 5, 6] rfl 7 rfl (List.Perm.refl _) 6 0 rfl rfl rfl hl.1 rfl (Nat.le_of_ble_eq_true rfl) dX6_cliqueNumber_2 ⟨Nat.le_of_ble_eq_true rfl, Nat.le_of_ble_eq_true rfl⟩ (fun _ H locs hp3 hH hS => ?_)
  have hH : Hold X A [mO h Q km ln sp rs, aW X (Q 0) 125 s, aW X (Q 1) 125 rd, aW X (Q 2) 625 kp, aW X (Q 3) 400 tx, aW X (Q 4) 8 (wiF s 0 wi), aW X (Q 5) 8 gi].flatten H := hH
  refine lv_iconst (v := iI (((0 : Nat) : Int))) S.1 S.2.1 dX6_cliqueNumber_5 (by decide) ?_
  refine lv_istore_n (lv' := [(1, .int (iI ((0 : Nat) : Int))), (0, .ref (h))]) S.1 S.2.1 dX6_cliqueNumber_6 rfl hl (by decide) rfl (fun ls hl => ?_)
  refine lv_iconst (v := iI (((0 : Nat) : Int))) S.1 S.2.1 dX6_cliqueNumber_7 (by decide) ?_
  refine lv_istore_n (lv' := [(2, .int (iI ((0 : Nat) : Int))), (1, .int (iI ((0 : Nat) : Int))), (0, .ref (h))]) S.1 S.2.1 dX6_cliqueNumber_8 rfl hl (by decide) rfl (fun ls hl => ?_)
  have lp9 : ∀ (n : Nat) (x : Nat) (most : Nat), 2 ^ nr s - x < n → (x ≤ 2 ^ nr s) → (most = clM s x) → (most ≤ 8) → ∀ (H : Heap) (locs : List Loc), Hold X A [mO h Q km ln sp rs, aW X (Q 0) 125 s, aW X (Q 1) 125 rd, aW X (Q 2) 625 kp, aW X (Q 3) 400 tx, aW X (Q 4) 8 (wiF s 0 wi), aW X (Q 5) 8 gi].flatten H → va_S A s_.heap H locs → ∀ ls : Array Slot, lv_has ls 5 [(2, .int (iI ((x : Nat) : Int))), (1, .int (iI ((most : Nat) : Int))), (0, .ref (h))] → W p_ l e_ (rmD 6) s_ m_ (List.toArray [.ref (h)]) below meth c_ H locs 0 0 Q_ (F0 m_ 9 ls []) := by
    intro n
    induction n with
    | zero => intro x most hmu hi hset h1 H locs hH hS ls hl; exact absurd hmu (Nat.not_lt_zero _)
    | succ n ih9 => 
      intro x most hmu hi hset h1 H locs hH hS ls hl
      refine lv_iload_n S.1 S.2.1 dX6_cliqueNumber_9 rfl (lv_at hl 0 rfl) ?_
      refine lv_iconst (v := iI (((1 : Nat) : Int))) S.1 S.2.1 dX6_cliqueNumber_10 (by decide) ?_
      refine lv_aload_n S.1 S.2.1 dX6_cliqueNumber_11 rfl (lv_at hl 2 rfl) ?_
      refine zv_get (v := .ref (Q 0)) S hAM hH nX6_cliqueNumber_X6 0 rfl rfl 0 (by decide) mX6_cliqueNumber_1 rfl rfl dX6_cliqueNumber_12 ?_
      refine lv_bipush (v := iI (((11 : Nat) : Int))) S.1 S.2.1 dX6_cliqueNumber_15 (by decide) ?_
      refine zv_iald S hAM hH 1 rfl (11) rfl (by decide) (by decide) dX6_cliqueNumber_17 ?_
      refine zv_top (z := s 11) (z2 := ((nr s : Nat) : Int)) hs.e11 ?_
      refine zv_ishl (z := (((2 ^ (nr s)) : Nat) : Int)) S dX6_cliqueNumber_18 (iI_shl1 _ (by omega)) ?_
      refine zv_icmp_ge (tgt := 109) S dX6_cliqueNumber_19 (by decide) (by omega) (by omega) (fun c_19 => ?_) (fun c_19 => ?_)
      · skip
        refine lv_iload_n S.1 S.2.1 dX6_cliqueNumber_109 rfl (lv_at hl 1 rfl) ?_
        exact hret 110 ls _ _ (((most : Nat) : Int)) () dX6_cliqueNumber_110 rfl (by have e9 : x = 2 ^ nr s := (by omega); rw [hset, e9]) hH hS
      · skip
        refine lv_iconst (v := iI (((1 : Nat) : Int))) S.1 S.2.1 dX6_cliqueNumber_22 (by decide) ?_
        refine lv_istore_n (lv' := [(3, .int (iI ((1 : Nat) : Int))), (2, .int (iI ((x : Nat) : Int))), (1, .int (iI ((most : Nat) : Int))), (0, .ref (h))]) S.1 S.2.1 dX6_cliqueNumber_23 rfl hl (by decide) rfl (fun ls hl => ?_)
        refine lv_iconst (v := iI (((0 : Nat) : Int))) S.1 S.2.1 dX6_cliqueNumber_24 (by decide) ?_
        refine lv_istore (lv' := [(4, .int (iI ((0 : Nat) : Int))), (3, .int (iI ((1 : Nat) : Int))), (2, .int (iI ((x : Nat) : Int))), (1, .int (iI ((most : Nat) : Int))), (0, .ref (h))]) S.1 S.2.1 dX6_cliqueNumber_25 hl (by decide) rfl (fun ls hl => ?_)
        have lp27 : ∀ (n : Nat) (p : Nat) (is : Nat), nr s - p < n → (p ≤ nr s) → (is = clI s x p) → (is ≤ 1) → ∀ (H : Heap) (locs : List Loc), Hold X A [mO h Q km ln sp rs, aW X (Q 0) 125 s, aW X (Q 1) 125 rd, aW X (Q 2) 625 kp, aW X (Q 3) 400 tx, aW X (Q 4) 8 (wiF s 0 wi), aW X (Q 5) 8 gi].flatten H → va_S A s_.heap H locs → ∀ ls : Array Slot, lv_has ls 5 [(4, .int (iI ((p : Nat) : Int))), (3, .int (iI ((is : Nat) : Int))), (2, .int (iI ((x : Nat) : Int))), (1, .int (iI ((most : Nat) : Int))), (0, .ref (h))] → W p_ l e_ (rmD 6) s_ m_ (List.toArray [.ref (h)]) below meth c_ H locs 0 0 Q_ (F0 m_ 27 ls []) := by
          intro n
          induction n with
          | zero => intro p is hmu hj hset2 h2 H locs hH hS ls hl; exact absurd hmu (Nat.not_lt_zero _)
          | succ n ih27 => 
            intro p is hmu hj hset2 h2 H locs hH hS ls hl
            have hP2 : 2 ^ nr s ≤ 256 := hP
            refine lv_iload S.1 S.2.1 dX6_cliqueNumber_27 (lv_at hl 0 rfl) ?_
            refine lv_aload_n S.1 S.2.1 dX6_cliqueNumber_29 rfl (lv_at hl 4 rfl) ?_
            refine zv_get (v := .ref (Q 0)) S hAM hH nX6_cliqueNumber_X6 0 rfl rfl 0 (by decide) mX6_cliqueNumber_1 rfl rfl dX6_cliqueNumber_30 ?_
            refine lv_bipush (v := iI (((11 : Nat) : Int))) S.1 S.2.1 dX6_cliqueNumber_33 (by decide) ?_
            refine zv_iald S hAM hH 1 rfl (11) rfl (by decide) (by decide) dX6_cliqueNumber_35 ?_
            refine zv_top (z := s 11) (z2 := ((nr s : Nat) : Int)) hs.e11 ?_
            refine zv_icmp_ge (tgt := 82) S dX6_cliqueNumber_36 (by decide) (by omega) (by omega) (fun c_36 => ?_) (fun c_36 => ?_)
            · skip
              refine lv_iload_n S.1 S.2.1 dX6_cliqueNumber_82 rfl (lv_at hl 1 rfl) ?_
              refine zv_if_eq (tgt := 101) S dX6_cliqueNumber_83 (by decide) (by omega) (fun c_83 => ?_) (fun c_83 => ?_)
              · skip
                refine lv_iload_n S.1 S.2.1 dX6_cliqueNumber_101 rfl (lv_at hl 3 rfl) ?_
                refine lv_istore_n (lv' := [(1, .int (iI ((most : Nat) : Int))), (4, .int (iI ((p : Nat) : Int))), (3, .int (iI ((is : Nat) : Int))), (2, .int (iI ((x : Nat) : Int))), (0, .ref (h))]) S.1 S.2.1 dX6_cliqueNumber_102 rfl hl (by decide) rfl (fun ls hl => ?_)
                refine zv_iinc (z := (((x + 1) : Nat) : Int)) (lv' := [(2, .int (iI (((x + 1) : Nat) : Int))), (1, .int (iI ((most : Nat) : Int))), (4, .int (iI ((p : Nat) : Int))), (3, .int (iI ((is : Nat) : Int))), (0, .ref (h))]) S dX6_cliqueNumber_103 hl (k := 3) rfl (by omega) (by decide) rfl (fun ls hl => ?_)
                refine lv_goto (tgt := 9) S.1 S.2.1 dX6_cliqueNumber_106 (by decide) ?_
                exact ih9  ((x + 1)) (most) (by omega) (by omega) (by have e9 : p = nr s := (by omega); rw [e9] at hset2; rw [clM]; split <;> first | rfl | (rw [hset]; done) | (exfalso; omega)) (by have h7 : pop x ≤ 8 := pop_8 x (by omega); omega) _ _ hH hS ls (lv_sub hl [0, 1, 4] rfl)
              · skip
                refine lv_iload_n S.1 S.2.1 dX6_cliqueNumber_86 rfl (lv_at hl 2 rfl) ?_
                refine zc_Si (n := 1) (As := [.int (iI ((x : Nat) : Int))]) (rest := []) S hAM hA (kX6_ones l X x (by omega)) rfl gX6_cliqueNumber_X6_ones  (by decide +kernel) ⟨Nat.le_of_ble_eq_true rfl, Nat.le_of_ble_eq_true rfl⟩ hH hS [0, 1, 2, 3, 4, 5, 6] rfl 7 rfl (List.Perm.refl _)  rfl hl.1 rfl (Nat.le_of_ble_eq_true rfl) dX6_cliqueNumber_87 ⟨Nat.le_of_ble_eq_true rfl, Nat.le_of_ble_eq_true rfl⟩ (fun z5 _ H locs hp6 hH hS => ?_)
                have hH : Hold X A [mO h Q km ln sp rs, aW X (Q 0) 125 s, aW X (Q 1) 125 rd, aW X (Q 2) 625 kp, aW X (Q 3) 400 tx, aW X (Q 4) 8 (wiF s 0 wi), aW X (Q 5) 8 gi].flatten H := hH
                obtain rfl := hp6
                refine lv_iload_n S.1 S.2.1 dX6_cliqueNumber_90 rfl (lv_at hl 3 rfl) ?_
                refine zv_icmp_le (tgt := 101) S dX6_cliqueNumber_91 (by decide) (by have h7 : pop x ≤ 8 := pop_8 x (by omega); omega) (by omega) (fun c_91 => ?_) (fun c_91 => ?_)
                · skip
                  refine lv_iload_n S.1 S.2.1 dX6_cliqueNumber_101 rfl (lv_at hl 3 rfl) ?_
                  refine lv_istore_n (lv' := [(1, .int (iI ((most : Nat) : Int))), (4, .int (iI ((p : Nat) : Int))), (3, .int (iI ((is : Nat) : Int))), (2, .int (iI ((x : Nat) : Int))), (0, .ref (h))]) S.1 S.2.1 dX6_cliqueNumber_102 rfl hl (by decide) rfl (fun ls hl => ?_)
                  refine zv_iinc (z := (((x + 1) : Nat) : Int)) (lv' := [(2, .int (iI (((x + 1) : Nat) : Int))), (1, .int (iI ((most : Nat) : Int))), (4, .int (iI ((p : Nat) : Int))), (3, .int (iI ((is : Nat) : Int))), (0, .ref (h))]) S dX6_cliqueNumber_103 hl (k := 3) rfl (by omega) (by decide) rfl (fun ls hl => ?_)
                  refine lv_goto (tgt := 9) S.1 S.2.1 dX6_cliqueNumber_106 (by decide) ?_
                  exact ih9  ((x + 1)) (most) (by omega) (by omega) (by have e9 : p = nr s := (by omega); rw [e9] at hset2; rw [clM]; split <;> first | rfl | (rw [hset]; done) | (exfalso; omega)) (by have h7 : pop x ≤ 8 := pop_8 x (by omega); omega) _ _ hH hS ls (lv_sub hl [0, 1, 4] rfl)
                · skip
                  refine lv_iload_n S.1 S.2.1 dX6_cliqueNumber_94 rfl (lv_at hl 2 rfl) ?_
                  refine zc_Si (n := 1) (As := [.int (iI ((x : Nat) : Int))]) (rest := []) S hAM hA (kX6_ones l X x (by omega)) rfl gX6_cliqueNumber_X6_ones  (by decide +kernel) ⟨Nat.le_of_ble_eq_true rfl, Nat.le_of_ble_eq_true rfl⟩ hH hS [0, 1, 2, 3, 4, 5, 6] rfl 7 rfl (List.Perm.refl _)  rfl hl.1 rfl (Nat.le_of_ble_eq_true rfl) dX6_cliqueNumber_95 ⟨Nat.le_of_ble_eq_true rfl, Nat.le_of_ble_eq_true rfl⟩ (fun z8 _ H locs hp9 hH hS => ?_)
                  have hH : Hold X A [mO h Q km ln sp rs, aW X (Q 0) 125 s, aW X (Q 1) 125 rd, aW X (Q 2) 625 kp, aW X (Q 3) 400 tx, aW X (Q 4) 8 (wiF s 0 wi), aW X (Q 5) 8 gi].flatten H := hH
                  obtain rfl := hp9
                  refine lv_goto (tgt := 102) S.1 S.2.1 dX6_cliqueNumber_98 (by decide) ?_
                  refine lv_istore_n (lv' := [(1, .int (iI ((pop x : Nat) : Int))), (4, .int (iI ((p : Nat) : Int))), (3, .int (iI ((is : Nat) : Int))), (2, .int (iI ((x : Nat) : Int))), (0, .ref (h))]) S.1 S.2.1 dX6_cliqueNumber_102 rfl hl (by decide) rfl (fun ls hl => ?_)
                  refine zv_iinc (z := (((x + 1) : Nat) : Int)) (lv' := [(2, .int (iI (((x + 1) : Nat) : Int))), (1, .int (iI ((pop x : Nat) : Int))), (4, .int (iI ((p : Nat) : Int))), (3, .int (iI ((is : Nat) : Int))), (0, .ref (h))]) S dX6_cliqueNumber_103 hl (k := 3) rfl (by omega) (by decide) rfl (fun ls hl => ?_)
                  refine lv_goto (tgt := 9) S.1 S.2.1 dX6_cliqueNumber_106 (by decide) ?_
                  exact ih9  ((x + 1)) (pop x) (by omega) (by omega) (by have e9 : p = nr s := (by omega); rw [e9] at hset2; rw [clM]; split <;> first | rfl | (rw [hset]; done) | (exfalso; omega)) (by have h7 : pop x ≤ 8 := pop_8 x (by omega); omega) _ _ hH hS ls (lv_sub hl [0, 1, 4] rfl)
            · skip
              refine lv_iload_n S.1 S.2.1 dX6_cliqueNumber_39 rfl (lv_at hl 1 rfl) ?_
              refine zv_if_eq (tgt := 74) S dX6_cliqueNumber_40 (by decide) (by omega) (fun c_40 => ?_) (fun c_40 => ?_)
              · skip
                refine lv_iconst (v := iI (((0 : Nat) : Int))) S.1 S.2.1 dX6_cliqueNumber_74 (by decide) ?_
                refine lv_istore_n (lv' := [(3, .int (iI ((0 : Nat) : Int))), (4, .int (iI ((p : Nat) : Int))), (2, .int (iI ((x : Nat) : Int))), (1, .int (iI ((most : Nat) : Int))), (0, .ref (h))]) S.1 S.2.1 dX6_cliqueNumber_75 rfl hl (by decide) rfl (fun ls hl => ?_)
                refine zv_iinc (z := (((p + 1) : Nat) : Int)) (lv' := [(4, .int (iI (((p + 1) : Nat) : Int))), (3, .int (iI ((0 : Nat) : Int))), (2, .int (iI ((x : Nat) : Int))), (1, .int (iI ((most : Nat) : Int))), (0, .ref (h))]) S dX6_cliqueNumber_76 hl (k := 1) rfl (by omega) (by decide) rfl (fun ls hl => ?_)
                refine lv_goto (tgt := 27) S.1 S.2.1 dX6_cliqueNumber_79 (by decide) ?_
                exact ih27  ((p + 1)) (0) (by omega) (by omega) (by rw [clI]; split <;> first | rfl | (exfalso; omega)) (by omega) _ _ hH hS ls (lv_sub hl [0, 1, 2, 3, 4] rfl)
              · skip
                refine lv_iload_n S.1 S.2.1 dX6_cliqueNumber_43 rfl (lv_at hl 2 rfl) ?_
                refine lv_iload S.1 S.2.1 dX6_cliqueNumber_44 (lv_at hl 0 rfl) ?_
                refine zv_ishr (z := (((x / 2 ^ p) : Nat) : Int)) S dX6_cliqueNumber_46 (iI_shr0 _ _ (by omega) (by omega)) ?_
                refine lv_iconst (v := iI (((1 : Nat) : Int))) S.1 S.2.1 dX6_cliqueNumber_47 (by decide) ?_
                refine zv_iand (z := ((((x / 2 ^ p) % 2) : Nat) : Int)) S dX6_cliqueNumber_48 (iI_and1 _) ?_
                refine zv_if_eq (tgt := 70) S dX6_cliqueNumber_49 (by decide) (by have h6 : 2 ^ p < 2 ^ 8 := Nat.pow_lt_pow_right (by omega) (by omega); have h8 := Nat.two_pow_pos p; omega) (fun c_49 => ?_) (fun c_49 => ?_)
                · skip
                  refine lv_iconst (v := iI (((1 : Nat) : Int))) S.1 S.2.1 dX6_cliqueNumber_70 (by decide) ?_
                  refine lv_goto (tgt := 75) S.1 S.2.1 dX6_cliqueNumber_71 (by decide) ?_
                  refine lv_istore_n (lv' := [(3, .int (iI ((1 : Nat) : Int))), (4, .int (iI ((p : Nat) : Int))), (2, .int (iI ((x : Nat) : Int))), (1, .int (iI ((most : Nat) : Int))), (0, .ref (h))]) S.1 S.2.1 dX6_cliqueNumber_75 rfl hl (by decide) rfl (fun ls hl => ?_)
                  refine zv_iinc (z := (((p + 1) : Nat) : Int)) (lv' := [(4, .int (iI (((p + 1) : Nat) : Int))), (3, .int (iI ((1 : Nat) : Int))), (2, .int (iI ((x : Nat) : Int))), (1, .int (iI ((most : Nat) : Int))), (0, .ref (h))]) S dX6_cliqueNumber_76 hl (k := 1) rfl (by omega) (by decide) rfl (fun ls hl => ?_)
                  refine lv_goto (tgt := 27) S.1 S.2.1 dX6_cliqueNumber_79 (by decide) ?_
                  exact ih27  ((p + 1)) (1) (by omega) (by omega) (by rw [clI]; split <;> first | rfl | (exfalso; omega)) (by omega) _ _ hH hS ls (lv_sub hl [0, 1, 2, 3, 4] rfl)
                · skip
                  refine lv_iload_n S.1 S.2.1 dX6_cliqueNumber_52 rfl (lv_at hl 2 rfl) ?_
                  refine lv_aload_n S.1 S.2.1 dX6_cliqueNumber_53 rfl (lv_at hl 4 rfl) ?_
                  refine zv_get (v := .ref (Q 4)) S hAM hH nX6_cliqueNumber_X6 0 rfl rfl 8 (by decide) mX6_cliqueNumber_2 rfl rfl dX6_cliqueNumber_54 ?_
                  refine lv_iload S.1 S.2.1 dX6_cliqueNumber_57 (lv_at hl 0 rfl) ?_
                  refine zv_iald S hAM hH 5 rfl (p) rfl (by omega) (by decide) dX6_cliqueNumber_59 ?_
                  refine zv_top (z := (wiF s 0 wi) p) (z2 := ((mk s 0 p (nr s) : Nat) : Int)) (wiF_at (by omega)) ?_
                  refine lv_iconst (v := iI (-1)) S.1 S.2.1 dX6_cliqueNumber_60 (by decide) ?_
                  refine zv_ixor (z := (-((mk s 0 p (nr s) : Nat) : Int) - 1)) S dX6_cliqueNumber_61 (iI_not _) ?_
                  refine zv_iand (z := (((x ^^^ (x &&& mk s 0 p (nr s))) : Nat) : Int)) S dX6_cliqueNumber_62 (iI_andn _ _) ?_
                  refine lv_iconst (v := iI (((1 : Nat) : Int))) S.1 S.2.1 dX6_cliqueNumber_63 (by decide) ?_
                  refine lv_iload S.1 S.2.1 dX6_cliqueNumber_64 (lv_at hl 0 rfl) ?_
                  refine zv_ishl (z := (((2 ^ p) : Nat) : Int)) S dX6_cliqueNumber_66 (iI_shl1 _ (by omega)) ?_
                  refine zv_icmp_ne (tgt := 74) S dX6_cliqueNumber_67 (by decide) (by have h5 : x ^^^ (x &&& mk s 0 p (nr s)) < 256 := Nat.xor_lt_two_pow (n := 8) (by omega) (Nat.lt_of_le_of_lt Nat.and_le_left (by omega)); omega) (by have h6 : 2 ^ p < 2 ^ 8 := Nat.pow_lt_pow_right (by omega) (by omega); have h8 := Nat.two_pow_pos p; omega) (fun c_67 => ?_) (fun c_67 => ?_)
                  · skip
                    refine lv_iconst (v := iI (((0 : Nat) : Int))) S.1 S.2.1 dX6_cliqueNumber_74 (by decide) ?_
                    refine lv_istore_n (lv' := [(3, .int (iI ((0 : Nat) : Int))), (4, .int (iI ((p : Nat) : Int))), (2, .int (iI ((x : Nat) : Int))), (1, .int (iI ((most : Nat) : Int))), (0, .ref (h))]) S.1 S.2.1 dX6_cliqueNumber_75 rfl hl (by decide) rfl (fun ls hl => ?_)
                    refine zv_iinc (z := (((p + 1) : Nat) : Int)) (lv' := [(4, .int (iI (((p + 1) : Nat) : Int))), (3, .int (iI ((0 : Nat) : Int))), (2, .int (iI ((x : Nat) : Int))), (1, .int (iI ((most : Nat) : Int))), (0, .ref (h))]) S dX6_cliqueNumber_76 hl (k := 1) rfl (by omega) (by decide) rfl (fun ls hl => ?_)
                    refine lv_goto (tgt := 27) S.1 S.2.1 dX6_cliqueNumber_79 (by decide) ?_
                    exact ih27  ((p + 1)) (0) (by omega) (by omega) (by rw [clI]; split <;> first | rfl | (exfalso; omega)) (by omega) _ _ hH hS ls (lv_sub hl [0, 1, 2, 3, 4] rfl)
                  · skip
                    refine lv_iconst (v := iI (((1 : Nat) : Int))) S.1 S.2.1 dX6_cliqueNumber_70 (by decide) ?_
                    refine lv_goto (tgt := 75) S.1 S.2.1 dX6_cliqueNumber_71 (by decide) ?_
                    refine lv_istore_n (lv' := [(3, .int (iI ((1 : Nat) : Int))), (4, .int (iI ((p : Nat) : Int))), (2, .int (iI ((x : Nat) : Int))), (1, .int (iI ((most : Nat) : Int))), (0, .ref (h))]) S.1 S.2.1 dX6_cliqueNumber_75 rfl hl (by decide) rfl (fun ls hl => ?_)
                    refine zv_iinc (z := (((p + 1) : Nat) : Int)) (lv' := [(4, .int (iI (((p + 1) : Nat) : Int))), (3, .int (iI ((1 : Nat) : Int))), (2, .int (iI ((x : Nat) : Int))), (1, .int (iI ((most : Nat) : Int))), (0, .ref (h))]) S dX6_cliqueNumber_76 hl (k := 1) rfl (by omega) (by decide) rfl (fun ls hl => ?_)
                    refine lv_goto (tgt := 27) S.1 S.2.1 dX6_cliqueNumber_79 (by decide) ?_
                    exact ih27  ((p + 1)) (1) (by omega) (by omega) (by rw [clI]; split <;> first | rfl | (exfalso; omega)) (by omega) _ _ hH hS ls (lv_sub hl [0, 1, 2, 3, 4] rfl)
        exact lp27 (nr s - (0) + 1) (0) (1) (Nat.lt_succ_self _) (Nat.zero_le _) rfl (by omega) _ _ hH hS ls (lv_sub hl [0, 1, 2, 3, 4] rfl)
  exact lp9 (2 ^ nr s - (0) + 1) (0) (0) (Nat.lt_succ_self _) (Nat.zero_le _) rfl (by omega) _ _ hH hS ls (lv_sub hl [0, 1, 2] rfl)
