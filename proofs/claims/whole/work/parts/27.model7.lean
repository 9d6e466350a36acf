theorem mX6_repairs_1 : Cond.fieldLink RX6 7 "RoleDoublingPlannerModel" "s" "[I" ∈ wsX6_repairs := List.mem_of_getElem? (i := 1) rfl
theorem nX6_repairs_X6 : ∀ w ∈ wsX60, w ∈ wsX6_repairs := fun _ h => List.mem_cons_of_mem _ (List.mem_append_right _ h)
theorem mX6_repairs_2 : Cond.fieldLink RX6 22 "RoleDoublingPlannerModel" "with" "[I" ∈ wsX6_repairs := List.mem_of_getElem? (i := 2) rfl
set_option maxHeartbeats 4000000 in
set_option maxRecDepth 100000 in
theorem kX6_repairs (l : Launch) (X : XT) (h : Nat) (Q : Nat → Nat) (s : Nat → Int) (rd : Nat → Int) (kp : Nat → Int) (km : Int) (tx : Nat → Int) (ln : Int) (sp : Int) (rs : Int) (wi : Nat → Int) (gi : Nat → Int) (hs : okR s) (hn1 : 1 ≤ nr s) : Ci l yX6_repairs wsX6_repairs (rmD 6) X [.ref h] [mO h Q km ln sp rs, aW X (Q 0) 125 s, aW X (Q 1) 125 rd, aW X (Q 2) 625 kp, aW X (Q 3) 400 tx, aW X (Q 4) 8 wi, aW X (Q 5) 8 gi] (fun (z : Int) (_ : Unit) => z = ((loA s : Nat) : Int)) (fun (_ : Unit) => [mO h Q km ln sp rs, aW X (Q 0) 125 (rpA s), aW X (Q 1) 125 rd, aW X (Q 2) 625 kp, aW X (Q 3) 400 tx, aW X (Q 4) 8 (wiF s 0 wi), aW X (Q 5) 8 gi]) := by
  refine Ci.ofW (cc := cX6_repairs) (maxL := 5) (by decide) rfl (Nat.le_of_ble_eq_true rfl) ?_
  intro p_ e_ s_ m_ below meth c_ A Q_ S hA hAM hH hS hret ls hl
  have hl : lv_has ls 5 [(0, .ref (h))] := hl
  have hk1 := hs.nr8
  have hk2 := hs.na20
  have hk3 := hs.ns10
  refine lv_aload_n S.1 S.2.1 dX6_repairs_0 rfl (lv_at hl 0 rfl) ?_
  refine lv_iconst (v := iI (((0 : Nat) : Int))) S.1 S.2.1 dX6_repairs_1 (by decide) ?_
  refine zc_Vv (n := 1) (As := [.int (iI ((0 : Nat) : Int))]) (rest := []) S hAM hA (kX6_layConflicts l X h Q s rd kp km tx ln sp rs wi gi 0 hs (by omega)) rfl gX6_repairs_X6_layConflicts  (by decide +kernel) ⟨Nat.le_of_ble_eq_true rfl, Nat.le_of_ble_eq_true rfl⟩ hH hS [0, 1, 2, 3, 4, 5, 6] rfl 7 rfl (List.Perm.refl _) 6 0 rfl rfl rfl hl.1 rfl (Nat.le_of_ble_eq_true rfl) dX6_repairs_2 ⟨Nat.le_of_ble_eq_true rfl, Nat.le_of_ble_eq_true rfl⟩ (fun _ H locs hp3 hH hS => ?_)
  have hH : Hold X A [mO h Q km ln sp rs, aW X (Q 0) 125 s, aW X (Q 1) 125 rd, aW X (Q 2) 625 kp, aW X (Q 3) 400 tx, aW X (Q 4) 8 (wiF s 0 wi), aW X (Q 5) 8 gi].flatten H := hH
  refine lv_iconst (v := iI (((0 : Nat) : Int))) S.1 S.2.1 dX6_repairs_5 (by decide) ?_
  refine lv_istore_n (lv' := [(1, .int (iI ((0 : Nat) : Int))), (0, .ref (h))]) S.1 S.2.1 dX6_repairs_6 rfl hl (by decide) rfl (fun ls hl => ?_)
  refine lv_iconst (v := iI (((1 : Nat) : Int))) S.1 S.2.1 dX6_repairs_7 (by decide) ?_
  refine lv_istore_n (lv' := [(2, .int (iI ((1 : Nat) : Int))), (1, .int (iI ((0 : Nat) : Int))), (0, .ref (h))]) S.1 S.2.1 dX6_repairs_8 rfl hl (by decide) rfl (fun ls hl => ?_)
  have lp9 : ∀ (n : Nat) (r : Nat) (t : Nat) (sv : Nat → Int), nr s - r < n → (1 ≤ r ∧ r ≤ nr s) → (t = lo (Mk s 0) s r) → (sv = rp (Mk s 0) s r) → ∀ (H : Heap) (locs : List Loc), Hold X A [mO h Q km ln sp rs, aW X (Q 0) 125 sv, aW X (Q 1) 125 rd, aW X (Q 2) 625 kp, aW X (Q 3) 400 tx, aW X (Q 4) 8 (wiF s 0 wi), aW X (Q 5) 8 gi].flatten H → va_S A s_.heap H locs → ∀ ls : Array Slot, lv_has ls 5 [(2, .int (iI ((r : Nat) : Int))), (1, .int (iI ((t : Nat) : Int))), (0, .ref (h))] → W p_ l e_ (rmD 6) s_ m_ (List.toArray [.ref (h)]) below meth c_ H locs 0 0 Q_ (F0 m_ 9 ls []) := by
    intro n
    induction n with
    | zero => intro r t sv hmu hi hset hsv H locs hH hS ls hl; exact absurd hmu (Nat.not_lt_zero _)
    | succ n ih9 => 
      intro r t sv hmu hi hset hsv H locs hH hS ls hl
      have hokv : okR sv := by rw [hsv]; exact okR_rp hs r (by omega)
      have hlo := lo_le (Mk s 0) s r
      have hM8 := Mk_lt hs 0 r
      refine lv_iload_n S.1 S.2.1 dX6_repairs_9 rfl (lv_at hl 0 rfl) ?_
      refine lv_aload_n S.1 S.2.1 dX6_repairs_10 rfl (lv_at hl 2 rfl) ?_
      refine zv_get (v := .ref (Q 0)) S hAM hH nX6_repairs_X6 0 rfl rfl 0 (by decide) mX6_repairs_1 rfl rfl dX6_repairs_11 ?_
      refine lv_bipush (v := iI (((11 : Nat) : Int))) S.1 S.2.1 dX6_repairs_14 (by decide) ?_
      refine zv_iald S hAM hH 1 rfl (11) rfl (by decide) (by decide) dX6_repairs_16 ?_
      refine zv_top (z := sv 11) (z2 := ((nr s : Nat) : Int)) (by rw [hsv, rp_o r (by omega) (by omega)]; exact hs.e11) ?_
      refine zv_icmp_ge (tgt := 119) S dX6_repairs_17 (by decide) (by omega) (by omega) (fun c_17 => ?_) (fun c_17 => ?_)
      · skip
        refine lv_iload_n S.1 S.2.1 dX6_repairs_119 rfl (lv_at hl 1 rfl) ?_
        have e9 : r = nr s := (by omega)
        rw [e9] at hsv hset
        rw [hsv] at hH
        exact hret 120 ls _ _ (((t : Nat) : Int)) () dX6_repairs_120 rfl (by rw [hset]; rfl) hH hS
      · skip
        refine lv_iconst (v := iI (((1 : Nat) : Int))) S.1 S.2.1 dX6_repairs_20 (by decide) ?_
        refine lv_istore_n (lv' := [(3, .int (iI ((1 : Nat) : Int))), (2, .int (iI ((r : Nat) : Int))), (1, .int (iI ((t : Nat) : Int))), (0, .ref (h))]) S.1 S.2.1 dX6_repairs_21 rfl hl (by decide) rfl (fun ls hl => ?_)
        refine lv_iconst (v := iI (((0 : Nat) : Int))) S.1 S.2.1 dX6_repairs_22 (by decide) ?_
        refine lv_istore (lv' := [(4, .int (iI ((0 : Nat) : Int))), (3, .int (iI ((1 : Nat) : Int))), (2, .int (iI ((r : Nat) : Int))), (1, .int (iI ((t : Nat) : Int))), (0, .ref (h))]) S.1 S.2.1 dX6_repairs_23 hl (by decide) rfl (fun ls hl => ?_)
        have lp25 : ∀ (n : Nat) (p : Nat) (is : Nat), r - p < n → (p ≤ r) → (is = fxI (Mk s 0) sv r p) → (is ≤ 1) → ∀ (H : Heap) (locs : List Loc), Hold X A [mO h Q km ln sp rs, aW X (Q 0) 125 sv, aW X (Q 1) 125 rd, aW X (Q 2) 625 kp, aW X (Q 3) 400 tx, aW X (Q 4) 8 (wiF s 0 wi), aW X (Q 5) 8 gi].flatten H → va_S A s_.heap H locs → ∀ ls : Array Slot, lv_has ls 5 [(4, .int (iI ((p : Nat) : Int))), (3, .int (iI ((is : Nat) : Int))), (2, .int (iI ((r : Nat) : Int))), (1, .int (iI ((t : Nat) : Int))), (0, .ref (h))] → W p_ l e_ (rmD 6) s_ m_ (List.toArray [.ref (h)]) below meth c_ H locs 0 0 Q_ (F0 m_ 25 ls []) := by
          intro n
          induction n with
          | zero => intro p is hmu hj hfx h1 H locs hH hS ls hl; exact absurd hmu (Nat.not_lt_zero _)
          | succ n ih25 => 
            intro p is hmu hj hfx h1 H locs hH hS ls hl
            refine lv_iload S.1 S.2.1 dX6_repairs_25 (lv_at hl 0 rfl) ?_
            refine lv_iload_n S.1 S.2.1 dX6_repairs_27 rfl (lv_at hl 2 rfl) ?_
            refine zv_icmp_ge (tgt := 96) S dX6_repairs_28 (by decide) (by omega) (by omega) (fun c_28 => ?_) (fun c_28 => ?_)
            · skip
              refine lv_iload_n S.1 S.2.1 dX6_repairs_96 rfl (lv_at hl 1 rfl) ?_
              refine zv_if_ne (tgt := 113) S dX6_repairs_97 (by decide) (by omega) (fun c_97 => ?_) (fun c_97 => ?_)
              · skip
                refine zv_iinc (z := (((r + 1) : Nat) : Int)) (lv' := [(2, .int (iI (((r + 1) : Nat) : Int))), (4, .int (iI ((p : Nat) : Int))), (3, .int (iI ((is : Nat) : Int))), (1, .int (iI ((t : Nat) : Int))), (0, .ref (h))]) S dX6_repairs_113 hl (k := 2) rfl (by omega) (by decide) rfl (fun ls hl => ?_)
                refine lv_goto (tgt := 9) S.1 S.2.1 dX6_repairs_116 (by decide) ?_
                exact ih9  ((r + 1)) (t) (sv) (by omega) (by omega) (by have e9 : p = r := (by omega); rw [e9] at hfx; rw [lo, ← hsv]; split <;> first | (rw [hset]; done) | (exfalso; omega)) (by have e9 : p = r := (by omega); rw [e9] at hfx; rw [rp, ← hsv]; split <;> first | rfl | (exfalso; omega)) _ _ hH hS ls (lv_sub hl [0, 3, 4] rfl)
              · skip
                refine lv_aload_n S.1 S.2.1 dX6_repairs_100 rfl (lv_at hl 4 rfl) ?_
                refine zv_get (v := .ref (Q 0)) S hAM hH nX6_repairs_X6 0 rfl rfl 0 (by decide) mX6_repairs_1 rfl rfl dX6_repairs_101 ?_
                refine lv_bipush (v := iI (((36 : Nat) : Int))) S.1 S.2.1 dX6_repairs_104 (by decide) ?_
                refine lv_iload_n S.1 S.2.1 dX6_repairs_106 rfl (lv_at hl 2 rfl) ?_
                refine zv_iadd (z := (((36 + r) : Nat) : Int)) S dX6_repairs_107 (by omega) ?_
                refine lv_iconst (v := iI (-1)) S.1 S.2.1 dX6_repairs_108 (by decide) ?_
                refine zv_iast (z := -1) (w2 := [mO h Q km ln sp rs, aW X (Q 0) 125 (uI sv (36 + r) (-1)), aW X (Q 1) 125 rd, aW X (Q 2) 625 kp, aW X (Q 3) 400 tx, aW X (Q 4) 8 (wiF s 0 wi), aW X (Q 5) 8 gi].flatten) S hAM hH hS 1 rfl ((36 + r)) rfl (by omega) (by decide) rfl dX6_repairs_109 (fun H locs hH hS => ?_)
                refine zv_iinc (z := (((t + 1) : Nat) : Int)) (lv' := [(1, .int (iI (((t + 1) : Nat) : Int))), (4, .int (iI ((p : Nat) : Int))), (3, .int (iI ((is : Nat) : Int))), (2, .int (iI ((r : Nat) : Int))), (0, .ref (h))]) S dX6_repairs_110 hl (k := 3) rfl (by omega) (by decide) rfl (fun ls hl => ?_)
                refine zv_iinc (z := (((r + 1) : Nat) : Int)) (lv' := [(2, .int (iI (((r + 1) : Nat) : Int))), (1, .int (iI (((t + 1) : Nat) : Int))), (4, .int (iI ((p : Nat) : Int))), (3, .int (iI ((is : Nat) : Int))), (0, .ref (h))]) S dX6_repairs_113 hl (k := 3) rfl (by omega) (by decide) rfl (fun ls hl => ?_)
                refine lv_goto (tgt := 9) S.1 S.2.1 dX6_repairs_116 (by decide) ?_
                exact ih9  ((r + 1)) ((t + 1)) (uI sv (36 + r) (-1)) (by omega) (by omega) (by have e9 : p = r := (by omega); rw [e9] at hfx; rw [lo, ← hsv]; split <;> first | (rw [hset]; done) | (exfalso; omega)) (by have e9 : p = r := (by omega); rw [e9] at hfx; rw [rp, ← hsv]; split <;> first | rfl | (exfalso; omega)) _ _ hH hS ls (lv_sub hl [0, 1, 4] rfl)
            · skip
              refine lv_iload_n S.1 S.2.1 dX6_repairs_31 rfl (lv_at hl 1 rfl) ?_
              refine zv_if_eq (tgt := 88) S dX6_repairs_32 (by decide) (by omega) (fun c_32 => ?_) (fun c_32 => ?_)
              · skip
                refine lv_iconst (v := iI (((0 : Nat) : Int))) S.1 S.2.1 dX6_repairs_88 (by decide) ?_
                refine lv_istore_n (lv' := [(3, .int (iI ((0 : Nat) : Int))), (4, .int (iI ((p : Nat) : Int))), (2, .int (iI ((r : Nat) : Int))), (1, .int (iI ((t : Nat) : Int))), (0, .ref (h))]) S.1 S.2.1 dX6_repairs_89 rfl hl (by decide) rfl (fun ls hl => ?_)
                refine zv_iinc (z := (((p + 1) : Nat) : Int)) (lv' := [(4, .int (iI (((p + 1) : Nat) : Int))), (3, .int (iI ((0 : Nat) : Int))), (2, .int (iI ((r : Nat) : Int))), (1, .int (iI ((t : Nat) : Int))), (0, .ref (h))]) S dX6_repairs_90 hl (k := 1) rfl (by omega) (by decide) rfl (fun ls hl => ?_)
                refine lv_goto (tgt := 25) S.1 S.2.1 dX6_repairs_93 (by decide) ?_
                exact ih25  ((p + 1)) (0) (by omega) (by omega) (by rw [fxI]; split <;> first | rfl | (exfalso; omega)) (by omega) _ _ hH hS ls (lv_sub hl [0, 1, 2, 3, 4] rfl)
              · skip
                refine lv_aload_n S.1 S.2.1 dX6_repairs_35 rfl (lv_at hl 4 rfl) ?_
                refine zv_get (v := .ref (Q 0)) S hAM hH nX6_repairs_X6 0 rfl rfl 0 (by decide) mX6_repairs_1 rfl rfl dX6_repairs_36 ?_
                refine lv_bipush (v := iI (((36 : Nat) : Int))) S.1 S.2.1 dX6_repairs_39 (by decide) ?_
                refine lv_iload_n S.1 S.2.1 dX6_repairs_41 rfl (lv_at hl 2 rfl) ?_
                refine zv_iadd (z := (((36 + r) : Nat) : Int)) S dX6_repairs_42 (by omega) ?_
                refine zv_iald S hAM hH 1 rfl ((36 + r)) rfl (by omega) (by decide) dX6_repairs_43 ?_
                refine lv_iconst (v := iI (-1)) S.1 S.2.1 dX6_repairs_44 (by decide) ?_
                refine zv_icmp_eq (tgt := 84) S dX6_repairs_45 (by decide) (hokv.inRk _ (by omega)) (by decide) (fun c_45 => ?_) (fun c_45 => ?_)
                · skip
                  refine lv_iconst (v := iI (((1 : Nat) : Int))) S.1 S.2.1 dX6_repairs_84 (by decide) ?_
                  refine lv_goto (tgt := 89) S.1 S.2.1 dX6_repairs_85 (by decide) ?_
                  refine lv_istore_n (lv' := [(3, .int (iI ((1 : Nat) : Int))), (4, .int (iI ((p : Nat) : Int))), (2, .int (iI ((r : Nat) : Int))), (1, .int (iI ((t : Nat) : Int))), (0, .ref (h))]) S.1 S.2.1 dX6_repairs_89 rfl hl (by decide) rfl (fun ls hl => ?_)
                  refine zv_iinc (z := (((p + 1) : Nat) : Int)) (lv' := [(4, .int (iI (((p + 1) : Nat) : Int))), (3, .int (iI ((1 : Nat) : Int))), (2, .int (iI ((r : Nat) : Int))), (1, .int (iI ((t : Nat) : Int))), (0, .ref (h))]) S dX6_repairs_90 hl (k := 1) rfl (by omega) (by decide) rfl (fun ls hl => ?_)
                  refine lv_goto (tgt := 25) S.1 S.2.1 dX6_repairs_93 (by decide) ?_
                  exact ih25  ((p + 1)) (1) (by omega) (by omega) (by rw [fxI]; split <;> first | rfl | (exfalso; omega)) (by omega) _ _ hH hS ls (lv_sub hl [0, 1, 2, 3, 4] rfl)
                · skip
                  refine lv_aload_n S.1 S.2.1 dX6_repairs_48 rfl (lv_at hl 4 rfl) ?_
                  refine zv_get (v := .ref (Q 0)) S hAM hH nX6_repairs_X6 0 rfl rfl 0 (by decide) mX6_repairs_1 rfl rfl dX6_repairs_49 ?_
                  refine lv_bipush (v := iI (((36 : Nat) : Int))) S.1 S.2.1 dX6_repairs_52 (by decide) ?_
                  refine lv_iload S.1 S.2.1 dX6_repairs_54 (lv_at hl 0 rfl) ?_
                  refine zv_iadd (z := (((36 + p) : Nat) : Int)) S dX6_repairs_56 (by omega) ?_
                  refine zv_iald S hAM hH 1 rfl ((36 + p)) rfl (by omega) (by decide) dX6_repairs_57 ?_
                  refine lv_aload_n S.1 S.2.1 dX6_repairs_58 rfl (lv_at hl 4 rfl) ?_
                  refine zv_get (v := .ref (Q 0)) S hAM hH nX6_repairs_X6 0 rfl rfl 0 (by decide) mX6_repairs_1 rfl rfl dX6_repairs_59 ?_
                  refine lv_bipush (v := iI (((36 : Nat) : Int))) S.1 S.2.1 dX6_repairs_62 (by decide) ?_
                  refine lv_iload_n S.1 S.2.1 dX6_repairs_64 rfl (lv_at hl 2 rfl) ?_
                  refine zv_iadd (z := (((36 + r) : Nat) : Int)) S dX6_repairs_65 (by omega) ?_
                  refine zv_iald S hAM hH 1 rfl ((36 + r)) rfl (by omega) (by decide) dX6_repairs_66 ?_
                  refine zv_icmp_ne (tgt := 84) S dX6_repairs_67 (by decide) (hokv.inRk _ (by omega)) (hokv.inRk _ (by omega)) (fun c_67 => ?_) (fun c_67 => ?_)
                  · skip
                    refine lv_iconst (v := iI (((1 : Nat) : Int))) S.1 S.2.1 dX6_repairs_84 (by decide) ?_
                    refine lv_goto (tgt := 89) S.1 S.2.1 dX6_repairs_85 (by decide) ?_
                    refine lv_istore_n (lv' := [(3, .int (iI ((1 : Nat) : Int))), (4, .int (iI ((p : Nat) : Int))), (2, .int (iI ((r : Nat) : Int))), (1, .int (iI ((t : Nat) : Int))), (0, .ref (h))]) S.1 S.2.1 dX6_repairs_89 rfl hl (by decide) rfl (fun ls hl => ?_)
                    refine zv_iinc (z := (((p + 1) : Nat) : Int)) (lv' := [(4, .int (iI (((p + 1) : Nat) : Int))), (3, .int (iI ((1 : Nat) : Int))), (2, .int (iI ((r : Nat) : Int))), (1, .int (iI ((t : Nat) : Int))), (0, .ref (h))]) S dX6_repairs_90 hl (k := 1) rfl (by omega) (by decide) rfl (fun ls hl => ?_)
                    refine lv_goto (tgt := 25) S.1 S.2.1 dX6_repairs_93 (by decide) ?_
                    exact ih25  ((p + 1)) (1) (by omega) (by omega) (by rw [fxI]; split <;> first | rfl | (exfalso; omega)) (by omega) _ _ hH hS ls (lv_sub hl [0, 1, 2, 3, 4] rfl)
                  · skip
                    refine lv_aload_n S.1 S.2.1 dX6_repairs_70 rfl (lv_at hl 4 rfl) ?_
                    refine zv_get (v := .ref (Q 4)) S hAM hH nX6_repairs_X6 0 rfl rfl 8 (by decide) mX6_repairs_2 rfl rfl dX6_repairs_71 ?_
                    refine lv_iload_n S.1 S.2.1 dX6_repairs_74 rfl (lv_at hl 2 rfl) ?_
                    refine zv_iald S hAM hH 5 rfl (r) rfl (by omega) (by decide) dX6_repairs_75 ?_
                    refine zv_top (z := (wiF s 0 wi) r) (z2 := ((Mk s 0 r : Nat) : Int)) (wiF_at (by omega)) ?_
                    refine lv_iload S.1 S.2.1 dX6_repairs_76 (lv_at hl 0 rfl) ?_
                    refine zv_ishr (z := (((Mk s 0 r / 2 ^ p) : Nat) : Int)) S dX6_repairs_78 (iI_shr0 _ _ (by omega) (by omega)) ?_
                    refine lv_iconst (v := iI (((1 : Nat) : Int))) S.1 S.2.1 dX6_repairs_79 (by decide) ?_
                    refine zv_iand (z := ((((Mk s 0 r / 2 ^ p) % 2) : Nat) : Int)) S dX6_repairs_80 (iI_and1 _) ?_
                    refine zv_if_ne (tgt := 88) S dX6_repairs_81 (by decide) (by omega) (fun c_81 => ?_) (fun c_81 => ?_)
                    · skip
                      refine lv_iconst (v := iI (((0 : Nat) : Int))) S.1 S.2.1 dX6_repairs_88 (by decide) ?_
                      refine lv_istore_n (lv' := [(3, .int (iI ((0 : Nat) : Int))), (4, .int (iI ((p : Nat) : Int))), (2, .int (iI ((r : Nat) : Int))), (1, .int (iI ((t : Nat) : Int))), (0, .ref (h))]) S.1 S.2.1 dX6_repairs_89 rfl hl (by decide) rfl (fun ls hl => ?_)
                      refine zv_iinc (z := (((p + 1) : Nat) : Int)) (lv' := [(4, .int (iI (((p + 1) : Nat) : Int))), (3, .int (iI ((0 : Nat) : Int))), (2, .int (iI ((r : Nat) : Int))), (1, .int (iI ((t : Nat) : Int))), (0, .ref (h))]) S dX6_repairs_90 hl (k := 1) rfl (by omega) (by decide) rfl (fun ls hl => ?_)
                      refine lv_goto (tgt := 25) S.1 S.2.1 dX6_repairs_93 (by decide) ?_
                      exact ih25  ((p + 1)) (0) (by omega) (by omega) (by rw [fxI]; split <;> first | rfl | (exfalso; omega)) (by omega) _ _ hH hS ls (lv_sub hl [0, 1, 2, 3, 4] rfl)
                    · skip
                      refine lv_iconst (v := iI (((1 : Nat) : Int))) S.1 S.2.1 dX6_repairs_84 (by decide) ?_
                      refine lv_goto (tgt := 89) S.1 S.2.1 dX6_repairs_85 (by decide) ?_
                      refine lv_istore_n (lv' := [(3, .int (iI ((1 : Nat) : Int))), (4, .int (iI ((p : Nat) : Int))), (2, .int (iI ((r : Nat) : Int))), (1, .int (iI ((t : Nat) : Int))), (0, .ref (h))]) S.1 S.2.1 dX6_repairs_89 rfl hl (by decide) rfl (fun ls hl => ?_)
                      refine zv_iinc (z := (((p + 1) : Nat) : Int)) (lv' := [(4, .int (iI (((p + 1) : Nat) : Int))), (3, .int (iI ((1 : Nat) : Int))), (2, .int (iI ((r : Nat) : Int))), (1, .int (iI ((t : Nat) : Int))), (0, .ref (h))]) S dX6_repairs_90 hl (k := 1) rfl (by omega) (by decide) rfl (fun ls hl => ?_)
                      refine lv_goto (tgt := 25) S.1 S.2.1 dX6_repairs_93 (by decide) ?_
                      exact ih25  ((p + 1)) (1) (by omega) (by omega) (by rw [fxI]; split <;> first | rfl | (exfalso; omega)) (by omega) _ _ hH hS ls (lv_sub hl [0, 1, 2, 3, 4] rfl)
        exact lp25 (r - (0) + 1) (0) (1) (Nat.lt_succ_self _) (Nat.zero_le _) rfl (by omega) _ _ hH hS ls (lv_sub hl [0, 1, 2, 3, 4] rfl)
  exact lp9 (nr s - (1) + 1) (1) (0) (s) (Nat.lt_succ_self _) (by omega) rfl rfl _ _ hH hS ls (lv_sub hl [0, 1, 2] rfl)

theorem mX6_uncast_1 : Cond.fieldLink RX6 7 "RoleDoublingPlannerModel" "s" "[I" ∈ wsX6_uncast := List.mem_of_getElem? (i := 1) rfl
theorem nX6_uncast_X6 : ∀ w ∈ wsX60, w ∈ wsX6_uncast := fun _ h => List.mem_cons_of_mem _ (List.mem_append_right _ h)
set_option maxHeartbeats 4000000 in
set_option maxRecDepth 100000 in
theorem kX6_uncast (l : Launch) (X : XT) (h : Nat) (Q : Nat → Nat) (s : Nat → Int) (rd : Nat → Int) (kp : Nat → Int) (kn : Nat) (tx : Nat → Int) (ln : Int) (sp : Int) (rs : Int) (wi : Nat → Int) (gi : Nat → Int) (r : Int) (hs : okR s) (hr : inR r) (hkn : kn ≤ 5) : Ci l yX6_uncast wsX6_uncast (rmD 3) X [.ref h, .int (iI (r))] [mO h Q ((kn : Nat) : Int) ln sp rs, aW X (Q 0) 125 s, aW X (Q 1) 125 rd, aW X (Q 2) 625 kp, aW X (Q 3) 400 tx, aW X (Q 4) 8 wi, aW X (Q 5) 8 gi] (fun (z : Int) (_ : Unit) => z = (opUnc s kp kn r).1) (fun (_ : Unit) => [mO h Q (((opUnc s kp kn r).2.2.2 : Nat) : Int) ln sp rs, aW X (Q 0) 125 ((opUnc s kp kn r).2.1), aW X (Q 1) 125 rd, aW X (Q 2) 625 ((opUnc s kp kn r).2.2.1), aW X (Q 3) 400 tx, aW X (Q 4) 8 wi, aW X (Q 5) 8 gi]) := by
  refine Ci.ofW (cc := cX6_uncast) (maxL := 3) (by decide) rfl (Nat.le_of_ble_eq_true rfl) ?_
  intro p_ e_ s_ m_ below meth c_ A Q_ S hA hAM hH hS hret ls hl
  have hl : lv_has ls 3 [(0, .ref (h)), (1, .int (iI (r)))] := hl
  have hk1 := hs.nr8
  have hk2 := hs.na20
  have hk3 := hs.ns10
  refine lv_aload_n S.1 S.2.1 dX6_uncast_0 rfl (lv_at hl 0 rfl) ?_
  refine lv_iload_n S.1 S.2.1 dX6_uncast_1 rfl (lv_at hl 1 rfl) ?_
  refine zc_Vi (n := 1) (As := [.int (iI (r))]) (rest := []) S hAM hA (kX6_isRole l X h Q s rd kp ((kn : Nat) : Int) tx ln sp rs wi gi r hs (by omega)) rfl gX6_uncast_X6_isRole  (by decide +kernel) ⟨Nat.le_of_ble_eq_true rfl, Nat.le_of_ble_eq_true rfl⟩ hH hS [0, 1, 2, 3, 4, 5, 6] rfl 7 rfl (List.Perm.refl _) 6 0 rfl rfl rfl hl.1 rfl (Nat.le_of_ble_eq_true rfl) dX6_uncast_2 ⟨Nat.le_of_ble_eq_true rfl, Nat.le_of_ble_eq_true rfl⟩ (fun z2 _ H locs hp3 hH hS => ?_)
  have hH : Hold X A [mO h Q ((kn : Nat) : Int) ln sp rs, aW X (Q 0) 125 s, aW X (Q 1) 125 rd, aW X (Q 2) 625 kp, aW X (Q 3) 400 tx, aW X (Q 4) 8 wi, aW X (Q 5) 8 gi].flatten H := hH
  rcases hp3 with ⟨rfl, b_2⟩ | ⟨rfl, b_2⟩
  · refine zv_top (z := 1) (z2 := ((1 : Nat) : Int)) rfl ?_
    obtain ⟨rn, rfl⟩ : ∃ rn : Nat, r = ((rn : Nat) : Int) := ⟨r.toNat, by omega⟩
    refine zv_if_ne (tgt := 12) S dX6_uncast_5 (by decide) (by decide) (fun c_5 => ?_) (fun c_5 => ?_)
    · skip
      refine lv_aload_n S.1 S.2.1 dX6_uncast_12 rfl (lv_at hl 0 rfl) ?_
      refine zv_get (v := .ref (Q 0)) S hAM hH nX6_uncast_X6 0 rfl rfl 0 (by decide) mX6_uncast_1 rfl rfl dX6_uncast_13 ?_
      refine lv_bipush (v := iI (((36 : Nat) : Int))) S.1 S.2.1 dX6_uncast_16 (by decide) ?_
      refine lv_iload_n S.1 S.2.1 dX6_uncast_18 rfl (lv_at hl 1 rfl) ?_
      refine zv_iadd (z := (((36 + rn) : Nat) : Int)) S dX6_uncast_19 (by omega) ?_
      refine zv_iald S hAM hH 1 rfl ((36 + rn)) rfl (by omega) (by decide) dX6_uncast_20 ?_
      refine lv_istore_n (lv' := [(2, .int (iI (s (36 + rn)))), (0, .ref (h)), (1, .int (iI ((rn : Nat) : Int)))]) S.1 S.2.1 dX6_uncast_21 rfl hl (by decide) rfl (fun ls hl => ?_)
      refine lv_iload_n S.1 S.2.1 dX6_uncast_22 rfl (lv_at hl 0 rfl) ?_
      refine lv_iconst (v := iI (-1)) S.1 S.2.1 dX6_uncast_23 (by decide) ?_
      refine zv_icmp_ne (tgt := 31) S dX6_uncast_24 (by decide) (hs.inRk _ (by omega)) (by decide) (fun c_24 => ?_) (fun c_24 => ?_)
      · skip
        refine lv_aload_n S.1 S.2.1 dX6_uncast_31 rfl (lv_at hl 1 rfl) ?_
        refine zc_Vv (n := 0) (As := []) (rest := []) S hAM hA (kX6_keeps l X h Q s rd kp kn tx ln sp rs wi gi hkn) rfl gX6_uncast_X6_keeps  (by decide +kernel) ⟨Nat.le_of_ble_eq_true rfl, Nat.le_of_ble_eq_true rfl⟩ hH hS [0, 1, 2, 3, 4, 5, 6] rfl 7 rfl (List.Perm.refl _) 6 0 rfl rfl rfl hl.1 rfl (Nat.le_of_ble_eq_true rfl) dX6_uncast_32 ⟨Nat.le_of_ble_eq_true rfl, Nat.le_of_ble_eq_true rfl⟩ (fun _ H locs hp6 hH hS => ?_)
        have hH : Hold X A [mO h Q (((kmF kn) : Nat) : Int) ln sp rs, aW X (Q 0) 125 s, aW X (Q 1) 125 rd, aW X (Q 2) 625 (kpF s kp kn), aW X (Q 3) 400 tx, aW X (Q 4) 8 wi, aW X (Q 5) 8 gi].flatten H := hH
        refine lv_aload_n S.1 S.2.1 dX6_uncast_35 rfl (lv_at hl 1 rfl) ?_
        refine zv_get (v := .ref (Q 0)) S hAM hH nX6_uncast_X6 0 rfl rfl 0 (by decide) mX6_uncast_1 rfl rfl dX6_uncast_36 ?_
        refine lv_bipush (v := iI (((36 : Nat) : Int))) S.1 S.2.1 dX6_uncast_39 (by decide) ?_
        refine lv_iload_n S.1 S.2.1 dX6_uncast_41 rfl (lv_at hl 2 rfl) ?_
        refine zv_iadd (z := (((36 + rn) : Nat) : Int)) S dX6_uncast_42 (by omega) ?_
        refine lv_iconst (v := iI (-1)) S.1 S.2.1 dX6_uncast_43 (by decide) ?_
        refine zv_iast (z := -1) (w2 := [mO h Q (((kmF kn) : Nat) : Int) ln sp rs, aW X (Q 0) 125 (uI s (36 + rn) (-1)), aW X (Q 1) 125 rd, aW X (Q 2) 625 (kpF s kp kn), aW X (Q 3) 400 tx, aW X (Q 4) 8 wi, aW X (Q 5) 8 gi].flatten) S hAM hH hS 1 rfl ((36 + rn)) rfl (by omega) (by decide) rfl dX6_uncast_44 (fun H locs hH hS => ?_)
        refine lv_iload_n S.1 S.2.1 dX6_uncast_45 rfl (lv_at hl 0 rfl) ?_
        have eO : opUnc s kp kn ((rn : Nat) : Int) = (s (36 + rn), uI s (36 + rn) (-1), kpF s kp kn, kmF kn) := by unfold opUnc; rw [if_pos (by omega), Int.toNat_natCast, if_neg (by omega)]
        rw [eO] at hret
        exact hret 46 ls _ _ (s (36 + rn)) () dX6_uncast_46 rfl rfl hH hS
      · skip
        refine lv_sipush (v := iI (-1002)) S.1 S.2.1 dX6_uncast_27 (by decide) ?_
        have eO : opUnc s kp kn ((rn : Nat) : Int) = (-1002, s, kp, kn) := by unfold opUnc; rw [if_pos (by omega), Int.toNat_natCast, if_pos (by omega)]
        rw [eO] at hret
        exact hret 30 ls _ _ (-1002) () dX6_uncast_30 rfl rfl hH hS
    · exact (show False by omega).elim
  · refine zv_top (z := 0) (z2 := ((0 : Nat) : Int)) rfl ?_
    refine zv_if_ne (tgt := 12) S dX6_uncast_5 (by decide) (by decide) (fun c_5 => ?_) (fun c_5 => ?_)
    · exact (show False by omega).elim
    · skip
      refine lv_sipush (v := iI (-1001)) S.1 S.2.1 dX6_uncast_8 (by decide) ?_
      have eO : opUnc s kp kn r = (-1001, s, kp, kn) := by unfold opUnc; rw [if_neg (by omega)]
      rw [eO] at hret
      exact hret 11 ls _ _ (-1001) () dX6_uncast_11 rfl rfl hH hS

theorem mX6_cast_1 : Cond.fieldLink RX6 22 "RoleDoublingPlannerModel" "with" "[I" ∈ wsX6_cast := List.mem_of_getElem? (i := 1) rfl
theorem nX6_cast_X6 : ∀ w ∈ wsX60, w ∈ wsX6_cast := fun _ h => List.mem_cons_of_mem _ (List.mem_append_right _ h)
theorem mX6_cast_2 : Cond.fieldLink RX6 7 "RoleDoublingPlannerModel" "s" "[I" ∈ wsX6_cast := List.mem_of_getElem? (i := 2) rfl
set_option maxHeartbeats 4000000 in
set_option maxRecDepth 100000 in
theorem kX6_cast (l : Launch) (X : XT) (h : Nat) (Q : Nat → Nat) (s : Nat → Int) (rd : Nat → Int) (kp : Nat → Int) (kn : Nat) (tx : Nat → Int) (ln : Int) (sp : Int) (rs : Int) (wi : Nat → Int) (gi : Nat → Int) (r : Int) (x : Int) (hs : okR s) (hr : inR r) (hx : inR x) (hkn : kn ≤ 5) : Ci l yX6_cast wsX6_cast (rmD 6) X [.ref h, .int (iI (r)), .int (iI (x))] [mO h Q ((kn : Nat) : Int) ln sp rs, aW X (Q 0) 125 s, aW X (Q 1) 125 rd, aW X (Q 2) 625 kp, aW X (Q 3) 400 tx, aW X (Q 4) 8 wi, aW X (Q 5) 8 gi] (fun (z : Int) (wj : Nat → Int) => z = (opCast s kp kn r x).1) (fun (wj : Nat → Int) => [mO h Q (((opCast s kp kn r x).2.2.2 : Nat) : Int) ln sp rs, aW X (Q 0) 125 ((opCast s kp kn r x).2.1), aW X (Q 1) 125 rd, aW X (Q 2) 625 ((opCast s kp kn r x).2.2.1), aW X (Q 3) 400 tx, aW X (Q 4) 8 wj, aW X (Q 5) 8 gi]) := by
  refine Ci.ofW (cc := cX6_cast) (maxL := 3) (by decide) rfl (Nat.le_of_ble_eq_true rfl) ?_
  intro p_ e_ s_ m_ below meth c_ A Q_ S hA hAM hH hS hret ls hl
  have hl : lv_has ls 3 [(0, .ref (h)), (1, .int (iI (r))), (2, .int (iI (x)))] := hl
  have hk1 := hs.nr8
  have hk2 := hs.na20
  have hk3 := hs.ns10
  refine lv_aload_n S.1 S.2.1 dX6_cast_0 rfl (lv_at hl 0 rfl) ?_
  refine lv_iload_n S.1 S.2.1 dX6_cast_1 rfl (lv_at hl 1 rfl) ?_
  refine zc_Vi (n := 1) (As := [.int (iI (r))]) (rest := []) S hAM hA (kX6_isRole l X h Q s rd kp ((kn : Nat) : Int) tx ln sp rs wi gi r hs (by omega)) rfl gX6_cast_X6_isRole  (by decide +kernel) ⟨Nat.le_of_ble_eq_true rfl, Nat.le_of_ble_eq_true rfl⟩ hH hS [0, 1, 2, 3, 4, 5, 6] rfl 7 rfl (List.Perm.refl _) 6 0 rfl rfl rfl hl.1 rfl (Nat.le_of_ble_eq_true rfl) dX6_cast_2 ⟨Nat.le_of_ble_eq_true rfl, Nat.le_of_ble_eq_true rfl⟩ (fun z2 _ H locs hp3 hH hS => ?_)
  have hH : Hold X A [mO h Q ((kn : Nat) : Int) ln sp rs, aW X (Q 0) 125 s, aW X (Q 1) 125 rd, aW X (Q 2) 625 kp, aW X (Q 3) 400 tx, aW X (Q 4) 8 wi, aW X (Q 5) 8 gi].flatten H := hH
  rcases hp3 with ⟨rfl, b_2⟩ | ⟨rfl, b_2⟩
  · refine zv_top (z := 1) (z2 := ((1 : Nat) : Int)) rfl ?_
    obtain ⟨rn, rfl⟩ : ∃ rn : Nat, r = ((rn : Nat) : Int) := ⟨r.toNat, by omega⟩
    refine zv_if_eq (tgt := 15) S dX6_cast_5 (by decide) (by decide) (fun c_5 => ?_) (fun c_5 => ?_)
    · exact (show False by omega).elim
    · skip
      refine lv_iload_n S.1 S.2.1 dX6_cast_8 rfl (lv_at hl 2 rfl) ?_
      refine zc_Si (n := 1) (As := [.int (iI (x))]) (rest := []) S hAM hA (kX6_isActor l X x (by omega)) rfl gX6_cast_X6_isActor  (by decide +kernel) ⟨Nat.le_of_ble_eq_true rfl, Nat.le_of_ble_eq_true rfl⟩ hH hS [0, 1, 2, 3, 4, 5, 6] rfl 7 rfl (List.Perm.refl _)  rfl hl.1 rfl (Nat.le_of_ble_eq_true rfl) dX6_cast_9 ⟨Nat.le_of_ble_eq_true rfl, Nat.le_of_ble_eq_true rfl⟩ (fun z5 _ H locs hp6 hH hS => ?_)
      have hH : Hold X A [mO h Q ((kn : Nat) : Int) ln sp rs, aW X (Q 0) 125 s, aW X (Q 1) 125 rd, aW X (Q 2) 625 kp, aW X (Q 3) 400 tx, aW X (Q 4) 8 wi, aW X (Q 5) 8 gi].flatten H := hH
      rcases hp6 with ⟨rfl, b_9⟩ | ⟨rfl, b_9⟩
      · refine zv_top (z := 1) (z2 := ((1 : Nat) : Int)) rfl ?_
        refine zv_if_ne (tgt := 19) S dX6_cast_12 (by decide) (by decide) (fun c_12 => ?_) (fun c_12 => ?_)
        · skip
          refine lv_aload_n S.1 S.2.1 dX6_cast_19 rfl (lv_at hl 0 rfl) ?_
          refine lv_iconst (v := iI (((0 : Nat) : Int))) S.1 S.2.1 dX6_cast_20 (by decide) ?_
          refine zc_Vv (n := 1) (As := [.int (iI ((0 : Nat) : Int))]) (rest := []) S hAM hA (kX6_layConflicts l X h Q s rd kp ((kn : Nat) : Int) tx ln sp rs wi gi 0 hs (by omega)) rfl gX6_cast_X6_layConflicts  (by decide +kernel) ⟨Nat.le_of_ble_eq_true rfl, Nat.le_of_ble_eq_true rfl⟩ hH hS [0, 1, 2, 3, 4, 5, 6] rfl 7 rfl (List.Perm.refl _) 6 0 rfl rfl rfl hl.1 rfl (Nat.le_of_ble_eq_true rfl) dX6_cast_21 ⟨Nat.le_of_ble_eq_true rfl, Nat.le_of_ble_eq_true rfl⟩ (fun _ H locs hp9 hH hS => ?_)
          have hH : Hold X A [mO h Q ((kn : Nat) : Int) ln sp rs, aW X (Q 0) 125 s, aW X (Q 1) 125 rd, aW X (Q 2) 625 kp, aW X (Q 3) 400 tx, aW X (Q 4) 8 (wiF s 0 wi), aW X (Q 5) 8 gi].flatten H := hH
          refine lv_aload_n S.1 S.2.1 dX6_cast_24 rfl (lv_at hl 0 rfl) ?_
          refine zv_get (v := .ref (Q 4)) S hAM hH nX6_cast_X6 0 rfl rfl 8 (by decide) mX6_cast_1 rfl rfl dX6_cast_25 ?_
          refine lv_iload_n S.1 S.2.1 dX6_cast_28 rfl (lv_at hl 1 rfl) ?_
          refine zv_iald S hAM hH 5 rfl (rn) rfl (by omega) (by decide) dX6_cast_29 ?_
          refine zv_top (z := (wiF s 0 wi) rn) (z2 := ((Mk s 0 rn : Nat) : Int)) (wiF_at (by omega)) ?_
          refine lv_aload_n S.1 S.2.1 dX6_cast_30 rfl (lv_at hl 0 rfl) ?_
          refine lv_iload_n S.1 S.2.1 dX6_cast_31 rfl (lv_at hl 2 rfl) ?_
          refine zc_Vi (n := 1) (As := [.int (iI (x))]) (rest := [.int (iI ((Mk s 0 rn : Nat) : Int))]) S hAM hA (kX6_castBy l X h Q s rd kp ((kn : Nat) : Int) tx ln sp rs (wiF s 0 wi) gi x hs (by omega)) rfl gX6_cast_X6_castBy  (by decide +kernel) ⟨Nat.le_of_ble_eq_true rfl, Nat.le_of_ble_eq_true rfl⟩ hH hS [0, 1, 2, 3, 4, 5, 6] rfl 7 rfl (List.Perm.refl _) 6 0 rfl rfl rfl hl.1 rfl (Nat.le_of_ble_eq_true rfl) dX6_cast_32 ⟨Nat.le_of_ble_eq_true rfl, Nat.le_of_ble_eq_true rfl⟩ (fun z11 _ H locs hp12 hH hS => ?_)
          have hH : Hold X A [mO h Q ((kn : Nat) : Int) ln sp rs, aW X (Q 0) 125 s, aW X (Q 1) 125 rd, aW X (Q 2) 625 kp, aW X (Q 3) 400 tx, aW X (Q 4) 8 (wiF s 0 wi), aW X (Q 5) 8 gi].flatten H := hH
          obtain rfl := hp12
          refine zv_iand (z := (((Mk s 0 rn &&& cb s x (nr s)) : Nat) : Int)) S dX6_cast_35 (iI_and _ _) ?_
          refine zv_if_eq (tgt := 43) S dX6_cast_36 (by decide) (by have h5 : Mk s 0 rn &&& cb s x (nr s) < 256 := Nat.lt_of_le_of_lt Nat.and_le_left (Mk_lt hs _ _); omega) (fun c_36 => ?_) (fun c_36 => ?_)
          · skip
            refine lv_aload_n S.1 S.2.1 dX6_cast_43 rfl (lv_at hl 0 rfl) ?_
            refine zc_Vv (n := 0) (As := []) (rest := []) S hAM hA (kX6_keeps l X h Q s rd kp kn tx ln sp rs (wiF s 0 wi) gi hkn) rfl gX6_cast_X6_keeps  (by decide +kernel) ⟨Nat.le_of_ble_eq_true rfl, Nat.le_of_ble_eq_true rfl⟩ hH hS [0, 1, 2, 3, 4, 5, 6] rfl 7 rfl (List.Perm.refl _) 6 0 rfl rfl rfl hl.1 rfl (Nat.le_of_ble_eq_true rfl) dX6_cast_44 ⟨Nat.le_of_ble_eq_true rfl, Nat.le_of_ble_eq_true rfl⟩ (fun _ H locs hp15 hH hS => ?_)
            have hH : Hold X A [mO h Q (((kmF kn) : Nat) : Int) ln sp rs, aW X (Q 0) 125 s, aW X (Q 1) 125 rd, aW X (Q 2) 625 (kpF s kp kn), aW X (Q 3) 400 tx, aW X (Q 4) 8 (wiF s 0 wi), aW X (Q 5) 8 gi].flatten H := hH
            refine lv_aload_n S.1 S.2.1 dX6_cast_47 rfl (lv_at hl 0 rfl) ?_
            refine zv_get (v := .ref (Q 0)) S hAM hH nX6_cast_X6 0 rfl rfl 0 (by decide) mX6_cast_2 rfl rfl dX6_cast_48 ?_
            refine lv_bipush (v := iI (((36 : Nat) : Int))) S.1 S.2.1 dX6_cast_51 (by decide) ?_
            refine lv_iload_n S.1 S.2.1 dX6_cast_53 rfl (lv_at hl 1 rfl) ?_
            refine zv_iadd (z := (((36 + rn) : Nat) : Int)) S dX6_cast_54 (by omega) ?_
            refine lv_iload_n S.1 S.2.1 dX6_cast_55 rfl (lv_at hl 2 rfl) ?_
            refine zv_iast (z := x) (w2 := [mO h Q (((kmF kn) : Nat) : Int) ln sp rs, aW X (Q 0) 125 (uI s (36 + rn) (x)), aW X (Q 1) 125 rd, aW X (Q 2) 625 (kpF s kp kn), aW X (Q 3) 400 tx, aW X (Q 4) 8 (wiF s 0 wi), aW X (Q 5) 8 gi].flatten) S hAM hH hS 1 rfl ((36 + rn)) rfl (by omega) (by decide) rfl dX6_cast_56 (fun H locs hH hS => ?_)
            obtain ⟨s1, es1⟩ : ∃ y_, y_ = (uI s (36 + rn) (x)) := ⟨_, rfl⟩
            rw [← es1] at hH
            have hH : Hold X A [mO h Q (((kmF kn) : Nat) : Int) ln sp rs, aW X (Q 0) 125 s1, aW X (Q 1) 125 rd, aW X (Q 2) 625 (kpF s kp kn), aW X (Q 3) 400 tx, aW X (Q 4) 8 (wiF s 0 wi), aW X (Q 5) 8 gi].flatten _ := hH
            have hs1 : okR s1 := by rw [es1]; exact okR_actU hs (by omega) (by omega)
            have en1 : nr s1 = nr s := nr_eq (by rw [es1]; exact uI_n (by omega))
            refine lv_aload_n S.1 S.2.1 dX6_cast_57 rfl (lv_at hl 0 rfl) ?_
            refine lv_iload_n S.1 S.2.1 dX6_cast_58 rfl (lv_at hl 2 rfl) ?_
            refine zc_Vi (n := 1) (As := [.int (iI (x))]) (rest := []) S hAM hA (kX6_castBy l X h Q s1 rd (kpF s kp kn) (((kmF kn) : Nat) : Int) tx ln sp rs (wiF s 0 wi) gi x hs1 (by omega)) rfl gX6_cast_X6_castBy  (by decide +kernel) ⟨Nat.le_of_ble_eq_true rfl, Nat.le_of_ble_eq_true rfl⟩ hH hS [0, 1, 2, 3, 4, 5, 6] rfl 7 rfl (List.Perm.refl _) 6 0 rfl rfl rfl hl.1 rfl (Nat.le_of_ble_eq_true rfl) dX6_cast_59 ⟨Nat.le_of_ble_eq_true rfl, Nat.le_of_ble_eq_true rfl⟩ (fun z17 _ H locs hp18 hH hS => ?_)
            have hH : Hold X A [mO h Q (((kmF kn) : Nat) : Int) ln sp rs, aW X (Q 0) 125 s1, aW X (Q 1) 125 rd, aW X (Q 2) 625 (kpF s kp kn), aW X (Q 3) 400 tx, aW X (Q 4) 8 (wiF s 0 wi), aW X (Q 5) 8 gi].flatten H := hH
            obtain rfl := hp18
            refine zc_Si (n := 1) (As := [.int (iI ((cb s1 x (nr s1) : Nat) : Int))]) (rest := []) S hAM hA (kX6_ones l X (cb s1 x (nr s1)) (cb_lt _ _ (by omega))) rfl gX6_cast_X6_ones  (by decide +kernel) ⟨Nat.le_of_ble_eq_true rfl, Nat.le_of_ble_eq_true rfl⟩ hH hS [0, 1, 2, 3, 4, 5, 6] rfl 7 rfl (List.Perm.refl _)  rfl hl.1 rfl (Nat.le_of_ble_eq_true rfl) dX6_cast_62 ⟨Nat.le_of_ble_eq_true rfl, Nat.le_of_ble_eq_true rfl⟩ (fun z20 _ H locs hp21 hH hS => ?_)
            have hH : Hold X A [mO h Q (((kmF kn) : Nat) : Int) ln sp rs, aW X (Q 0) 125 s1, aW X (Q 1) 125 rd, aW X (Q 2) 625 (kpF s kp kn), aW X (Q 3) 400 tx, aW X (Q 4) 8 (wiF s 0 wi), aW X (Q 5) 8 gi].flatten H := hH
            obtain rfl := hp21
            subst es1
            have en2 : nr (uI s (36 + rn) x) = nr s := en1
            rw [en2]
            have eO : opCast s kp kn ((rn : Nat) : Int) x = (((pop (cb (uI s (36 + rn) x) x (nr s)) : Nat) : Int), uI s (36 + rn) x, kpF s kp kn, kmF kn) := by unfold opCast; rw [if_pos (by omega), Int.toNat_natCast, if_neg (by omega)]
            rw [eO] at hret
            exact hret 65 ls _ _ (((pop (cb (uI s (36 + rn) x) x (nr s)) : Nat) : Int)) ((wiF s 0 wi)) dX6_cast_65 rfl rfl hH hS
          · skip
            refine lv_sipush (v := iI (-1002)) S.1 S.2.1 dX6_cast_39 (by decide) ?_
            have eO : opCast s kp kn ((rn : Nat) : Int) x = (-1002, s, kp, kn) := by unfold opCast; rw [if_pos (by omega), Int.toNat_natCast, if_pos (by omega)]
            rw [eO] at hret
            exact hret 42 ls _ _ (-1002) ((wiF s 0 wi)) dX6_cast_42 rfl rfl hH hS
        · exact (show False by omega).elim
      · refine zv_top (z := 0) (z2 := ((0 : Nat) : Int)) rfl ?_
        refine zv_if_ne (tgt := 19) S dX6_cast_12 (by decide) (by decide) (fun c_12 => ?_) (fun c_12 => ?_)
        · exact (show False by omega).elim
        · skip
          refine lv_sipush (v := iI (-1001)) S.1 S.2.1 dX6_cast_15 (by decide) ?_
          have eO : opCast s kp kn ((rn : Nat) : Int) x = (-1001, s, kp, kn) := by unfold opCast; rw [if_neg (by omega)]
          rw [eO] at hret
          exact hret 18 ls _ _ (-1001) (wi) dX6_cast_18 rfl rfl hH hS
  · refine zv_top (z := 0) (z2 := ((0 : Nat) : Int)) rfl ?_
    refine zv_if_eq (tgt := 15) S dX6_cast_5 (by decide) (by decide) (fun c_5 => ?_) (fun c_5 => ?_)
    · skip
      refine lv_sipush (v := iI (-1001)) S.1 S.2.1 dX6_cast_15 (by decide) ?_
      have eO : opCast s kp kn r x = (-1001, s, kp, kn) := by unfold opCast; rw [if_neg (by omega)]
      rw [eO] at hret
      exact hret 18 ls _ _ (-1001) (wi) dX6_cast_18 rfl rfl hH hS
    · exact (show False by omega).elim

theorem mX6_setChangeTimes_1 : Cond.constantLong RX6 122 (60) ∈ wsX6_setChangeTimes := List.mem_of_getElem? (i := 1) rfl
theorem mX6_setChangeTimes_2 : Cond.fieldLink RX6 7 "RoleDoublingPlannerModel" "s" "[I" ∈ wsX6_setChangeTimes := List.mem_of_getElem? (i := 2) rfl
theorem nX6_setChangeTimes_X6 : ∀ w ∈ wsX60, w ∈ wsX6_setChangeTimes := fun _ h => List.mem_cons_of_mem _ (List.mem_append_right _ h)
set_option maxHeartbeats 4000000 in
set_option maxRecDepth 100000 in
theorem kX6_setChangeTimes (l : Launch) (X : XT) (h : Nat) (Q : Nat → Nat) (s : Nat → Int) (rd : Nat → Int) (kp : Nat → Int) (kn : Nat) (tx : Nat → Int) (ln : Int) (sp : Int) (rs : Int) (wi : Nat → Int) (gi : Nat → Int) (r : Int) (o : Int) (i : Int) (hs : okR s) (hr : inR r) (ho : inR o) (hi : inR i) (hkn : kn ≤ 5) (hn1 : 1 ≤ nr s) : Ci l yX6_setChangeTimes wsX6_setChangeTimes (rmD 7) X [.ref h, .int (iI (r)), .int (iI (o)), .int (iI (i))] [mO h Q ((kn : Nat) : Int) ln sp rs, aW X (Q 0) 125 s, aW X (Q 1) 125 rd, aW X (Q 2) 625 kp, aW X (Q 3) 400 tx, aW X (Q 4) 8 wi, aW X (Q 5) 8 gi] (fun (z : Int) (wj : Nat → Int) => z = (opSet s kp kn r o i).1) (fun (wj : Nat → Int) => [mO h Q (((opSet s kp kn r o i).2.2.2 : Nat) : Int) ln sp rs, aW X (Q 0) 125 ((opSet s kp kn r o i).2.1), aW X (Q 1) 125 rd, aW X (Q 2) 625 ((opSet s kp kn r o i).2.2.1), aW X (Q 3) 400 tx, aW X (Q 4) 8 wj, aW X (Q 5) 8 gi]) := by
  refine Ci.ofW (cc := cX6_setChangeTimes) (maxL := 4) (by decide) rfl (Nat.le_of_ble_eq_true rfl) ?_
  intro p_ e_ s_ m_ below meth c_ A Q_ S hA hAM hH hS hret ls hl
  have hl : lv_has ls 4 [(0, .ref (h)), (1, .int (iI (r))), (2, .int (iI (o))), (3, .int (iI (i)))] := hl
  have hk1 := hs.nr8
  have hk2 := hs.na20
  have hk3 := hs.ns10
  refine lv_aload_n S.1 S.2.1 dX6_setChangeTimes_0 rfl (lv_at hl 0 rfl) ?_
  refine lv_iload_n S.1 S.2.1 dX6_setChangeTimes_1 rfl (lv_at hl 1 rfl) ?_
  refine zc_Vi (n := 1) (As := [.int (iI (r))]) (rest := []) S hAM hA (kX6_isRole l X h Q s rd kp ((kn : Nat) : Int) tx ln sp rs wi gi r hs (by omega)) rfl gX6_setChangeTimes_X6_isRole  (by decide +kernel) ⟨Nat.le_of_ble_eq_true rfl, Nat.le_of_ble_eq_true rfl⟩ hH hS [0, 1, 2, 3, 4, 5, 6] rfl 7 rfl (List.Perm.refl _) 6 0 rfl rfl rfl hl.1 rfl (Nat.le_of_ble_eq_true rfl) dX6_setChangeTimes_2 ⟨Nat.le_of_ble_eq_true rfl, Nat.le_of_ble_eq_true rfl⟩ (fun z2 _ H locs hp3 hH hS => ?_)
  have hH : Hold X A [mO h Q ((kn : Nat) : Int) ln sp rs, aW X (Q 0) 125 s, aW X (Q 1) 125 rd, aW X (Q 2) 625 kp, aW X (Q 3) 400 tx, aW X (Q 4) 8 wi, aW X (Q 5) 8 gi].flatten H := hH
  rcases hp3 with ⟨rfl, b_2⟩ | ⟨rfl, b_2⟩
  · refine zv_top (z := 1) (z2 := ((1 : Nat) : Int)) rfl ?_
    obtain ⟨rn, rfl⟩ : ∃ rn : Nat, r = ((rn : Nat) : Int) := ⟨r.toNat, by omega⟩
    refine zv_if_eq (tgt := 32) S dX6_setChangeTimes_5 (by decide) (by decide) (fun c_5 => ?_) (fun c_5 => ?_)
    · exact (show False by omega).elim
    · skip
      refine lv_iload_n S.1 S.2.1 dX6_setChangeTimes_8 rfl (lv_at hl 2 rfl) ?_
      refine lv_i2l (v := lI (o)) S.1 S.2.1 dX6_setChangeTimes_9 (lI_i (by omega)) ?_
      refine lv_lconst (v := lI (0)) S.1 S.2.1 dX6_setChangeTimes_10 (by decide) ?_
      refine lv_ldc2 (v := lI (60)) S.1 S.2.1 S.2.2.2.1 (zv_constL S mX6_setChangeTimes_1 (by decide)) dX6_setChangeTimes_11 ?_
      refine zc_Si (n := 3) (As := [.long (lI (o)), .long (lI (0)), .long (lI (60))]) (rest := []) S hAM hA (kX6_in l X o 0 60 (by omega) (by omega) (by omega)) rfl gX6_setChangeTimes_X6_in  (by decide +kernel) ⟨Nat.le_of_ble_eq_true rfl, Nat.le_of_ble_eq_true rfl⟩ hH hS [0, 1, 2, 3, 4, 5, 6] rfl 7 rfl (List.Perm.refl _)  rfl hl.1 rfl (Nat.le_of_ble_eq_true rfl) dX6_setChangeTimes_14 ⟨Nat.le_of_ble_eq_true rfl, Nat.le_of_ble_eq_true rfl⟩ (fun z5 _ H locs hp6 hH hS => ?_)
      have hH : Hold X A [mO h Q ((kn : Nat) : Int) ln sp rs, aW X (Q 0) 125 s, aW X (Q 1) 125 rd, aW X (Q 2) 625 kp, aW X (Q 3) 400 tx, aW X (Q 4) 8 wi, aW X (Q 5) 8 gi].flatten H := hH
      rcases hp6 with ⟨rfl, b_14⟩ | ⟨rfl, b_14⟩
      · refine zv_top (z := 1) (z2 := ((1 : Nat) : Int)) rfl ?_
        refine zv_if_eq (tgt := 32) S dX6_setChangeTimes_17 (by decide) (by decide) (fun c_17 => ?_) (fun c_17 => ?_)
        · exact (show False by omega).elim
        · skip
          refine lv_iload_n S.1 S.2.1 dX6_setChangeTimes_20 rfl (lv_at hl 3 rfl) ?_
          refine lv_i2l (v := lI (i)) S.1 S.2.1 dX6_setChangeTimes_21 (lI_i (by omega)) ?_
          refine lv_lconst (v := lI (0)) S.1 S.2.1 dX6_setChangeTimes_22 (by decide) ?_
          refine lv_ldc2 (v := lI (60)) S.1 S.2.1 S.2.2.2.1 (zv_constL S mX6_setChangeTimes_1 (by decide)) dX6_setChangeTimes_23 ?_
          refine zc_Si (n := 3) (As := [.long (lI (i)), .long (lI (0)), .long (lI (60))]) (rest := []) S hAM hA (kX6_in l X i 0 60 (by omega) (by omega) (by omega)) rfl gX6_setChangeTimes_X6_in  (by decide +kernel) ⟨Nat.le_of_ble_eq_true rfl, Nat.le_of_ble_eq_true rfl⟩ hH hS [0, 1, 2, 3, 4, 5, 6] rfl 7 rfl (List.Perm.refl _)  rfl hl.1 rfl (Nat.le_of_ble_eq_true rfl) dX6_setChangeTimes_26 ⟨Nat.le_of_ble_eq_true rfl, Nat.le_of_ble_eq_true rfl⟩ (fun z8 _ H locs hp9 hH hS => ?_)
          have hH : Hold X A [mO h Q ((kn : Nat) : Int) ln sp rs, aW X (Q 0) 125 s, aW X (Q 1) 125 rd, aW X (Q 2) 625 kp, aW X (Q 3) 400 tx, aW X (Q 4) 8 wi, aW X (Q 5) 8 gi].flatten H := hH
          rcases hp9 with ⟨rfl, b_26⟩ | ⟨rfl, b_26⟩
          · refine zv_top (z := 1) (z2 := ((1 : Nat) : Int)) rfl ?_
            refine zv_if_ne (tgt := 36) S dX6_setChangeTimes_29 (by decide) (by decide) (fun c_29 => ?_) (fun c_29 => ?_)
            · skip
              refine lv_aload_n S.1 S.2.1 dX6_setChangeTimes_36 rfl (lv_at hl 0 rfl) ?_
              refine zc_Vv (n := 0) (As := []) (rest := []) S hAM hA (kX6_keeps l X h Q s rd kp kn tx ln sp rs wi gi hkn) rfl gX6_setChangeTimes_X6_keeps  (by decide +kernel) ⟨Nat.le_of_ble_eq_true rfl, Nat.le_of_ble_eq_true rfl⟩ hH hS [0, 1, 2, 3, 4, 5, 6] rfl 7 rfl (List.Perm.refl _) 6 0 rfl rfl rfl hl.1 rfl (Nat.le_of_ble_eq_true rfl) dX6_setChangeTimes_37 ⟨Nat.le_of_ble_eq_true rfl, Nat.le_of_ble_eq_true rfl⟩ (fun _ H locs hp12 hH hS => ?_)
              have hH : Hold X A [mO h Q (((kmF kn) : Nat) : Int) ln sp rs, aW X (Q 0) 125 s, aW X (Q 1) 125 rd, aW X (Q 2) 625 (kpF s kp kn), aW X (Q 3) 400 tx, aW X (Q 4) 8 wi, aW X (Q 5) 8 gi].flatten H := hH
              refine lv_aload_n S.1 S.2.1 dX6_setChangeTimes_40 rfl (lv_at hl 0 rfl) ?_
              refine zv_get (v := .ref (Q 0)) S hAM hH nX6_setChangeTimes_X6 0 rfl rfl 0 (by decide) mX6_setChangeTimes_2 rfl rfl dX6_setChangeTimes_41 ?_
              refine lv_bipush (v := iI (((20 : Nat) : Int))) S.1 S.2.1 dX6_setChangeTimes_44 (by decide) ?_
              refine lv_iload_n S.1 S.2.1 dX6_setChangeTimes_46 rfl (lv_at hl 1 rfl) ?_
              refine zv_iadd (z := (((20 + rn) : Nat) : Int)) S dX6_setChangeTimes_47 (by omega) ?_
              refine lv_iload_n S.1 S.2.1 dX6_setChangeTimes_48 rfl (lv_at hl 2 rfl) ?_
              refine zv_iast (z := o) (w2 := [mO h Q (((kmF kn) : Nat) : Int) ln sp rs, aW X (Q 0) 125 (uI s (20 + rn) (o)), aW X (Q 1) 125 rd, aW X (Q 2) 625 (kpF s kp kn), aW X (Q 3) 400 tx, aW X (Q 4) 8 wi, aW X (Q 5) 8 gi].flatten) S hAM hH hS 1 rfl ((20 + rn)) rfl (by omega) (by decide) rfl dX6_setChangeTimes_49 (fun H locs hH hS => ?_)
              refine lv_aload_n S.1 S.2.1 dX6_setChangeTimes_50 rfl (lv_at hl 0 rfl) ?_
              refine zv_get (v := .ref (Q 0)) S hAM hH nX6_setChangeTimes_X6 0 rfl rfl 0 (by decide) mX6_setChangeTimes_2 rfl rfl dX6_setChangeTimes_51 ?_
              refine lv_bipush (v := iI (((28 : Nat) : Int))) S.1 S.2.1 dX6_setChangeTimes_54 (by decide) ?_
              refine lv_iload_n S.1 S.2.1 dX6_setChangeTimes_56 rfl (lv_at hl 1 rfl) ?_
              refine zv_iadd (z := (((28 + rn) : Nat) : Int)) S dX6_setChangeTimes_57 (by omega) ?_
              refine lv_iload_n S.1 S.2.1 dX6_setChangeTimes_58 rfl (lv_at hl 3 rfl) ?_
              refine zv_iast (z := i) (w2 := [mO h Q (((kmF kn) : Nat) : Int) ln sp rs, aW X (Q 0) 125 (uI (uI s (20 + rn) (o)) (28 + rn) (i)), aW X (Q 1) 125 rd, aW X (Q 2) 625 (kpF s kp kn), aW X (Q 3) 400 tx, aW X (Q 4) 8 wi, aW X (Q 5) 8 gi].flatten) S hAM hH hS 1 rfl ((28 + rn)) rfl (by omega) (by decide) rfl dX6_setChangeTimes_59 (fun H locs hH hS => ?_)
              have hH : Hold X A [mO h Q (((kmF kn) : Nat) : Int) ln sp rs, aW X (Q 0) 125 (setCh s rn o i), aW X (Q 1) 125 rd, aW X (Q 2) 625 (kpF s kp kn), aW X (Q 3) 400 tx, aW X (Q 4) 8 wi, aW X (Q 5) 8 gi].flatten _ := hH
              obtain ⟨s1, es1⟩ : ∃ y_, y_ = (setCh s rn o i) := ⟨_, rfl⟩
              rw [← es1] at hH
              have hH : Hold X A [mO h Q (((kmF kn) : Nat) : Int) ln sp rs, aW X (Q 0) 125 s1, aW X (Q 1) 125 rd, aW X (Q 2) 625 (kpF s kp kn), aW X (Q 3) 400 tx, aW X (Q 4) 8 wi, aW X (Q 5) 8 gi].flatten _ := hH
              have hs1 : okR s1 := by rw [es1]; exact okR_setCh hs (by omega) (by omega) (by omega)
              have en1 : nr s1 = nr s := nr_eq (by rw [es1]; unfold setCh; rw [uI_n (by omega), uI_n (by omega)])
              refine lv_aload_n S.1 S.2.1 dX6_setChangeTimes_60 rfl (lv_at hl 0 rfl) ?_
              refine zc_Vi (n := 0) (As := []) (rest := []) S hAM hA (kX6_repairs l X h Q s1 rd (kpF s kp kn) (((kmF kn) : Nat) : Int) tx ln sp rs wi gi hs1 (by omega)) rfl gX6_setChangeTimes_X6_repairs  (by decide +kernel) ⟨Nat.le_of_ble_eq_true rfl, Nat.le_of_ble_eq_true rfl⟩ hH hS [0, 1, 2, 3, 4, 5, 6] rfl 7 rfl (List.Perm.refl _) 6 0 rfl rfl rfl hl.1 rfl (Nat.le_of_ble_eq_true rfl) dX6_setChangeTimes_61 ⟨Nat.le_of_ble_eq_true rfl, Nat.le_of_ble_eq_true rfl⟩ (fun z14 _ H locs hp15 hH hS => ?_)
              have hH : Hold X A [mO h Q (((kmF kn) : Nat) : Int) ln sp rs, aW X (Q 0) 125 (rpA s1), aW X (Q 1) 125 rd, aW X (Q 2) 625 (kpF s kp kn), aW X (Q 3) 400 tx, aW X (Q 4) 8 (wiF s1 0 wi), aW X (Q 5) 8 gi].flatten H := hH
              obtain rfl := hp15
              subst es1
              have eO : opSet s kp kn ((rn : Nat) : Int) o i = (((loA (setCh s rn o i) : Nat) : Int), rpA (setCh s rn o i), kpF s kp kn, kmF kn) := by unfold opSet; rw [if_pos (by omega), Int.toNat_natCast]
              rw [eO] at hret
              exact hret 64 ls _ _ (((loA (setCh s rn o i) : Nat) : Int)) ((wiF (setCh s rn o i) 0 wi)) dX6_setChangeTimes_64 rfl rfl hH hS
            · exact (show False by omega).elim
          · refine zv_top (z := 0) (z2 := ((0 : Nat) : Int)) rfl ?_
            refine zv_if_ne (tgt := 36) S dX6_setChangeTimes_29 (by decide) (by decide) (fun c_29 => ?_) (fun c_29 => ?_)
            · exact (show False by omega).elim
            · skip
              refine lv_sipush (v := iI (-1001)) S.1 S.2.1 dX6_setChangeTimes_32 (by decide) ?_
              have eO : opSet s kp kn ((rn : Nat) : Int) o i = (-1001, s, kp, kn) := by unfold opSet; rw [if_neg (by omega)]
              rw [eO] at hret
              exact hret 35 ls _ _ (-1001) (wi) dX6_setChangeTimes_35 rfl rfl hH hS
      · refine zv_top (z := 0) (z2 := ((0 : Nat) : Int)) rfl ?_
        refine zv_if_eq (tgt := 32) S dX6_setChangeTimes_17 (by decide) (by decide) (fun c_17 => ?_) (fun c_17 => ?_)
        · skip
          refine lv_sipush (v := iI (-1001)) S.1 S.2.1 dX6_setChangeTimes_32 (by decide) ?_
          have eO : opSet s kp kn ((rn : Nat) : Int) o i = (-1001, s, kp, kn) := by unfold opSet; rw [if_neg (by omega)]
          rw [eO] at hret
          exact hret 35 ls _ _ (-1001) (wi) dX6_setChangeTimes_35 rfl rfl hH hS
        · exact (show False by omega).elim
  · refine zv_top (z := 0) (z2 := ((0 : Nat) : Int)) rfl ?_
    refine zv_if_eq (tgt := 32) S dX6_setChangeTimes_5 (by decide) (by decide) (fun c_5 => ?_) (fun c_5 => ?_)
    · skip
      refine lv_sipush (v := iI (-1001)) S.1 S.2.1 dX6_setChangeTimes_32 (by decide) ?_
      have eO : opSet s kp kn r o i = (-1001, s, kp, kn) := by unfold opSet; rw [if_neg (by omega)]
      rw [eO] at hret
      exact hret 35 ls _ _ (-1001) (wi) dX6_setChangeTimes_35 rfl rfl hH hS
    · exact (show False by omega).elim

theorem mX6_addAppearance_1 : Cond.fieldLink RX6 7 "RoleDoublingPlannerModel" "s" "[I" ∈ wsX6_addAppearance := List.mem_of_getElem? (i := 1) rfl
theorem nX6_addAppearance_X6 : ∀ w ∈ wsX60, w ∈ wsX6_addAppearance := fun _ h => List.mem_cons_of_mem _ (List.mem_append_right _ h)
set_option maxHeartbeats 4000000 in
set_option maxRecDepth 100000 in
theorem kX6_addAppearance (l : Launch) (X : XT) (h : Nat) (Q : Nat → Nat) (s : Nat → Int) (rd : Nat → Int) (kp : Nat → Int) (kn : Nat) (tx : Nat → Int) (ln : Int) (sp : Int) (rs : Int) (wi : Nat → Int) (gi : Nat → Int) (r : Int) (c : Int) (e : Int) (x : Int) (hs : okR s) (hr : inR r) (hc : inR c) (he : inR e) (hx : inR x) (hkn : kn ≤ 5) (hn1 : 1 ≤ nr s) : Ci l yX6_addAppearance wsX6_addAppearance (rmD 7) X [.ref h, .int (iI (r)), .int (iI (c)), .int (iI (e)), .int (iI (x))] [mO h Q ((kn : Nat) : Int) ln sp rs, aW X (Q 0) 125 s, aW X (Q 1) 125 rd, aW X (Q 2) 625 kp, aW X (Q 3) 400 tx, aW X (Q 4) 8 wi, aW X (Q 5) 8 gi] (fun (z : Int) (wj : Nat → Int) => z = (opAdd s kp kn r c e x).1) (fun (wj : Nat → Int) => [mO h Q (((opAdd s kp kn r c e x).2.2.2 : Nat) : Int) ln sp rs, aW X (Q 0) 125 ((opAdd s kp kn r c e x).2.1), aW X (Q 1) 125 rd, aW X (Q 2) 625 ((opAdd s kp kn r c e x).2.2.1), aW X (Q 3) 400 tx, aW X (Q 4) 8 wj, aW X (Q 5) 8 gi]) := by
  refine Ci.ofW (cc := cX6_addAppearance) (maxL := 5) (by decide) rfl (Nat.le_of_ble_eq_true rfl) ?_
  intro p_ e_ s_ m_ below meth c_ A Q_ S hA hAM hH hS hret ls hl
  have hl : lv_has ls 5 [(0, .ref (h)), (1, .int (iI (r))), (2, .int (iI (c))), (3, .int (iI (e))), (4, .int (iI (x)))] := hl
  have hk1 := hs.nr8
  have hk2 := hs.na20
  have hk3 := hs.ns10
  refine lv_aload_n S.1 S.2.1 dX6_addAppearance_0 rfl (lv_at hl 0 rfl) ?_
  refine lv_iload_n S.1 S.2.1 dX6_addAppearance_1 rfl (lv_at hl 1 rfl) ?_
  refine zc_Vi (n := 1) (As := [.int (iI (r))]) (rest := []) S hAM hA (kX6_isRole l X h Q s rd kp ((kn : Nat) : Int) tx ln sp rs wi gi r hs (by omega)) rfl gX6_addAppearance_X6_isRole  (by decide +kernel) ⟨Nat.le_of_ble_eq_true rfl, Nat.le_of_ble_eq_true rfl⟩ hH hS [0, 1, 2, 3, 4, 5, 6] rfl 7 rfl (List.Perm.refl _) 6 0 rfl rfl rfl hl.1 rfl (Nat.le_of_ble_eq_true rfl) dX6_addAppearance_2 ⟨Nat.le_of_ble_eq_true rfl, Nat.le_of_ble_eq_true rfl⟩ (fun z2 _ H locs hp3 hH hS => ?_)
  have hH : Hold X A [mO h Q ((kn : Nat) : Int) ln sp rs, aW X (Q 0) 125 s, aW X (Q 1) 125 rd, aW X (Q 2) 625 kp, aW X (Q 3) 400 tx, aW X (Q 4) 8 wi, aW X (Q 5) 8 gi].flatten H := hH
  rcases hp3 with ⟨rfl, b_2⟩ | ⟨rfl, b_2⟩
  · refine zv_top (z := 1) (z2 := ((1 : Nat) : Int)) rfl ?_
    refine zv_if_eq (tgt := 39) S dX6_addAppearance_5 (by decide) (by decide) (fun c_5 => ?_) (fun c_5 => ?_)
    · exact (show False by omega).elim
    · skip
      refine lv_aload_n S.1 S.2.1 dX6_addAppearance_8 rfl (lv_at hl 0 rfl) ?_
      refine lv_iload_n S.1 S.2.1 dX6_addAppearance_9 rfl (lv_at hl 2 rfl) ?_
      refine zc_Vi (n := 1) (As := [.int (iI (c))]) (rest := []) S hAM hA (kX6_isScene l X h Q s rd kp ((kn : Nat) : Int) tx ln sp rs wi gi c hs (by omega)) rfl gX6_addAppearance_X6_isScene  (by decide +kernel) ⟨Nat.le_of_ble_eq_true rfl, Nat.le_of_ble_eq_true rfl⟩ hH hS [0, 1, 2, 3, 4, 5, 6] rfl 7 rfl (List.Perm.refl _) 6 0 rfl rfl rfl hl.1 rfl (Nat.le_of_ble_eq_true rfl) dX6_addAppearance_10 ⟨Nat.le_of_ble_eq_true rfl, Nat.le_of_ble_eq_true rfl⟩ (fun z5 _ H locs hp6 hH hS => ?_)
      have hH : Hold X A [mO h Q ((kn : Nat) : Int) ln sp rs, aW X (Q 0) 125 s, aW X (Q 1) 125 rd, aW X (Q 2) 625 kp, aW X (Q 3) 400 tx, aW X (Q 4) 8 wi, aW X (Q 5) 8 gi].flatten H := hH
      rcases hp6 with ⟨rfl, b_10⟩ | ⟨rfl, b_10⟩
      · refine zv_top (z := 1) (z2 := ((1 : Nat) : Int)) rfl ?_
        obtain ⟨cn, rfl⟩ : ∃ cn : Nat, c = ((cn : Nat) : Int) := ⟨c.toNat, by omega⟩
        have hlen := hs.2.2.2.1 cn (by omega)
        refine zv_if_eq (tgt := 39) S dX6_addAppearance_13 (by decide) (by decide) (fun c_13 => ?_) (fun c_13 => ?_)
        · exact (show False by omega).elim
        · skip
          refine lv_iload_n S.1 S.2.1 dX6_addAppearance_16 rfl (lv_at hl 3 rfl) ?_
          refine zv_if_lt (tgt := 39) S dX6_addAppearance_17 (by decide) (by omega) (fun c_17 => ?_) (fun c_17 => ?_)
          · skip
            refine lv_sipush (v := iI (-1001)) S.1 S.2.1 dX6_addAppearance_39 (by decide) ?_
            have eO : opAdd s kp kn r ((cn : Nat) : Int) e x = (-1001, s, kp, kn) := by unfold opAdd; rw [Int.toNat_natCast]; rw [if_neg (by omega)]
            rw [eO] at hret
            exact hret 42 ls _ _ (-1001) (wi) dX6_addAppearance_42 rfl rfl hH hS
          · skip
            refine lv_iload_n S.1 S.2.1 dX6_addAppearance_20 rfl (lv_at hl 3 rfl) ?_
            refine lv_iload S.1 S.2.1 dX6_addAppearance_21 (lv_at hl 4 rfl) ?_
            refine zv_icmp_ge (tgt := 39) S dX6_addAppearance_23 (by decide) (by omega) (by omega) (fun c_23 => ?_) (fun c_23 => ?_)
            · skip
              refine lv_sipush (v := iI (-1001)) S.1 S.2.1 dX6_addAppearance_39 (by decide) ?_
              have eO : opAdd s kp kn r ((cn : Nat) : Int) e x = (-1001, s, kp, kn) := by unfold opAdd; rw [Int.toNat_natCast]; rw [if_neg (by omega)]
              rw [eO] at hret
              exact hret 42 ls _ _ (-1001) (wi) dX6_addAppearance_42 rfl rfl hH hS
            · skip
              refine lv_iload S.1 S.2.1 dX6_addAppearance_26 (lv_at hl 4 rfl) ?_
              refine lv_aload_n S.1 S.2.1 dX6_addAppearance_28 rfl (lv_at hl 0 rfl) ?_
              refine zv_get (v := .ref (Q 0)) S hAM hH nX6_addAppearance_X6 0 rfl rfl 0 (by decide) mX6_addAppearance_1 rfl rfl dX6_addAppearance_29 ?_
              refine lv_iconst (v := iI (((1 : Nat) : Int))) S.1 S.2.1 dX6_addAppearance_32 (by decide) ?_
              refine lv_iload_n S.1 S.2.1 dX6_addAppearance_33 rfl (lv_at hl 2 rfl) ?_
              refine zv_iadd (z := (((1 + cn) : Nat) : Int)) S dX6_addAppearance_34 (by omega) ?_
              refine zv_iald S hAM hH 1 rfl ((1 + cn)) rfl (by omega) (by decide) dX6_addAppearance_35 ?_
              refine zv_icmp_le (tgt := 43) S dX6_addAppearance_36 (by decide) (by omega) (hs.inRk _ (by omega)) (fun c_36 => ?_) (fun c_36 => ?_)
              · skip
                refine lv_aload_n S.1 S.2.1 dX6_addAppearance_43 rfl (lv_at hl 0 rfl) ?_
                refine zv_get (v := .ref (Q 0)) S hAM hH nX6_addAppearance_X6 0 rfl rfl 0 (by decide) mX6_addAppearance_1 rfl rfl dX6_addAppearance_44 ?_
                refine lv_bipush (v := iI (((44 : Nat) : Int))) S.1 S.2.1 dX6_addAppearance_47 (by decide) ?_
                refine zv_iald S hAM hH 1 rfl (44) rfl (by decide) (by decide) dX6_addAppearance_49 ?_
                refine zv_top (z := s 44) (z2 := ((na s : Nat) : Int)) hs.e44 ?_
                refine lv_bipush (v := iI (((20 : Nat) : Int))) S.1 S.2.1 dX6_addAppearance_50 (by decide) ?_
                refine zv_icmp_ne (tgt := 59) S dX6_addAppearance_52 (by decide) (by omega) (by decide) (fun c_52 => ?_) (fun c_52 => ?_)
                · skip
                  refine lv_aload_n S.1 S.2.1 dX6_addAppearance_59 rfl (lv_at hl 0 rfl) ?_
                  refine zc_Vv (n := 0) (As := []) (rest := []) S hAM hA (kX6_keeps l X h Q s rd kp kn tx ln sp rs wi gi hkn) rfl gX6_addAppearance_X6_keeps  (by decide +kernel) ⟨Nat.le_of_ble_eq_true rfl, Nat.le_of_ble_eq_true rfl⟩ hH hS [0, 1, 2, 3, 4, 5, 6] rfl 7 rfl (List.Perm.refl _) 6 0 rfl rfl rfl hl.1 rfl (Nat.le_of_ble_eq_true rfl) dX6_addAppearance_60 ⟨Nat.le_of_ble_eq_true rfl, Nat.le_of_ble_eq_true rfl⟩ (fun _ H locs hp9 hH hS => ?_)
                  have hH : Hold X A [mO h Q (((kmF kn) : Nat) : Int) ln sp rs, aW X (Q 0) 125 s, aW X (Q 1) 125 rd, aW X (Q 2) 625 (kpF s kp kn), aW X (Q 3) 400 tx, aW X (Q 4) 8 wi, aW X (Q 5) 8 gi].flatten H := hH
                  refine lv_aload_n S.1 S.2.1 dX6_addAppearance_63 rfl (lv_at hl 0 rfl) ?_
                  refine zv_get (v := .ref (Q 0)) S hAM hH nX6_addAppearance_X6 0 rfl rfl 0 (by decide) mX6_addAppearance_1 rfl rfl dX6_addAppearance_64 ?_
                  refine lv_iload_n S.1 S.2.1 dX6_addAppearance_67 rfl (lv_at hl 1 rfl) ?_
                  refine lv_iload_n S.1 S.2.1 dX6_addAppearance_68 rfl (lv_at hl 2 rfl) ?_
                  refine lv_iload_n S.1 S.2.1 dX6_addAppearance_69 rfl (lv_at hl 3 rfl) ?_
                  refine lv_iload S.1 S.2.1 dX6_addAppearance_70 (lv_at hl 4 rfl) ?_
                  refine zc_Sv (n := 5) (As := [.ref (Q 0), .int (iI (r)), .int (iI ((cn : Nat) : Int)), .int (iI (e)), .int (iI (x))]) (rest := []) S hAM hA (kX6_appear l X (Q 0) s r ((cn : Nat) : Int) e x hs (by omega)) rfl gX6_addAppearance_X6_appear  (by decide +kernel) ⟨Nat.le_of_ble_eq_true rfl, Nat.le_of_ble_eq_true rfl⟩ hH hS [1, 0, 2, 3, 4, 5, 6] rfl 7 rfl (by decide)  rfl hl.1 rfl (Nat.le_of_ble_eq_true rfl) dX6_addAppearance_72 ⟨Nat.le_of_ble_eq_true rfl, Nat.le_of_ble_eq_true rfl⟩ (fun _ H locs hp12 hH hS => ?_)
                  have hH : Hold X A [aW X (Q 0) 125 (addApp s r ((cn : Nat) : Int) e x), mO h Q (((kmF kn) : Nat) : Int) ln sp rs, aW X (Q 1) 125 rd, aW X (Q 2) 625 (kpF s kp kn), aW X (Q 3) 400 tx, aW X (Q 4) 8 wi, aW X (Q 5) 8 gi].flatten H := hH
                  obtain ⟨s1, es1⟩ : ∃ y_, y_ = ((addApp s r ((cn : Nat) : Int) e x)) := ⟨_, rfl⟩
                  rw [← es1] at hH
                  have hH : Hold X A [aW X (Q 0) 125 s1, mO h Q (((kmF kn) : Nat) : Int) ln sp rs, aW X (Q 1) 125 rd, aW X (Q 2) 625 (kpF s kp kn), aW X (Q 3) 400 tx, aW X (Q 4) 8 wi, aW X (Q 5) 8 gi].flatten _ := hH
                  have hs1 : okR s1 := by rw [es1]; exact okR_addApp hs (by omega) (by omega) (by omega) (by omega)
                  have en1 : nr s1 = nr s := nr_eq (by rw [es1]; exact addApp_o (by omega) (by omega))
                  refine lv_aload_n S.1 S.2.1 dX6_addAppearance_75 rfl (lv_at hl 0 rfl) ?_
                  refine zc_Vi (n := 0) (As := []) (rest := []) S hAM hA (kX6_repairs l X h Q s1 rd (kpF s kp kn) (((kmF kn) : Nat) : Int) tx ln sp rs wi gi hs1 (by omega)) rfl gX6_addAppearance_X6_repairs  (by decide +kernel) ⟨Nat.le_of_ble_eq_true rfl, Nat.le_of_ble_eq_true rfl⟩ hH hS [1, 0, 2, 3, 4, 5, 6] rfl 7 rfl (by decide) 6 0 rfl rfl rfl hl.1 rfl (Nat.le_of_ble_eq_true rfl) dX6_addAppearance_76 ⟨Nat.le_of_ble_eq_true rfl, Nat.le_of_ble_eq_true rfl⟩ (fun z14 _ H locs hp15 hH hS => ?_)
                  have hH : Hold X A [mO h Q (((kmF kn) : Nat) : Int) ln sp rs, aW X (Q 0) 125 (rpA s1), aW X (Q 1) 125 rd, aW X (Q 2) 625 (kpF s kp kn), aW X (Q 3) 400 tx, aW X (Q 4) 8 (wiF s1 0 wi), aW X (Q 5) 8 gi].flatten H := hH
                  obtain rfl := hp15
                  refine lv_pop S.1 S.2.1 dX6_addAppearance_79 rfl ?_
                  refine lv_aload_n S.1 S.2.1 dX6_addAppearance_80 rfl (lv_at hl 0 rfl) ?_
                  refine zv_get (v := .ref (Q 0)) S hAM hH nX6_addAppearance_X6 0 rfl rfl 0 (by decide) mX6_addAppearance_1 rfl rfl dX6_addAppearance_81 ?_
                  refine lv_bipush (v := iI (((44 : Nat) : Int))) S.1 S.2.1 dX6_addAppearance_84 (by decide) ?_
                  refine zv_iald S hAM hH 1 rfl (44) rfl (by decide) (by decide) dX6_addAppearance_86 ?_
                  refine zv_top (z := (rpA s1) 44) (z2 := (((na s + 1) : Nat) : Int)) (by unfold rpA; rw [rp_o _ hs1.nr8 (by omega), es1]; exact addApp_44 _ _ _ _ _) ?_
                  subst es1
                  have eO : opAdd s kp kn r ((cn : Nat) : Int) e x = ((((na s + 1) : Nat) : Int), rpA (addApp s r ((cn : Nat) : Int) e x), kpF s kp kn, kmF kn) := by unfold opAdd; rw [Int.toNat_natCast, if_pos (by omega), if_neg (by omega)]
                  rw [eO] at hret
                  exact hret 87 ls _ _ ((((na s + 1) : Nat) : Int)) ((wiF (addApp s r ((cn : Nat) : Int) e x) 0 wi)) dX6_addAppearance_87 rfl rfl hH hS
                · skip
                  refine lv_sipush (v := iI (-1003)) S.1 S.2.1 dX6_addAppearance_55 (by decide) ?_
                  have eO : opAdd s kp kn r ((cn : Nat) : Int) e x = (-1003, s, kp, kn) := by unfold opAdd; rw [Int.toNat_natCast, if_pos (by omega), if_pos (by omega)]
                  rw [eO] at hret
                  exact hret 58 ls _ _ (-1003) (wi) dX6_addAppearance_58 rfl rfl hH hS
              · skip
                refine lv_sipush (v := iI (-1001)) S.1 S.2.1 dX6_addAppearance_39 (by decide) ?_
                have eO : opAdd s kp kn r ((cn : Nat) : Int) e x = (-1001, s, kp, kn) := by unfold opAdd; rw [Int.toNat_natCast]; rw [if_neg (by omega)]
                rw [eO] at hret
                exact hret 42 ls _ _ (-1001) (wi) dX6_addAppearance_42 rfl rfl hH hS
      · refine zv_top (z := 0) (z2 := ((0 : Nat) : Int)) rfl ?_
        refine zv_if_eq (tgt := 39) S dX6_addAppearance_13 (by decide) (by decide) (fun c_13 => ?_) (fun c_13 => ?_)
        · skip
          refine lv_sipush (v := iI (-1001)) S.1 S.2.1 dX6_addAppearance_39 (by decide) ?_
          have eO : opAdd s kp kn r c e x = (-1001, s, kp, kn) := by unfold opAdd; rw [if_neg (by omega)]
          rw [eO] at hret
          exact hret 42 ls _ _ (-1001) (wi) dX6_addAppearance_42 rfl rfl hH hS
        · exact (show False by omega).elim
  · refine zv_top (z := 0) (z2 := ((0 : Nat) : Int)) rfl ?_
    refine zv_if_eq (tgt := 39) S dX6_addAppearance_5 (by decide) (by decide) (fun c_5 => ?_) (fun c_5 => ?_)
    · skip
      refine lv_sipush (v := iI (-1001)) S.1 S.2.1 dX6_addAppearance_39 (by decide) ?_
      have eO : opAdd s kp kn r c e x = (-1001, s, kp, kn) := by unfold opAdd; rw [if_neg (by omega)]
      rw [eO] at hret
      exact hret 42 ls _ _ (-1001) (wi) dX6_addAppearance_42 rfl rfl hH hS
    · exact (show False by omega).elim

theorem mX6_removeAppearance_1 : Cond.fieldLink RX6 7 "RoleDoublingPlannerModel" "s" "[I" ∈ wsX6_removeAppearance := List.mem_of_getElem? (i := 1) rfl
theorem nX6_removeAppearance_X6 : ∀ w ∈ wsX60, w ∈ wsX6_removeAppearance := fun _ h => List.mem_cons_of_mem _ (List.mem_append_right _ h)
set_option maxHeartbeats 4000000 in
set_option maxRecDepth 100000 in
theorem kX6_removeAppearance (l : Launch) (X : XT) (h : Nat) (Q : Nat → Nat) (s : Nat → Int) (rd : Nat → Int) (kp : Nat → Int) (kn : Nat) (tx : Nat → Int) (ln : Int) (sp : Int) (rs : Int) (wi : Nat → Int) (gi : Nat → Int) (a : Int) (hs : okR s) (ha : inR a) (hkn : kn ≤ 5) : Ci l yX6_removeAppearance wsX6_removeAppearance (rmD 2) X [.ref h, .int (iI (a))] [mO h Q ((kn : Nat) : Int) ln sp rs, aW X (Q 0) 125 s, aW X (Q 1) 125 rd, aW X (Q 2) 625 kp, aW X (Q 3) 400 tx, aW X (Q 4) 8 wi, aW X (Q 5) 8 gi] (fun (z : Int) (_ : Unit) => z = (opRem s kp kn a).1) (fun (_ : Unit) => [mO h Q (((opRem s kp kn a).2.2.2 : Nat) : Int) ln sp rs, aW X (Q 0) 125 ((opRem s kp kn a).2.1), aW X (Q 1) 125 rd, aW X (Q 2) 625 ((opRem s kp kn a).2.2.1), aW X (Q 3) 400 tx, aW X (Q 4) 8 wi, aW X (Q 5) 8 gi]) := by
  refine Ci.ofW (cc := cX6_removeAppearance) (maxL := 3) (by decide) rfl (Nat.le_of_ble_eq_true rfl) ?_
  intro p_ e_ s_ m_ below meth c_ A Q_ S hA hAM hH hS hret ls hl
  have hl : lv_has ls 3 [(0, .ref (h)), (1, .int (iI (a)))] := hl
  have hk1 := hs.nr8
  have hk2 := hs.na20
  have hk3 := hs.ns10
  refine lv_iload_n S.1 S.2.1 dX6_removeAppearance_0 rfl (lv_at hl 1 rfl) ?_
  refine lv_i2l (v := lI (a)) S.1 S.2.1 dX6_removeAppearance_1 (lI_i (by omega)) ?_
  refine lv_lconst (v := lI (0)) S.1 S.2.1 dX6_removeAppearance_2 (by decide) ?_
  refine lv_aload_n S.1 S.2.1 dX6_removeAppearance_3 rfl (lv_at hl 0 rfl) ?_
  refine zv_get (v := .ref (Q 0)) S hAM hH nX6_removeAppearance_X6 0 rfl rfl 0 (by decide) mX6_removeAppearance_1 rfl rfl dX6_removeAppearance_4 ?_
  refine lv_bipush (v := iI (((44 : Nat) : Int))) S.1 S.2.1 dX6_removeAppearance_7 (by decide) ?_
  refine zv_iald S hAM hH 1 rfl (44) rfl (by decide) (by decide) dX6_removeAppearance_9 ?_
  refine zv_top (z := s 44) (z2 := ((na s : Nat) : Int)) hs.e44 ?_
  refine lv_iconst (v := iI (((1 : Nat) : Int))) S.1 S.2.1 dX6_removeAppearance_10 (by decide) ?_
  refine zv_isub (z := (((na s : Nat) : Int) - ((1 : Nat) : Int))) S dX6_removeAppearance_11 rfl ?_
  refine lv_i2l (v := lI ((((na s : Nat) : Int) - ((1 : Nat) : Int)))) S.1 S.2.1 dX6_removeAppearance_12 (lI_i (by omega)) ?_
  refine zc_Si (n := 3) (As := [.long (lI (a)), .long (lI (0)), .long (lI ((((na s : Nat) : Int) - ((1 : Nat) : Int))))]) (rest := []) S hAM hA (kX6_in l X a 0 (((na s : Nat) : Int) - ((1 : Nat) : Int)) (by omega) (by omega) (by omega)) rfl gX6_removeAppearance_X6_in  (by decide +kernel) ⟨Nat.le_of_ble_eq_true rfl, Nat.le_of_ble_eq_true rfl⟩ hH hS [0, 1, 2, 3, 4, 5, 6] rfl 7 rfl (List.Perm.refl _)  rfl hl.1 rfl (Nat.le_of_ble_eq_true rfl) dX6_removeAppearance_13 ⟨Nat.le_of_ble_eq_true rfl, Nat.le_of_ble_eq_true rfl⟩ (fun z2 _ H locs hp3 hH hS => ?_)
  have hH : Hold X A [mO h Q ((kn : Nat) : Int) ln sp rs, aW X (Q 0) 125 s, aW X (Q 1) 125 rd, aW X (Q 2) 625 kp, aW X (Q 3) 400 tx, aW X (Q 4) 8 wi, aW X (Q 5) 8 gi].flatten H := hH
  rcases hp3 with ⟨rfl, b_13⟩ | ⟨rfl, b_13⟩
  · refine zv_top (z := 1) (z2 := ((1 : Nat) : Int)) rfl ?_
    obtain ⟨an, rfl⟩ : ∃ an : Nat, a = ((an : Nat) : Int) := ⟨a.toNat, by omega⟩
    refine zv_if_ne (tgt := 23) S dX6_removeAppearance_16 (by decide) (by decide) (fun c_16 => ?_) (fun c_16 => ?_)
    · skip
      refine lv_aload_n S.1 S.2.1 dX6_removeAppearance_23 rfl (lv_at hl 0 rfl) ?_
      refine zc_Vv (n := 0) (As := []) (rest := []) S hAM hA (kX6_keeps l X h Q s rd kp kn tx ln sp rs wi gi hkn) rfl gX6_removeAppearance_X6_keeps  (by decide +kernel) ⟨Nat.le_of_ble_eq_true rfl, Nat.le_of_ble_eq_true rfl⟩ hH hS [0, 1, 2, 3, 4, 5, 6] rfl 7 rfl (List.Perm.refl _) 6 0 rfl rfl rfl hl.1 rfl (Nat.le_of_ble_eq_true rfl) dX6_removeAppearance_24 ⟨Nat.le_of_ble_eq_true rfl, Nat.le_of_ble_eq_true rfl⟩ (fun _ H locs hp6 hH hS => ?_)
      have hH : Hold X A [mO h Q (((kmF kn) : Nat) : Int) ln sp rs, aW X (Q 0) 125 s, aW X (Q 1) 125 rd, aW X (Q 2) 625 (kpF s kp kn), aW X (Q 3) 400 tx, aW X (Q 4) 8 wi, aW X (Q 5) 8 gi].flatten H := hH
      refine lv_aload_n S.1 S.2.1 dX6_removeAppearance_27 rfl (lv_at hl 0 rfl) ?_
      refine zv_get (v := .ref (Q 0)) S hAM hH nX6_removeAppearance_X6 0 rfl rfl 0 (by decide) mX6_removeAppearance_1 rfl rfl dX6_removeAppearance_28 ?_
      refine lv_bipush (v := iI (((44 : Nat) : Int))) S.1 S.2.1 dX6_removeAppearance_31 (by decide) ?_
      refine lv_dup2_11 S.1 S.2.1 dX6_removeAppearance_33 rfl rfl ?_
      refine zv_iald S hAM hH 1 rfl (44) rfl (by decide) (by decide) dX6_removeAppearance_34 ?_
      refine zv_top (z := s 44) (z2 := ((na s : Nat) : Int)) hs.e44 ?_
      refine lv_iconst (v := iI (((1 : Nat) : Int))) S.1 S.2.1 dX6_removeAppearance_35 (by decide) ?_
      refine zv_isub (z := (((na s - 1) : Nat) : Int)) S dX6_removeAppearance_36 (by omega) ?_
      refine zv_iast (z := (((na s - 1) : Nat) : Int)) (w2 := [mO h Q (((kmF kn) : Nat) : Int) ln sp rs, aW X (Q 0) 125 (uI s 44 ((((na s - 1) : Nat) : Int))), aW X (Q 1) 125 rd, aW X (Q 2) 625 (kpF s kp kn), aW X (Q 3) 400 tx, aW X (Q 4) 8 wi, aW X (Q 5) 8 gi].flatten) S hAM hH hS 1 rfl (44) rfl (by decide) (by decide) rfl dX6_removeAppearance_37 (fun H locs hH hS => ?_)
      refine lv_bipush (v := iI (((45 : Nat) : Int))) S.1 S.2.1 dX6_removeAppearance_38 (by decide) ?_
      refine lv_iconst (v := iI (((4 : Nat) : Int))) S.1 S.2.1 dX6_removeAppearance_40 (by decide) ?_
      refine lv_iload_n S.1 S.2.1 dX6_removeAppearance_41 rfl (lv_at hl 1 rfl) ?_
      refine zv_imul (z := (((4 * an) : Nat) : Int)) S dX6_removeAppearance_42 (by omega) ?_
      refine zv_iadd (z := (((45 + (4 * an)) : Nat) : Int)) S dX6_removeAppearance_43 (by omega) ?_
      refine lv_istore_n (lv' := [(2, .int (iI (((45 + (4 * an)) : Nat) : Int))), (0, .ref (h)), (1, .int (iI ((an : Nat) : Int)))]) S.1 S.2.1 dX6_removeAppearance_44 rfl hl (by decide) rfl (fun ls hl => ?_)
      have lp45 : ∀ (n : Nat) (k : Nat) (sv : Nat → Int), 45 + (4 * (na s - 1)) - k < n → (45 + (4 * an) ≤ k ∧ k ≤ 45 + (4 * (na s - 1))) → (∀ j, j < 125 → sv j = (if j = 44 then (((na s - 1) : Nat) : Int) else if 45 + (4 * an) ≤ j ∧ j < k then s (j + 4) else s j)) → ∀ (H : Heap) (locs : List Loc), Hold X A [mO h Q (((kmF kn) : Nat) : Int) ln sp rs, aW X (Q 0) 125 sv, aW X (Q 1) 125 rd, aW X (Q 2) 625 (kpF s kp kn), aW X (Q 3) 400 tx, aW X (Q 4) 8 wi, aW X (Q 5) 8 gi].flatten H → va_S A s_.heap H locs → ∀ ls : Array Slot, lv_has ls 3 [(2, .int (iI ((k : Nat) : Int))), (0, .ref (h)), (1, .int (iI ((an : Nat) : Int)))] → W p_ l e_ (rmD 2) s_ m_ (List.toArray [.ref (h), .int (iI (((an : Nat) : Int)))]) below meth c_ H locs 0 0 Q_ (F0 m_ 45 ls []) := by
        intro n
        induction n with
        | zero => intro k sv hmu hk hsv H locs hH hS ls hl; exact absurd hmu (Nat.not_lt_zero _)
        | succ n ih45 => 
          intro k sv hmu hk hsv H locs hH hS ls hl
          refine lv_iload_n S.1 S.2.1 dX6_removeAppearance_45 rfl (lv_at hl 0 rfl) ?_
          refine lv_bipush (v := iI (((45 : Nat) : Int))) S.1 S.2.1 dX6_removeAppearance_46 (by decide) ?_
          refine lv_iconst (v := iI (((4 : Nat) : Int))) S.1 S.2.1 dX6_removeAppearance_48 (by decide) ?_
          refine lv_aload_n S.1 S.2.1 dX6_removeAppearance_49 rfl (lv_at hl 1 rfl) ?_
          refine zv_get (v := .ref (Q 0)) S hAM hH nX6_removeAppearance_X6 0 rfl rfl 0 (by decide) mX6_removeAppearance_1 rfl rfl dX6_removeAppearance_50 ?_
          refine lv_bipush (v := iI (((44 : Nat) : Int))) S.1 S.2.1 dX6_removeAppearance_53 (by decide) ?_
          refine zv_iald S hAM hH 1 rfl (44) rfl (by decide) (by decide) dX6_removeAppearance_55 ?_
          refine zv_top (z := sv 44) (z2 := (((na s - 1) : Nat) : Int)) (by rw [hsv 44 (by omega), if_pos rfl]) ?_
          refine zv_imul (z := (((4 * (na s - 1)) : Nat) : Int)) S dX6_removeAppearance_56 (by omega) ?_
          refine zv_iadd (z := (((45 + (4 * (na s - 1))) : Nat) : Int)) S dX6_removeAppearance_57 (by omega) ?_
          refine zv_icmp_ge (tgt := 81) S dX6_removeAppearance_58 (by decide) (by omega) (by omega) (fun c_58 => ?_) (fun c_58 => ?_)
          · skip
            refine lv_aload_n S.1 S.2.1 dX6_removeAppearance_81 rfl (lv_at hl 1 rfl) ?_
            refine zv_get (v := .ref (Q 0)) S hAM hH nX6_removeAppearance_X6 0 rfl rfl 0 (by decide) mX6_removeAppearance_1 rfl rfl dX6_removeAppearance_82 ?_
            refine lv_bipush (v := iI (((44 : Nat) : Int))) S.1 S.2.1 dX6_removeAppearance_85 (by decide) ?_
            refine zv_iald S hAM hH 1 rfl (44) rfl (by decide) (by decide) dX6_removeAppearance_87 ?_
            refine zv_top (z := sv 44) (z2 := (((na s - 1) : Nat) : Int)) (by rw [hsv 44 (by omega), if_pos rfl]) ?_
            have eO : opRem s kp kn ((an : Nat) : Int) = ((((na s - 1) : Nat) : Int), remApp s an, kpF s kp kn, kmF kn) := by unfold opRem; rw [if_pos (by omega), Int.toNat_natCast]
            rw [eO] at hret
            have e9 : k = 45 + (4 * (na s - 1)) := (by omega)
            have hH : Hold X A [mO h Q (((kmF kn) : Nat) : Int) ln sp rs, aW X (Q 0) 125 (remApp s an), aW X (Q 1) 125 rd, aW X (Q 2) 625 (kpF s kp kn), aW X (Q 3) 400 tx, aW X (Q 4) 8 wi, aW X (Q 5) 8 gi].flatten _ := hH.cong 1 rfl (fun j hj => by rw [hsv j hj, e9]; rfl) rfl
            exact hret 88 ls _ _ ((((na s - 1) : Nat) : Int)) () dX6_removeAppearance_88 rfl rfl hH hS
          · skip
            refine lv_aload_n S.1 S.2.1 dX6_removeAppearance_61 rfl (lv_at hl 1 rfl) ?_
            refine zv_get (v := .ref (Q 0)) S hAM hH nX6_removeAppearance_X6 0 rfl rfl 0 (by decide) mX6_removeAppearance_1 rfl rfl dX6_removeAppearance_62 ?_
            refine lv_iload_n S.1 S.2.1 dX6_removeAppearance_65 rfl (lv_at hl 0 rfl) ?_
            refine lv_aload_n S.1 S.2.1 dX6_removeAppearance_66 rfl (lv_at hl 1 rfl) ?_
            refine zv_get (v := .ref (Q 0)) S hAM hH nX6_removeAppearance_X6 0 rfl rfl 0 (by decide) mX6_removeAppearance_1 rfl rfl dX6_removeAppearance_67 ?_
            refine lv_iload_n S.1 S.2.1 dX6_removeAppearance_70 rfl (lv_at hl 0 rfl) ?_
            refine lv_iconst (v := iI (((4 : Nat) : Int))) S.1 S.2.1 dX6_removeAppearance_71 (by decide) ?_
            refine zv_iadd (z := (((k + 4) : Nat) : Int)) S dX6_removeAppearance_72 (by omega) ?_
            refine zv_iald S hAM hH 1 rfl ((k + 4)) rfl (by omega) (by decide) dX6_removeAppearance_73 ?_
            refine zv_iast (z := sv (k + 4)) (w2 := [mO h Q (((kmF kn) : Nat) : Int) ln sp rs, aW X (Q 0) 125 (uI sv k (sv (k + 4))), aW X (Q 1) 125 rd, aW X (Q 2) 625 (kpF s kp kn), aW X (Q 3) 400 tx, aW X (Q 4) 8 wi, aW X (Q 5) 8 gi].flatten) S hAM hH hS 1 rfl (k) rfl (by omega) (by decide) rfl dX6_removeAppearance_74 (fun H locs hH hS => ?_)
            refine zv_iinc (z := (((k + 1) : Nat) : Int)) (lv' := [(2, .int (iI (((k + 1) : Nat) : Int))), (0, .ref (h)), (1, .int (iI ((an : Nat) : Int)))]) S dX6_removeAppearance_75 hl (k := 0) rfl (by omega) (by decide) rfl (fun ls hl => ?_)
            refine lv_goto (tgt := 45) S.1 S.2.1 dX6_removeAppearance_78 (by decide) ?_
            exact ih45  ((k + 1)) (uI sv k (sv (k + 4))) (by omega) (by omega) (fun j hj => by by_cases e : j = k; (rw [e, uI_s, if_neg (by omega), if_pos (by omega), hsv _ (by omega), if_neg (by omega), if_neg (by omega)]); (rw [uI_n e, hsv j hj]; by_cases e1 : j = 44; (rw [if_pos e1, if_pos e1]); (rw [if_neg e1, if_neg e1]; by_cases e2 : 45 + (4 * an) ≤ j ∧ j < k; (rw [if_pos e2, if_pos (by omega)]); (rw [if_neg e2, if_neg (by omega)])))) _ _ hH hS ls (lv_sub hl [0, 1, 2] rfl)
      exact lp45 (45 + (4 * (na s - 1)) - ((45 + (4 * an))) + 1) ((45 + (4 * an))) (uI s 44 ((((na s - 1) : Nat) : Int))) (Nat.lt_succ_self _) (by omega) (fun j hj => by by_cases e : j = 44; (rw [e, uI_s, if_pos rfl]); (rw [uI_n e, if_neg e, if_neg (by omega)])) _ _ hH hS ls (lv_sub hl [0, 1, 2] rfl)
    · exact (show False by omega).elim
  · refine zv_top (z := 0) (z2 := ((0 : Nat) : Int)) rfl ?_
    refine zv_if_ne (tgt := 23) S dX6_removeAppearance_16 (by decide) (by decide) (fun c_16 => ?_) (fun c_16 => ?_)
    · exact (show False by omega).elim
    · skip
      refine lv_sipush (v := iI (-1001)) S.1 S.2.1 dX6_removeAppearance_19 (by decide) ?_
      have eO : opRem s kp kn a = (-1001, s, kp, kn) := by unfold opRem; rw [if_neg (by omega)]
      rw [eO] at hret
      exact hret 22 ls _ _ (-1001) () dX6_removeAppearance_22 rfl rfl hH hS

theorem mX6_adoptFirstCast_1 : Cond.fieldLink RX6 7 "RoleDoublingPlannerModel" "s" "[I" ∈ wsX6_adoptFirstCast := List.mem_of_getElem? (i := 1) rfl
theorem nX6_adoptFirstCast_X6 : ∀ w ∈ wsX60, w ∈ wsX6_adoptFirstCast := fun _ h => List.mem_cons_of_mem _ (List.mem_append_right _ h)
theorem mX6_adoptFirstCast_2 : Cond.fieldLink RX6 25 "RoleDoublingPlannerModel" "given" "[I" ∈ wsX6_adoptFirstCast := List.mem_of_getElem? (i := 2) rfl
set_option maxHeartbeats 4000000 in
set_option maxRecDepth 100000 in
theorem kX6_adoptFirstCast (l : Launch) (X : XT) (h : Nat) (Q : Nat → Nat) (s : Nat → Int) (rd : Nat → Int) (kp : Nat → Int) (kn : Nat) (tx : Nat → Int) (ln : Int) (sp : Int) (rs : Int) (wi : Nat → Int) (gi : Nat → Int) (hs : okR s) (hkn : kn ≤ 5) (hn1 : 1 ≤ nr s) (hgi : okG gi) : Ci l yX6_adoptFirstCast wsX6_adoptFirstCast (rmD 7) X [.ref h] [mO h Q ((kn : Nat) : Int) ln sp rs, aW X (Q 0) 125 s, aW X (Q 1) 125 rd, aW X (Q 2) 625 kp, aW X (Q 3) 400 tx, aW X (Q 4) 8 wi, aW X (Q 5) 8 gi] (fun (z : Int) (u : (Nat → Int) × (Nat → Int)) => match u with | (wj, gj) => z = (opAdo s kp kn).1 ∧ okG gj) (fun (u : (Nat → Int) × (Nat → Int)) => match u with | (wj, gj) => [mO h Q (((opAdo s kp kn).2.2.2 : Nat) : Int) ln sp rs, aW X (Q 0) 125 ((opAdo s kp kn).2.1), aW X (Q 1) 125 rd, aW X (Q 2) 625 ((opAdo s kp kn).2.2.1), aW X (Q 3) 400 tx, aW X (Q 4) 8 wj, aW X (Q 5) 8 gj]) := by
  refine Ci.ofW (cc := cX6_adoptFirstCast) (maxL := 3) (by decide) rfl (Nat.le_of_ble_eq_true rfl) ?_
  intro p_ e_ s_ m_ below meth c_ A Q_ S hA hAM hH hS hret ls hl
  have hl : lv_has ls 3 [(0, .ref (h))] := hl
  have hk1 := hs.nr8
  have hk2 := hs.na20
  have hk3 := hs.ns10
  refine lv_aload_n S.1 S.2.1 dX6_adoptFirstCast_0 rfl (lv_at hl 0 rfl) ?_
  refine zc_Vv (n := 0) (As := []) (rest := []) S hAM hA (kX6_keeps l X h Q s rd kp kn tx ln sp rs wi gi hkn) rfl gX6_adoptFirstCast_X6_keeps  (by decide +kernel) ⟨Nat.le_of_ble_eq_true rfl, Nat.le_of_ble_eq_true rfl⟩ hH hS [0, 1, 2, 3, 4, 5, 6] rfl 7 rfl (List.Perm.refl _) 6 0 rfl rfl rfl hl.1 rfl (Nat.le_of_ble_eq_true rfl) dX6_adoptFirstCast_1 ⟨Nat.le_of_ble_eq_true rfl, Nat.le_of_ble_eq_true rfl⟩ (fun _ H locs hp3 hH hS => ?_)
  have hH : Hold X A [mO h Q (((kmF kn) : Nat) : Int) ln sp rs, aW X (Q 0) 125 s, aW X (Q 1) 125 rd, aW X (Q 2) 625 (kpF s kp kn), aW X (Q 3) 400 tx, aW X (Q 4) 8 wi, aW X (Q 5) 8 gi].flatten H := hH
  refine lv_aload_n S.1 S.2.1 dX6_adoptFirstCast_4 rfl (lv_at hl 0 rfl) ?_
  refine lv_iconst (v := iI (((0 : Nat) : Int))) S.1 S.2.1 dX6_adoptFirstCast_5 (by decide) ?_
  refine zc_Vi (n := 1) (As := [.int (iI ((0 : Nat) : Int))]) (rest := []) S hAM hA (kX6_leastFor l X h Q s rd (kpF s kp kn) (((kmF kn) : Nat) : Int) tx ln sp rs wi gi 0 hs (by omega) hn1 hgi) rfl gX6_adoptFirstCast_X6_leastFor  (by decide +kernel) ⟨Nat.le_of_ble_eq_true rfl, Nat.le_of_ble_eq_true rfl⟩ hH hS [0, 1, 2, 3, 4, 5, 6] rfl 7 rfl (List.Perm.refl _) 6 0 rfl rfl rfl hl.1 rfl (Nat.le_of_ble_eq_true rfl) dX6_adoptFirstCast_6 ⟨Nat.le_of_ble_eq_true rfl, Nat.le_of_ble_eq_true rfl⟩ (fun z5 gj_4 H locs hp6 hH hS => ?_)
  have hH : Hold X A [mO h Q (((kmF kn) : Nat) : Int) ln sp rs, aW X (Q 0) 125 s, aW X (Q 1) 125 rd, aW X (Q 2) 625 (kpF s kp kn), aW X (Q 3) 400 tx, aW X (Q 4) 8 (wiF s 0 wi), aW X (Q 5) 8 gj_4].flatten H := hH
  obtain ⟨rfl, okg, hfc, hlc⟩ := hp6
  have hg1 := okg
  refine lv_istore_n (lv' := [(1, .int (iI ((lc (Mk s 0) (nr s) : Nat) : Int))), (0, .ref (h))]) S.1 S.2.1 dX6_adoptFirstCast_9 rfl hl (by decide) rfl (fun ls hl => ?_)
  refine lv_iconst (v := iI (((0 : Nat) : Int))) S.1 S.2.1 dX6_adoptFirstCast_10 (by decide) ?_
  refine lv_istore_n (lv' := [(2, .int (iI ((0 : Nat) : Int))), (1, .int (iI ((lc (Mk s 0) (nr s) : Nat) : Int))), (0, .ref (h))]) S.1 S.2.1 dX6_adoptFirstCast_11 rfl hl (by decide) rfl (fun ls hl => ?_)
  have lp12 : ∀ (n : Nat) (r : Nat) (sv : Nat → Int), nr s - r < n → (r ≤ nr s) → (∀ j, j < 125 → sv j = (if 36 ≤ j ∧ j < 36 + r then gj_4 (j - 36) else s j)) → ∀ (H : Heap) (locs : List Loc), Hold X A [mO h Q (((kmF kn) : Nat) : Int) ln sp rs, aW X (Q 0) 125 sv, aW X (Q 1) 125 rd, aW X (Q 2) 625 (kpF s kp kn), aW X (Q 3) 400 tx, aW X (Q 4) 8 (wiF s 0 wi), aW X (Q 5) 8 gj_4].flatten H → va_S A s_.heap H locs → ∀ ls : Array Slot, lv_has ls 3 [(2, .int (iI ((r : Nat) : Int))), (1, .int (iI ((lc (Mk s 0) (nr s) : Nat) : Int))), (0, .ref (h))] → W p_ l e_ (rmD 7) s_ m_ (List.toArray [.ref (h)]) below meth c_ H locs 0 0 Q_ (F0 m_ 12 ls []) := by
    intro n
    induction n with
    | zero => intro r sv hmu hi hsv H locs hH hS ls hl; exact absurd hmu (Nat.not_lt_zero _)
    | succ n ih12 => 
      intro r sv hmu hi hsv H locs hH hS ls hl
      refine lv_iload_n S.1 S.2.1 dX6_adoptFirstCast_12 rfl (lv_at hl 0 rfl) ?_
      refine lv_aload_n S.1 S.2.1 dX6_adoptFirstCast_13 rfl (lv_at hl 2 rfl) ?_
      refine zv_get (v := .ref (Q 0)) S hAM hH nX6_adoptFirstCast_X6 0 rfl rfl 0 (by decide) mX6_adoptFirstCast_1 rfl rfl dX6_adoptFirstCast_14 ?_
      refine lv_bipush (v := iI (((11 : Nat) : Int))) S.1 S.2.1 dX6_adoptFirstCast_17 (by decide) ?_
      refine zv_iald S hAM hH 1 rfl (11) rfl (by decide) (by decide) dX6_adoptFirstCast_19 ?_
      refine zv_top (z := sv 11) (z2 := ((nr s : Nat) : Int)) (by rw [hsv 11 (by omega), if_neg (by omega)]; exact hs.e11) ?_
      refine zv_icmp_ge (tgt := 44) S dX6_adoptFirstCast_20 (by decide) (by omega) (by omega) (fun c_20 => ?_) (fun c_20 => ?_)
      · skip
        refine lv_iload_n S.1 S.2.1 dX6_adoptFirstCast_44 rfl (lv_at hl 1 rfl) ?_
        have e9 : r = nr s := (by omega)
        have hH : Hold X A [mO h Q (((kmF kn) : Nat) : Int) ln sp rs, aW X (Q 0) 125 (adS s), aW X (Q 1) 125 rd, aW X (Q 2) 625 (kpF s kp kn), aW X (Q 3) 400 tx, aW X (Q 4) 8 (wiF s 0 wi), aW X (Q 5) 8 gj_4].flatten _ := hH.cong 1 rfl (fun j hj => by rw [hsv j hj, e9]; unfold adS; by_cases e2 : 36 ≤ j ∧ j < 36 + nr s; (rw [if_pos e2, if_pos e2, ← hfc, cut_at (by omega)]); (rw [if_neg e2, if_neg e2])) rfl
        exact hret 45 ls _ _ (((lc (Mk s 0) (nr s) : Nat) : Int)) ((wiF s 0 wi), gj_4) dX6_adoptFirstCast_45 rfl ⟨rfl, okg⟩ hH hS
      · skip
        refine lv_aload_n S.1 S.2.1 dX6_adoptFirstCast_23 rfl (lv_at hl 2 rfl) ?_
        refine zv_get (v := .ref (Q 0)) S hAM hH nX6_adoptFirstCast_X6 0 rfl rfl 0 (by decide) mX6_adoptFirstCast_1 rfl rfl dX6_adoptFirstCast_24 ?_
        refine lv_bipush (v := iI (((36 : Nat) : Int))) S.1 S.2.1 dX6_adoptFirstCast_27 (by decide) ?_
        refine lv_iload_n S.1 S.2.1 dX6_adoptFirstCast_29 rfl (lv_at hl 0 rfl) ?_
        refine zv_iadd (z := (((36 + r) : Nat) : Int)) S dX6_adoptFirstCast_30 (by omega) ?_
        refine lv_aload_n S.1 S.2.1 dX6_adoptFirstCast_31 rfl (lv_at hl 2 rfl) ?_
        refine zv_get (v := .ref (Q 5)) S hAM hH nX6_adoptFirstCast_X6 0 rfl rfl 9 (by decide) mX6_adoptFirstCast_2 rfl rfl dX6_adoptFirstCast_32 ?_
        refine lv_iload_n S.1 S.2.1 dX6_adoptFirstCast_35 rfl (lv_at hl 0 rfl) ?_
        refine zv_iald S hAM hH 6 rfl (r) rfl (by omega) (by decide) dX6_adoptFirstCast_36 ?_
        refine zv_iast (z := gj_4 r) (w2 := [mO h Q (((kmF kn) : Nat) : Int) ln sp rs, aW X (Q 0) 125 (uI sv (36 + r) (gj_4 r)), aW X (Q 1) 125 rd, aW X (Q 2) 625 (kpF s kp kn), aW X (Q 3) 400 tx, aW X (Q 4) 8 (wiF s 0 wi), aW X (Q 5) 8 gj_4].flatten) S hAM hH hS 1 rfl ((36 + r)) rfl (by omega) (by decide) rfl dX6_adoptFirstCast_37 (fun H locs hH hS => ?_)
        refine zv_iinc (z := (((r + 1) : Nat) : Int)) (lv' := [(2, .int (iI (((r + 1) : Nat) : Int))), (1, .int (iI ((lc (Mk s 0) (nr s) : Nat) : Int))), (0, .ref (h))]) S dX6_adoptFirstCast_38 hl (k := 0) rfl (by omega) (by decide) rfl (fun ls hl => ?_)
        refine lv_goto (tgt := 12) S.1 S.2.1 dX6_adoptFirstCast_41 (by decide) ?_
        exact ih12  ((r + 1)) (uI sv (36 + r) (gj_4 r)) (by omega) (by omega) (fun j hj => by by_cases e : j = 36 + r; (rw [e, uI_s, if_pos (by omega), Nat.add_sub_cancel_left]); (rw [uI_n e, hsv j hj]; by_cases e2 : 36 ≤ j ∧ j < 36 + r; (rw [if_pos e2, if_pos (by omega)]); (rw [if_neg e2, if_neg (by omega)]))) _ _ hH hS ls (lv_sub hl [0, 1, 2] rfl)
  exact lp12 (nr s - (0) + 1) (0) (s) (Nat.lt_succ_self _) (Nat.zero_le _) (fun j hj => by rw [if_neg (by omega)]) _ _ hH hS ls (lv_sub hl [0, 1, 2] rfl)
