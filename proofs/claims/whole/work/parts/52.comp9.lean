theorem mX5_conflictCount_1 : Cond.fieldLink RX5 23 "RoleDoublingPlanner" "play" "LRoleDoublingPlanner$Play;" ∈ wsX5_conflictCount := List.mem_of_getElem? (i := 1) rfl
theorem nX5_conflictCount_X5 : ∀ w ∈ wsX50, w ∈ wsX5_conflictCount := fun _ h => List.mem_cons_of_mem _ (List.mem_append_left _ (List.mem_append_left _ (List.mem_append_right _ h)))
theorem mX5_conflictCount_2 : Cond.fieldLink RX5 86 "RoleDoublingPlanner$Play" "roles" "I" ∈ wsX5_conflictCount := List.mem_of_getElem? (i := 2) rfl
theorem nX5_conflictCount_X2 : ∀ w ∈ wsX20, w ∈ wsX5_conflictCount := fun _ h => List.mem_cons_of_mem _ (List.mem_append_left _ (List.mem_append_right _ h))
theorem mX5_conflictCount_3 : Cond.fieldLink RX5 31 "RoleDoublingPlanner" "slacks" "LRoleDoublingPlanner$Slacks;" ∈ wsX5_conflictCount := List.mem_of_getElem? (i := 3) rfl
set_option maxHeartbeats 4000000 in
set_option maxRecDepth 100000 in
theorem kX5_conflictCount (l : Launch) (X : XT) (h : Nat) (qt : Nat) (q1 : Nat) (q : Nat) (qs : Nat) (qc : Nat) (qh : Nat) (qT : Nat) (Qs : Nat → Nat) (T : Nat → Nat → Int) (Qp : Nat → Nat) (v : Nat → Int) (sl : Nat → Int) (vo : Nat → Int) (ou : Nat → Int) (inn : Nat → Int) (ac : Nat → Int) (ag : Nat → Int) (ai : Nat → Int) (et : Nat → Int) (xt : Nat → Int) (hv : okR v) (hP : PA v sl vo ou inn ac ag ai et xt) (hT : TbOK T v) : Ci l yX5_conflictCount wsX5_conflictCount (rmD 2) X [.ref h] [pnW h qt q1 q qs qc qh, tbW X qT Qs T, slW qs q qT, poW q Qp ((ns v : Nat) : Int) ((nr v : Nat) : Int) ((na v : Nat) : Int), aW X (Qp 0) 10 sl, aW X (Qp 1) 8 vo, aW X (Qp 2) 8 ou, aW X (Qp 3) 8 inn, aW X (Qp 4) 8 ac, aW X (Qp 5) 20 ag, aW X (Qp 6) 20 ai, aW X (Qp 7) 20 et, aW X (Qp 8) 20 xt] (fun (z : Int) (_ : Unit) => z = ((ccS v (nr v) / 2 : Nat) : Int)) (fun (_ : Unit) => [pnW h qt q1 q qs qc qh, tbW X qT Qs T, slW qs q qT, poW q Qp ((ns v : Nat) : Int) ((nr v : Nat) : Int) ((na v : Nat) : Int), aW X (Qp 0) 10 sl, aW X (Qp 1) 8 vo, aW X (Qp 2) 8 ou, aW X (Qp 3) 8 inn, aW X (Qp 4) 8 ac, aW X (Qp 5) 20 ag, aW X (Qp 6) 20 ai, aW X (Qp 7) 20 et, aW X (Qp 8) 20 xt]) := by
  refine Ci.ofW (cc := cX5_conflictCount) (maxL := 4) (by decide) rfl (Nat.le_of_ble_eq_true rfl) ?_
  intro p_ e_ s_ m_ below meth c_ A Q_ S hA hAM hH hS hret ls hl
  have hl : lv_has ls 4 [(0, .ref (h))] := hl
  have hk1 := hv.nr8
  have hk2 := hv.na20
  have hk3 := hv.ns10
  refine lv_iconst (v := iI (((0 : Nat) : Int))) S.1 S.2.1 dX5_conflictCount_0 (by decide) ?_
  refine lv_istore_n (lv' := [(1, .int (iI ((0 : Nat) : Int))), (0, .ref (h))]) S.1 S.2.1 dX5_conflictCount_1 rfl hl (by decide) rfl (fun ls hl => ?_)
  refine lv_iconst (v := iI (((1 : Nat) : Int))) S.1 S.2.1 dX5_conflictCount_2 (by decide) ?_
  refine lv_istore_n (lv' := [(2, .int (iI ((1 : Nat) : Int))), (1, .int (iI ((0 : Nat) : Int))), (0, .ref (h))]) S.1 S.2.1 dX5_conflictCount_3 rfl hl (by decide) rfl (fun ls hl => ?_)
  have lp4 : ∀ (fu_ : Nat) (r : Nat) (c : Nat), nr v + 1 - r < fu_ → (1 ≤ r ∧ r ≤ nr v + 1) → (nr v ≤ 0 ∨ r ≤ nr v) → (c = cf2 v r) → ∀ (H : Heap) (locs : List Loc), Hold X A [pnW h qt q1 q qs qc qh, tbW X qT Qs T, slW qs q qT, poW q Qp ((ns v : Nat) : Int) ((nr v : Nat) : Int) ((na v : Nat) : Int), aW X (Qp 0) 10 sl, aW X (Qp 1) 8 vo, aW X (Qp 2) 8 ou, aW X (Qp 3) 8 inn, aW X (Qp 4) 8 ac, aW X (Qp 5) 20 ag, aW X (Qp 6) 20 ai, aW X (Qp 7) 20 et, aW X (Qp 8) 20 xt].flatten H → va_S A s_.heap H locs → ∀ ls : Array Slot, lv_has ls 4 [(2, .int (iI ((r : Nat) : Int))), (1, .int (iI ((c : Nat) : Int))), (0, .ref (h))] → W p_ l e_ (rmD 2) s_ m_ (List.toArray [.ref (h)]) below meth c_ H locs 0 0 Q_ (F0 m_ 4 ls []) := by
    intro fu_
    induction fu_ with
    | zero => intro r c hmu hr hrn hc H locs hH hS ls hl; exact absurd hmu (Nat.not_lt_zero _)
    | succ fu_ ih4 => 
      intro r c hmu hr hrn hc H locs hH hS ls hl
      refine lv_iload_n S.1 S.2.1 dX5_conflictCount_4 rfl (lv_at hl 0 rfl) ?_
      refine lv_aload_n S.1 S.2.1 dX5_conflictCount_5 rfl (lv_at hl 2 rfl) ?_
      refine zv_get (v := .ref (q)) S hAM hH nX5_conflictCount_X5 0 rfl rfl 2 (by decide) mX5_conflictCount_1 rfl rfl dX5_conflictCount_6 ?_
      refine zv_get (v := .int (iI ((nr v : Nat) : Int))) S hAM hH nX5_conflictCount_X2 11 rfl rfl 1 (by decide) mX5_conflictCount_2 rfl rfl dX5_conflictCount_9 ?_
      refine zv_icmp_ge (tgt := 50) S dX5_conflictCount_12 (by decide) (by omega) (by omega) (fun c_12 => ?_) (fun c_12 => ?_)
      · skip
        refine lv_iload_n S.1 S.2.1 dX5_conflictCount_50 rfl (lv_at hl 1 rfl) ?_
        exact hret 51 ls _ _ (((c : Nat) : Int)) () dX5_conflictCount_51 rfl (by rw [cc_half hv, hc]; rcases hrn with z | z; (· rw [show nr v = 0 by omega, show r = 1 by omega]; rfl); (· rw [show r = nr v by omega])) hH hS
      · skip
        refine lv_iconst (v := iI (((0 : Nat) : Int))) S.1 S.2.1 dX5_conflictCount_15 (by decide) ?_
        refine lv_istore_n (lv' := [(3, .int (iI ((0 : Nat) : Int))), (2, .int (iI ((r : Nat) : Int))), (1, .int (iI ((c : Nat) : Int))), (0, .ref (h))]) S.1 S.2.1 dX5_conflictCount_16 rfl hl (by decide) rfl (fun ls hl => ?_)
        have lp17 : ∀ (fu_ : Nat) (o : Nat) (c : Nat), r - o < fu_ → (o ≤ r) → (c = cf2 v r + cf1 v r o) → ∀ (H : Heap) (locs : List Loc), Hold X A [pnW h qt q1 q qs qc qh, tbW X qT Qs T, slW qs q qT, poW q Qp ((ns v : Nat) : Int) ((nr v : Nat) : Int) ((na v : Nat) : Int), aW X (Qp 0) 10 sl, aW X (Qp 1) 8 vo, aW X (Qp 2) 8 ou, aW X (Qp 3) 8 inn, aW X (Qp 4) 8 ac, aW X (Qp 5) 20 ag, aW X (Qp 6) 20 ai, aW X (Qp 7) 20 et, aW X (Qp 8) 20 xt].flatten H → va_S A s_.heap H locs → ∀ ls : Array Slot, lv_has ls 4 [(3, .int (iI ((o : Nat) : Int))), (2, .int (iI ((r : Nat) : Int))), (1, .int (iI ((c : Nat) : Int))), (0, .ref (h))] → W p_ l e_ (rmD 2) s_ m_ (List.toArray [.ref (h)]) below meth c_ H locs 0 0 Q_ (F0 m_ 17 ls []) := by
          intro fu_
          induction fu_ with
          | zero => intro o c hmu ho hc2 H locs hH hS ls hl; exact absurd hmu (Nat.not_lt_zero _)
          | succ fu_ ih17 => 
            intro o c hmu ho hc2 H locs hH hS ls hl
            refine lv_iload_n S.1 S.2.1 dX5_conflictCount_17 rfl (lv_at hl 0 rfl) ?_
            refine lv_iload_n S.1 S.2.1 dX5_conflictCount_18 rfl (lv_at hl 1 rfl) ?_
            refine zv_icmp_ge (tgt := 44) S dX5_conflictCount_19 (by decide) (by omega) (by omega) (fun c_19 => ?_) (fun c_19 => ?_)
            · skip
              refine zv_iinc (z := (((r + 1) : Nat) : Int)) (lv' := [(2, .int (iI (((r + 1) : Nat) : Int))), (3, .int (iI ((o : Nat) : Int))), (1, .int (iI ((c : Nat) : Int))), (0, .ref (h))]) S dX5_conflictCount_44 hl (k := 1) rfl (by omega) (by decide) rfl (fun ls hl => ?_)
              refine lv_goto (tgt := 4) S.1 S.2.1 dX5_conflictCount_47 (by decide) ?_
              exact ih4  ((r + 1)) (c) (by omega) (by omega) (by omega) (by rw [hc2, cf2, show o = r by omega]) _ _ hH hS ls (lv_sub hl [0, 2, 3] rfl)
            · skip
              refine lv_aload_n S.1 S.2.1 dX5_conflictCount_22 rfl (lv_at hl 3 rfl) ?_
              refine zv_get (v := .ref (qs)) S hAM hH nX5_conflictCount_X5 0 rfl rfl 3 (by decide) mX5_conflictCount_3 rfl rfl dX5_conflictCount_23 ?_
              refine lv_iload_n S.1 S.2.1 dX5_conflictCount_26 rfl (lv_at hl 1 rfl) ?_
              refine lv_iload_n S.1 S.2.1 dX5_conflictCount_27 rfl (lv_at hl 0 rfl) ?_
              refine lv_iconst (v := iI (((0 : Nat) : Int))) S.1 S.2.1 dX5_conflictCount_28 (by decide) ?_
              refine zc_Vi (n := 3) (As := [.int (iI ((r : Nat) : Int)), .int (iI ((o : Nat) : Int)), .int (iI ((0 : Nat) : Int))]) (rest := []) S hAM hA (kX4_reason l X qs qT Qs T q Qp v sl vo ou inn ac ag ai et xt r o 0 hv hP hT (by omega) (by omega) (by omega) (by omega)) rfl gX5_conflictCount_X4_reason  (by decide +kernel) ⟨Nat.le_of_ble_eq_true rfl, Nat.le_of_ble_eq_true rfl⟩ hH hS [1, 2, 3, 4, 5, 6, 7, 8, 9, 10, 11, 12, 0] rfl 13 rfl (by decide) 4 9 rfl rfl rfl hl.1 rfl (Nat.le_of_ble_eq_true rfl) dX5_conflictCount_29 ⟨Nat.le_of_ble_eq_true rfl, Nat.le_of_ble_eq_true rfl⟩ (fun z2 _ H locs hp3 hH hS => ?_)
              have hH : Hold X A [tbW X qT Qs T, slW qs q qT, poW q Qp ((ns v : Nat) : Int) ((nr v : Nat) : Int) ((na v : Nat) : Int), aW X (Qp 0) 10 sl, aW X (Qp 1) 8 vo, aW X (Qp 2) 8 ou, aW X (Qp 3) 8 inn, aW X (Qp 4) 8 ac, aW X (Qp 5) 20 ag, aW X (Qp 6) 20 ai, aW X (Qp 7) 20 et, aW X (Qp 8) 20 xt, pnW h qt q1 q qs qc qh].flatten H := hH
              obtain rfl := hp3
              refine zv_if_eq (tgt := 38) S dX5_conflictCount_32 (by decide) (by have := rsn3 v r o 0; omega) (fun c_32 => ?_) (fun c_32 => ?_)
              · skip
                refine zv_iinc (z := (((o + 1) : Nat) : Int)) (lv' := [(3, .int (iI (((o + 1) : Nat) : Int))), (2, .int (iI ((r : Nat) : Int))), (1, .int (iI ((c : Nat) : Int))), (0, .ref (h))]) S dX5_conflictCount_38 hl (k := 0) rfl (by omega) (by decide) rfl (fun ls hl => ?_)
                refine lv_goto (tgt := 17) S.1 S.2.1 dX5_conflictCount_41 (by decide) ?_
                have hH : Hold X A [pnW h qt q1 q qs qc qh, tbW X qT Qs T, slW qs q qT, poW q Qp ((ns v : Nat) : Int) ((nr v : Nat) : Int) ((na v : Nat) : Int), aW X (Qp 0) 10 sl, aW X (Qp 1) 8 vo, aW X (Qp 2) 8 ou, aW X (Qp 3) 8 inn, aW X (Qp 4) 8 ac, aW X (Qp 5) 20 ag, aW X (Qp 6) 20 ai, aW X (Qp 7) 20 et, aW X (Qp 8) 20 xt].flatten _ := hH.pick [12, 0, 1, 2, 3, 4, 5, 6, 7, 8, 9, 10, 11] rfl 13 rfl (by decide)
                exact ih17  ((o + 1)) (c) (by omega) (by omega) (by rw [hc2, cf1]; unfold cfl; first | (rw [if_pos ⟨by omega, by omega⟩]; done) | (rw [if_pos ⟨by omega, by omega⟩]; omega) | (rw [if_neg (fun z => absurd z.2 (by omega))]; done) | (rw [if_neg (fun z => absurd z.2 (by omega))]; omega)) _ _ hH hS ls (lv_sub hl [0, 1, 2, 3] rfl)
              · skip
                refine zv_iinc (z := (((c + 1) : Nat) : Int)) (lv' := [(1, .int (iI (((c + 1) : Nat) : Int))), (3, .int (iI ((o : Nat) : Int))), (2, .int (iI ((r : Nat) : Int))), (0, .ref (h))]) S dX5_conflictCount_35 hl (k := 2) rfl (by omega) (by decide) rfl (fun ls hl => ?_)
                refine zv_iinc (z := (((o + 1) : Nat) : Int)) (lv' := [(3, .int (iI (((o + 1) : Nat) : Int))), (1, .int (iI (((c + 1) : Nat) : Int))), (2, .int (iI ((r : Nat) : Int))), (0, .ref (h))]) S dX5_conflictCount_38 hl (k := 1) rfl (by omega) (by decide) rfl (fun ls hl => ?_)
                refine lv_goto (tgt := 17) S.1 S.2.1 dX5_conflictCount_41 (by decide) ?_
                have hH : Hold X A [pnW h qt q1 q qs qc qh, tbW X qT Qs T, slW qs q qT, poW q Qp ((ns v : Nat) : Int) ((nr v : Nat) : Int) ((na v : Nat) : Int), aW X (Qp 0) 10 sl, aW X (Qp 1) 8 vo, aW X (Qp 2) 8 ou, aW X (Qp 3) 8 inn, aW X (Qp 4) 8 ac, aW X (Qp 5) 20 ag, aW X (Qp 6) 20 ai, aW X (Qp 7) 20 et, aW X (Qp 8) 20 xt].flatten _ := hH.pick [12, 0, 1, 2, 3, 4, 5, 6, 7, 8, 9, 10, 11] rfl 13 rfl (by decide)
                exact ih17  ((o + 1)) ((c + 1)) (by omega) (by omega) (by rw [hc2, cf1]; unfold cfl; first | (rw [if_pos ⟨by omega, by omega⟩]; done) | (rw [if_pos ⟨by omega, by omega⟩]; omega) | (rw [if_neg (fun z => absurd z.2 (by omega))]; done) | (rw [if_neg (fun z => absurd z.2 (by omega))]; omega)) _ _ hH hS ls (lv_sub hl [0, 2, 1, 3] rfl)
        exact lp17 (r - (0) + 1) (0) (c) (Nat.lt_succ_self _) (Nat.zero_le _) (by rw [hc]; rfl) _ _ hH hS ls (lv_sub hl [0, 1, 2, 3] rfl)
  exact lp4 (nr v + 1 - (1) + 1) (1) (0) (Nat.lt_succ_self _) (by omega) (by omega) rfl _ _ hH hS ls (lv_sub hl [0, 1, 2] rfl)

theorem mX5_tightestChange_1 : Cond.fieldLink RX5 23 "RoleDoublingPlanner" "play" "LRoleDoublingPlanner$Play;" ∈ wsX5_tightestChange := List.mem_of_getElem? (i := 1) rfl
theorem nX5_tightestChange_X5 : ∀ w ∈ wsX50, w ∈ wsX5_tightestChange := fun _ h => List.mem_cons_of_mem _ (List.mem_append_left _ (List.mem_append_left _ (List.mem_append_right _ h)))
theorem mX5_tightestChange_2 : Cond.fieldLink RX5 86 "RoleDoublingPlanner$Play" "roles" "I" ∈ wsX5_tightestChange := List.mem_of_getElem? (i := 2) rfl
theorem nX5_tightestChange_X2 : ∀ w ∈ wsX20, w ∈ wsX5_tightestChange := fun _ h => List.mem_cons_of_mem _ (List.mem_append_left _ (List.mem_append_right _ h))
theorem mX5_tightestChange_3 : Cond.fieldLink RX5 135 "RoleDoublingPlanner$Play" "actor" "[I" ∈ wsX5_tightestChange := List.mem_of_getElem? (i := 3) rfl
theorem mX5_tightestChange_4 : Cond.fieldLink RX5 31 "RoleDoublingPlanner" "slacks" "LRoleDoublingPlanner$Slacks;" ∈ wsX5_tightestChange := List.mem_of_getElem? (i := 4) rfl
theorem mX5_tightestChange_5 : Cond.fieldLink RX5 194 "RoleDoublingPlanner$Slacks" "table" "[[I" ∈ wsX5_tightestChange := List.mem_of_getElem? (i := 5) rfl
theorem nX5_tightestChange_X4 : ∀ w ∈ wsX40, w ∈ wsX5_tightestChange := fun _ h => List.mem_cons_of_mem _ (List.mem_append_right _ h)
set_option maxHeartbeats 4000000 in
set_option maxRecDepth 100000 in
theorem kX5_tightestChange (l : Launch) (X : XT) (h : Nat) (qt : Nat) (q1 : Nat) (q : Nat) (qs : Nat) (qc : Nat) (qh : Nat) (qT : Nat) (Qs : Nat → Nat) (T : Nat → Nat → Int) (Qp : Nat → Nat) (v : Nat → Int) (sl : Nat → Int) (vo : Nat → Int) (ou : Nat → Int) (inn : Nat → Int) (ac : Nat → Int) (ag : Nat → Int) (ai : Nat → Int) (et : Nat → Int) (xt : Nat → Int) (x : Int) (hv : okR v) (hP : PA v sl vo ou inn ac ag ai et xt) (hT : TbOK T v) (hx : inR x) (hC : okC v) : Ci l yX5_tightestChange wsX5_tightestChange (rmD 2) X [.ref h, .int (iI (x))] [pnW h qt q1 q qs qc qh, tbW X qT Qs T, slW qs q qT, poW q Qp ((ns v : Nat) : Int) ((nr v : Nat) : Int) ((na v : Nat) : Int), aW X (Qp 0) 10 sl, aW X (Qp 1) 8 vo, aW X (Qp 2) 8 ou, aW X (Qp 3) 8 inn, aW X (Qp 4) 8 ac, aW X (Qp 5) 20 ag, aW X (Qp 6) 20 ai, aW X (Qp 7) 20 et, aW X (Qp 8) 20 xt] (fun (z : Int) (_ : Unit) => z = tcF v x) (fun (_ : Unit) => [pnW h qt q1 q qs qc qh, tbW X qT Qs T, slW qs q qT, poW q Qp ((ns v : Nat) : Int) ((nr v : Nat) : Int) ((na v : Nat) : Int), aW X (Qp 0) 10 sl, aW X (Qp 1) 8 vo, aW X (Qp 2) 8 ou, aW X (Qp 3) 8 inn, aW X (Qp 4) 8 ac, aW X (Qp 5) 20 ag, aW X (Qp 6) 20 ai, aW X (Qp 7) 20 et, aW X (Qp 8) 20 xt]) := by
  refine Ci.ofW (cc := cX5_tightestChange) (maxL := 5) (by decide) rfl (Nat.le_of_ble_eq_true rfl) ?_
  intro p_ e_ s_ m_ below meth c_ A Q_ S hA hAM hH hS hret ls hl
  have hl : lv_has ls 5 [(0, .ref (h)), (1, .int (iI (x)))] := hl
  have hk1 := hv.nr8
  have hk2 := hv.na20
  have hk3 := hv.ns10
  refine lv_iload_n S.1 S.2.1 dX5_tightestChange_0 rfl (lv_at hl 1 rfl) ?_
  refine zc_Si (n := 1) (As := [.int (iI (x))]) (rest := []) S hAM hA (kX5_isActor l X x (by omega)) rfl gX5_tightestChange_X5_isActor  (by decide +kernel) ⟨Nat.le_of_ble_eq_true rfl, Nat.le_of_ble_eq_true rfl⟩ hH hS [0, 1, 2, 3, 4, 5, 6, 7, 8, 9, 10, 11, 12] rfl 13 rfl (List.Perm.refl _)  rfl hl.1 rfl (Nat.le_of_ble_eq_true rfl) dX5_tightestChange_1 ⟨Nat.le_of_ble_eq_true rfl, Nat.le_of_ble_eq_true rfl⟩ (fun z2 _ H locs hp3 hH hS => ?_)
  have hH : Hold X A [pnW h qt q1 q qs qc qh, tbW X qT Qs T, slW qs q qT, poW q Qp ((ns v : Nat) : Int) ((nr v : Nat) : Int) ((na v : Nat) : Int), aW X (Qp 0) 10 sl, aW X (Qp 1) 8 vo, aW X (Qp 2) 8 ou, aW X (Qp 3) 8 inn, aW X (Qp 4) 8 ac, aW X (Qp 5) 20 ag, aW X (Qp 6) 20 ai, aW X (Qp 7) 20 et, aW X (Qp 8) 20 xt].flatten H := hH
  rcases hp3 with ⟨rfl, b_1⟩ | ⟨rfl, b_1⟩
  · refine zv_top (z := 1) (z2 := ((1 : Nat) : Int)) rfl ?_
    refine zv_if_ne (tgt := 11) S dX5_tightestChange_4 (by decide) (by decide) (fun c_4 => ?_) (fun c_4 => ?_)
    · skip
      refine lv_sipush (v := iI (-1004)) S.1 S.2.1 dX5_tightestChange_11 (by decide) ?_
      refine lv_istore_n (lv' := [(2, .int (iI (-1004))), (0, .ref (h)), (1, .int (iI (x)))]) S.1 S.2.1 dX5_tightestChange_14 rfl hl (by decide) rfl (fun ls hl => ?_)
      refine lv_iconst (v := iI (((1 : Nat) : Int))) S.1 S.2.1 dX5_tightestChange_15 (by decide) ?_
      refine lv_istore_n (lv' := [(3, .int (iI ((1 : Nat) : Int))), (2, .int (iI (-1004))), (0, .ref (h)), (1, .int (iI (x)))]) S.1 S.2.1 dX5_tightestChange_16 rfl hl (by decide) rfl (fun ls hl => ?_)
      have lp17 : ∀ (fu_ : Nat) (r : Nat) (y : Int), nr v + 1 - r < fu_ → (1 ≤ r ∧ r ≤ nr v + 1) → (nr v ≤ 0 ∨ r ≤ nr v) → (y = tkO v x r) → (-2000 ≤ y ∧ y ≤ 2000) → ∀ (H : Heap) (locs : List Loc), Hold X A [pnW h qt q1 q qs qc qh, tbW X qT Qs T, slW qs q qT, poW q Qp ((ns v : Nat) : Int) ((nr v : Nat) : Int) ((na v : Nat) : Int), aW X (Qp 0) 10 sl, aW X (Qp 1) 8 vo, aW X (Qp 2) 8 ou, aW X (Qp 3) 8 inn, aW X (Qp 4) 8 ac, aW X (Qp 5) 20 ag, aW X (Qp 6) 20 ai, aW X (Qp 7) 20 et, aW X (Qp 8) 20 xt].flatten H → va_S A s_.heap H locs → ∀ ls : Array Slot, lv_has ls 5 [(3, .int (iI ((r : Nat) : Int))), (2, .int (iI (y))), (0, .ref (h)), (1, .int (iI (x)))] → W p_ l e_ (rmD 2) s_ m_ (List.toArray [.ref (h), .int (iI (x))]) below meth c_ H locs 0 0 Q_ (F0 m_ 17 ls []) := by
        intro fu_
        induction fu_ with
        | zero => intro r y hmu hr hrn hy hyb H locs hH hS ls hl; exact absurd hmu (Nat.not_lt_zero _)
        | succ fu_ ih17 => 
          intro r y hmu hr hrn hy hyb H locs hH hS ls hl
          refine lv_iload_n S.1 S.2.1 dX5_tightestChange_17 rfl (lv_at hl 0 rfl) ?_
          refine lv_aload_n S.1 S.2.1 dX5_tightestChange_18 rfl (lv_at hl 2 rfl) ?_
          refine zv_get (v := .ref (q)) S hAM hH nX5_tightestChange_X5 0 rfl rfl 2 (by decide) mX5_tightestChange_1 rfl rfl dX5_tightestChange_19 ?_
          refine zv_get (v := .int (iI ((nr v : Nat) : Int))) S hAM hH nX5_tightestChange_X2 11 rfl rfl 1 (by decide) mX5_tightestChange_2 rfl rfl dX5_tightestChange_22 ?_
          refine zv_icmp_ge (tgt := 93) S dX5_tightestChange_25 (by decide) (by omega) (by omega) (fun c_25 => ?_) (fun c_25 => ?_)
          · skip
            refine lv_iload_n S.1 S.2.1 dX5_tightestChange_93 rfl (lv_at hl 1 rfl) ?_
            exact hret 94 ls _ _ (y) () dX5_tightestChange_94 rfl (by unfold tcF; rw [if_pos (by omega)]; have h9 := tkO_e hv hC (x := x) (by omega) (nr v) (Nat.le_refl _); have e9 : y = tkO v x (nr v) := (by rw [hy]; rcases hrn with z | z; (· rw [show nr v = 0 by omega, show r = 1 by omega]; rfl); (· rw [show r = nr v by omega])); rw [e9, h9.1]; rfl) hH hS
          · skip
            refine lv_iconst (v := iI (((0 : Nat) : Int))) S.1 S.2.1 dX5_tightestChange_28 (by decide) ?_
            refine lv_istore (lv' := [(4, .int (iI ((0 : Nat) : Int))), (3, .int (iI ((r : Nat) : Int))), (2, .int (iI (y))), (0, .ref (h)), (1, .int (iI (x)))]) S.1 S.2.1 dX5_tightestChange_29 hl (by decide) rfl (fun ls hl => ?_)
            have lp31 : ∀ (fu_ : Nat) (o : Nat) (y : Int), r - o < fu_ → (o ≤ r) → (y = tkI v x r o (tkO v x r)) → (-2000 ≤ y ∧ y ≤ 2000) → ∀ (H : Heap) (locs : List Loc), Hold X A [pnW h qt q1 q qs qc qh, tbW X qT Qs T, slW qs q qT, poW q Qp ((ns v : Nat) : Int) ((nr v : Nat) : Int) ((na v : Nat) : Int), aW X (Qp 0) 10 sl, aW X (Qp 1) 8 vo, aW X (Qp 2) 8 ou, aW X (Qp 3) 8 inn, aW X (Qp 4) 8 ac, aW X (Qp 5) 20 ag, aW X (Qp 6) 20 ai, aW X (Qp 7) 20 et, aW X (Qp 8) 20 xt].flatten H → va_S A s_.heap H locs → ∀ ls : Array Slot, lv_has ls 5 [(4, .int (iI ((o : Nat) : Int))), (3, .int (iI ((r : Nat) : Int))), (2, .int (iI (y))), (0, .ref (h)), (1, .int (iI (x)))] → W p_ l e_ (rmD 2) s_ m_ (List.toArray [.ref (h), .int (iI (x))]) below meth c_ H locs 0 0 Q_ (F0 m_ 31 ls []) := by
              intro fu_
              induction fu_ with
              | zero => intro o y hmu ho hy2 hyb H locs hH hS ls hl; exact absurd hmu (Nat.not_lt_zero _)
              | succ fu_ ih31 => 
                intro o y hmu ho hy2 hyb H locs hH hS ls hl
                have htb := tbV_b hv r o
                refine lv_iload S.1 S.2.1 dX5_tightestChange_31 (lv_at hl 0 rfl) ?_
                refine lv_iload_n S.1 S.2.1 dX5_tightestChange_33 rfl (lv_at hl 1 rfl) ?_
                refine zv_icmp_ge (tgt := 87) S dX5_tightestChange_34 (by decide) (by omega) (by omega) (fun c_34 => ?_) (fun c_34 => ?_)
                · skip
                  refine zv_iinc (z := (((r + 1) : Nat) : Int)) (lv' := [(3, .int (iI (((r + 1) : Nat) : Int))), (4, .int (iI ((o : Nat) : Int))), (2, .int (iI (y))), (0, .ref (h)), (1, .int (iI (x)))]) S dX5_tightestChange_87 hl (k := 1) rfl (by omega) (by decide) rfl (fun ls hl => ?_)
                  refine lv_goto (tgt := 17) S.1 S.2.1 dX5_tightestChange_90 (by decide) ?_
                  exact ih17  ((r + 1)) (y) (by omega) (by omega) (by omega) (by rw [hy2, tkO, show o = r by omega]) (by omega) _ _ hH hS ls (lv_sub hl [0, 2, 3, 4] rfl)
                · skip
                  refine lv_aload_n S.1 S.2.1 dX5_tightestChange_37 rfl (lv_at hl 3 rfl) ?_
                  refine zv_get (v := .ref (q)) S hAM hH nX5_tightestChange_X5 0 rfl rfl 2 (by decide) mX5_tightestChange_1 rfl rfl dX5_tightestChange_38 ?_
                  refine zv_get (v := .ref (Qp 4)) S hAM hH nX5_tightestChange_X2 11 rfl rfl 7 (by decide) mX5_tightestChange_3 rfl rfl dX5_tightestChange_41 ?_
                  refine lv_iload_n S.1 S.2.1 dX5_tightestChange_44 rfl (lv_at hl 1 rfl) ?_
                  refine zv_iald S hAM hH 16 rfl (r) rfl (by omega) (by decide) dX5_tightestChange_45 ?_
                  refine zv_top (z := ac r) (z2 := v (36 + r)) (hP.2.1 r (by omega)).2.2.2 ?_
                  refine lv_iload_n S.1 S.2.1 dX5_tightestChange_46 rfl (lv_at hl 4 rfl) ?_
                  refine zv_icmp_ne (tgt := 81) S dX5_tightestChange_47 (by decide) (hv.inRk _ (by omega)) (by omega) (fun c_47 => ?_) (fun c_47 => ?_)
                  · skip
                    refine zv_iinc (z := (((o + 1) : Nat) : Int)) (lv' := [(4, .int (iI (((o + 1) : Nat) : Int))), (3, .int (iI ((r : Nat) : Int))), (2, .int (iI (y))), (0, .ref (h)), (1, .int (iI (x)))]) S dX5_tightestChange_81 hl (k := 0) rfl (by omega) (by decide) rfl (fun ls hl => ?_)
                    refine lv_goto (tgt := 31) S.1 S.2.1 dX5_tightestChange_84 (by decide) ?_
                    exact ih31  ((o + 1)) (y) (by omega) (by omega) (by rw [tkI]; first | (rw [if_pos ⟨by omega, by omega⟩, hy2]; done) | (rw [if_neg (fun z => by omega), hy2])) (by (try unfold lsS); (repeat' split) <;> omega) _ _ hH hS ls (lv_sub hl [0, 1, 2, 3, 4] rfl)
                  · skip
                    refine lv_aload_n S.1 S.2.1 dX5_tightestChange_50 rfl (lv_at hl 3 rfl) ?_
                    refine zv_get (v := .ref (q)) S hAM hH nX5_tightestChange_X5 0 rfl rfl 2 (by decide) mX5_tightestChange_1 rfl rfl dX5_tightestChange_51 ?_
                    refine zv_get (v := .ref (Qp 4)) S hAM hH nX5_tightestChange_X2 11 rfl rfl 7 (by decide) mX5_tightestChange_3 rfl rfl dX5_tightestChange_54 ?_
                    refine lv_iload S.1 S.2.1 dX5_tightestChange_57 (lv_at hl 0 rfl) ?_
                    refine zv_iald S hAM hH 16 rfl (o) rfl (by omega) (by decide) dX5_tightestChange_59 ?_
                    refine zv_top (z := ac o) (z2 := v (36 + o)) (hP.2.1 o (by omega)).2.2.2 ?_
                    refine lv_iload_n S.1 S.2.1 dX5_tightestChange_60 rfl (lv_at hl 4 rfl) ?_
                    refine zv_icmp_ne (tgt := 81) S dX5_tightestChange_61 (by decide) (hv.inRk _ (by omega)) (by omega) (fun c_61 => ?_) (fun c_61 => ?_)
                    · skip
                      refine zv_iinc (z := (((o + 1) : Nat) : Int)) (lv' := [(4, .int (iI (((o + 1) : Nat) : Int))), (3, .int (iI ((r : Nat) : Int))), (2, .int (iI (y))), (0, .ref (h)), (1, .int (iI (x)))]) S dX5_tightestChange_81 hl (k := 0) rfl (by omega) (by decide) rfl (fun ls hl => ?_)
                      refine lv_goto (tgt := 31) S.1 S.2.1 dX5_tightestChange_84 (by decide) ?_
                      exact ih31  ((o + 1)) (y) (by omega) (by omega) (by rw [tkI]; first | (rw [if_pos ⟨by omega, by omega⟩, hy2]; done) | (rw [if_neg (fun z => by omega), hy2])) (by (try unfold lsS); (repeat' split) <;> omega) _ _ hH hS ls (lv_sub hl [0, 1, 2, 3, 4] rfl)
                    · skip
                      refine lv_iload_n S.1 S.2.1 dX5_tightestChange_64 rfl (lv_at hl 2 rfl) ?_
                      refine lv_aload_n S.1 S.2.1 dX5_tightestChange_65 rfl (lv_at hl 3 rfl) ?_
                      refine zv_get (v := .ref (qs)) S hAM hH nX5_tightestChange_X5 0 rfl rfl 3 (by decide) mX5_tightestChange_4 rfl rfl dX5_tightestChange_66 ?_
                      refine zv_get (v := .ref (qT)) S hAM hH nX5_tightestChange_X4 10 rfl rfl 1 (by decide) mX5_tightestChange_5 rfl rfl dX5_tightestChange_69 ?_
                      refine lv_iload_n S.1 S.2.1 dX5_tightestChange_72 rfl (lv_at hl 1 rfl) ?_
                      refine zv_aald3 (q := Qs r) S hAM hH 1 rfl (r) rfl (by omega) (by decide) rfl dX5_tightestChange_73 ?_
                      refine lv_iload S.1 S.2.1 dX5_tightestChange_74 (lv_at hl 0 rfl) ?_
                      have hH : Hold X A [tbW X qT Qs T, pnW h qt q1 q qs qc qh, slW qs q qT, poW q Qp ((ns v : Nat) : Int) ((nr v : Nat) : Int) ((na v : Nat) : Int), aW X (Qp 0) 10 sl, aW X (Qp 1) 8 vo, aW X (Qp 2) 8 ou, aW X (Qp 3) 8 inn, aW X (Qp 4) 8 ac, aW X (Qp 5) 20 ag, aW X (Qp 6) 20 ai, aW X (Qp 7) 20 et, aW X (Qp 8) 20 xt].flatten _ := hH.pick [1, 0, 2, 3, 4, 5, 6, 7, 8, 9, 10, 11, 12] rfl 13 rfl (by decide)
                      refine zv_iald (g := T r) S hAM hH (1 + r) (tb_get (X := X) (qT := qT) (Qs := Qs) (T := T) (rest := [pnW h qt q1 q qs qc qh, slW qs q qT, poW q Qp ((ns v : Nat) : Int) ((nr v : Nat) : Int) ((na v : Nat) : Int), aW X (Qp 0) 10 sl, aW X (Qp 1) 8 vo, aW X (Qp 2) 8 ou, aW X (Qp 3) 8 inn, aW X (Qp 4) 8 ac, aW X (Qp 5) 20 ag, aW X (Qp 6) 20 ai, aW X (Qp 7) 20 et, aW X (Qp 8) 20 xt].flatten) (r := r) (by omega)) (o) rfl (by omega) (by decide) dX5_tightestChange_76 ?_
                      refine zv_top (z := T r o) (z2 := tbV v r o) (hT r o (by omega) (by omega) (by omega)) ?_
                      refine zc_Si (n := 2) (As := [.int (iI (y)), .int (iI (tbV v r o))]) (rest := []) S hAM hA (kX5_lesserSlack l X y (tbV v r o) (by omega) (by have := tbV_b hv r o; omega)) rfl gX5_tightestChange_X5_lesserSlack  (by decide +kernel) ⟨Nat.le_of_ble_eq_true rfl, Nat.le_of_ble_eq_true rfl⟩ hH hS [0, 1, 2, 3, 4, 5, 6, 7, 8, 9, 10, 11, 12] rfl 13 rfl (List.Perm.refl _)  rfl hl.1 rfl (Nat.le_of_ble_eq_true rfl) dX5_tightestChange_77 ⟨Nat.le_of_ble_eq_true rfl, Nat.le_of_ble_eq_true rfl⟩ (fun z5 _ H locs hp6 hH hS => ?_)
                      have hH : Hold X A [tbW X qT Qs T, pnW h qt q1 q qs qc qh, slW qs q qT, poW q Qp ((ns v : Nat) : Int) ((nr v : Nat) : Int) ((na v : Nat) : Int), aW X (Qp 0) 10 sl, aW X (Qp 1) 8 vo, aW X (Qp 2) 8 ou, aW X (Qp 3) 8 inn, aW X (Qp 4) 8 ac, aW X (Qp 5) 20 ag, aW X (Qp 6) 20 ai, aW X (Qp 7) 20 et, aW X (Qp 8) 20 xt].flatten H := hH
                      obtain rfl := hp6
                      refine lv_istore_n (lv' := [(2, .int (iI (lsS y (tbV v r o)))), (4, .int (iI ((o : Nat) : Int))), (3, .int (iI ((r : Nat) : Int))), (0, .ref (h)), (1, .int (iI (x)))]) S.1 S.2.1 dX5_tightestChange_80 rfl hl (by decide) rfl (fun ls hl => ?_)
                      refine zv_iinc (z := (((o + 1) : Nat) : Int)) (lv' := [(4, .int (iI (((o + 1) : Nat) : Int))), (2, .int (iI (lsS y (tbV v r o)))), (3, .int (iI ((r : Nat) : Int))), (0, .ref (h)), (1, .int (iI (x)))]) S dX5_tightestChange_81 hl (k := 1) rfl (by omega) (by decide) rfl (fun ls hl => ?_)
                      refine lv_goto (tgt := 31) S.1 S.2.1 dX5_tightestChange_84 (by decide) ?_
                      have hH : Hold X A [pnW h qt q1 q qs qc qh, tbW X qT Qs T, slW qs q qT, poW q Qp ((ns v : Nat) : Int) ((nr v : Nat) : Int) ((na v : Nat) : Int), aW X (Qp 0) 10 sl, aW X (Qp 1) 8 vo, aW X (Qp 2) 8 ou, aW X (Qp 3) 8 inn, aW X (Qp 4) 8 ac, aW X (Qp 5) 20 ag, aW X (Qp 6) 20 ai, aW X (Qp 7) 20 et, aW X (Qp 8) 20 xt].flatten _ := hH.pick [1, 0, 2, 3, 4, 5, 6, 7, 8, 9, 10, 11, 12] rfl 13 rfl (by decide)
                      exact ih31  ((o + 1)) (lsS y (tbV v r o)) (by omega) (by omega) (by rw [tkI]; first | (rw [if_pos ⟨by omega, by omega⟩, hy2]; done) | (rw [if_neg (fun z => by omega), hy2])) (by (try unfold lsS); (repeat' split) <;> omega) _ _ hH hS ls (lv_sub hl [0, 2, 1, 3, 4] rfl)
            exact lp31 (r - (0) + 1) (0) (y) (Nat.lt_succ_self _) (Nat.zero_le _) (by rw [hy]; rfl) hyb _ _ hH hS ls (lv_sub hl [0, 1, 2, 3, 4] rfl)
      exact lp17 (nr v + 1 - (1) + 1) (1) (-1004) (Nat.lt_succ_self _) (by omega) (by omega) rfl (by omega) _ _ hH hS ls (lv_sub hl [0, 1, 2, 3] rfl)
    · exact (show False by omega).elim
  · refine zv_top (z := 0) (z2 := ((0 : Nat) : Int)) rfl ?_
    refine zv_if_ne (tgt := 11) S dX5_tightestChange_4 (by decide) (by decide) (fun c_4 => ?_) (fun c_4 => ?_)
    · exact (show False by omega).elim
    · skip
      refine lv_sipush (v := iI (-1001)) S.1 S.2.1 dX5_tightestChange_7 (by decide) ?_
      exact hret 10 ls _ _ (-1001) () dX5_tightestChange_10 rfl (by unfold tcF; rw [if_neg (by omega)]) hH hS

set_option maxHeartbeats 4000000 in
set_option maxRecDepth 100000 in
theorem kX5_speedUpFor (l : Launch) (X : XT) (h : Nat) (qt : Nat) (q1 : Nat) (q : Nat) (qs : Nat) (qc : Nat) (qh : Nat) (qT : Nat) (Qs : Nat → Nat) (T : Nat → Nat → Int) (Qp : Nat → Nat) (v : Nat → Int) (sl : Nat → Int) (vo : Nat → Int) (ou : Nat → Int) (inn : Nat → Int) (ac : Nat → Int) (ag : Nat → Int) (ai : Nat → Int) (et : Nat → Int) (xt : Nat → Int) (Qc : Nat → Nat) (m0 : Int) (riv : Nat → Int) (roa : Nat → Int) (x : Int) (hv : okR v) (hP : PA v sl vo ou inn ac ag ai et xt) (hT : TbOK T v) (hx : inR x) : Ci l yX5_speedUpFor wsX5_speedUpFor (rmD 13) X [.ref h, .int (iI (x))] [pnW h qt q1 q qs qc qh, tbW X qT Qs T, slW qs q qT, poW q Qp ((ns v : Nat) : Int) ((nr v : Nat) : Int) ((na v : Nat) : Int), aW X (Qp 0) 10 sl, aW X (Qp 1) 8 vo, aW X (Qp 2) 8 ou, aW X (Qp 3) 8 inn, aW X (Qp 4) 8 ac, aW X (Qp 5) 20 ag, aW X (Qp 6) 20 ai, aW X (Qp 7) 20 et, aW X (Qp 8) 20 xt, caW qc Qc m0, aW X (Qc 0) 8 riv, aW X (Qc 1) 8 roa] (fun (z : Int) (u : (Int) × (Nat → Int) × (Nat → Int)) => match u with | (m2, riv2, roa2) => z = suF v x) (fun (u : (Int) × (Nat → Int) × (Nat → Int)) => match u with | (m2, riv2, roa2) => [pnW h qt q1 q qs qc qh, tbW X qT Qs T, slW qs q qT, poW q Qp ((ns v : Nat) : Int) ((nr v : Nat) : Int) ((na v : Nat) : Int), aW X (Qp 0) 10 sl, aW X (Qp 1) 8 vo, aW X (Qp 2) 8 ou, aW X (Qp 3) 8 inn, aW X (Qp 4) 8 ac, aW X (Qp 5) 20 ag, aW X (Qp 6) 20 ai, aW X (Qp 7) 20 et, aW X (Qp 8) 20 xt, caW qc Qc m2, aW X (Qc 0) 8 riv2, aW X (Qc 1) 8 roa2]) := by
  refine Ci.ofW (cc := cX5_speedUpFor) (maxL := 6) (by decide) rfl (Nat.le_of_ble_eq_true rfl) ?_
  intro p_ e_ s_ m_ below meth c_ A Q_ S hA hAM hH hS hret ls hl
  have hl : lv_has ls 6 [(0, .ref (h)), (1, .int (iI (x)))] := hl
  have hk1 := hv.nr8
  have hk2 := hv.na20
  have hk3 := hv.ns10
  refine lv_iload_n S.1 S.2.1 dX5_speedUpFor_0 rfl (lv_at hl 1 rfl) ?_
  refine lv_iconst (v := iI (((1 : Nat) : Int))) S.1 S.2.1 dX5_speedUpFor_1 (by decide) ?_
  refine zv_icmp_lt (tgt := 11) S dX5_speedUpFor_2 (by decide) (by omega) (by decide) (fun c_2 => ?_) (fun c_2 => ?_)
  · skip
    refine lv_sipush (v := iI (-1001)) S.1 S.2.1 dX5_speedUpFor_11 (by decide) ?_
    exact hret 14 ls _ _ (-1001) (m0, riv, roa) dX5_speedUpFor_14 rfl (by show (-1001 : Int) = suF v x; unfold suF; rw [if_neg (by omega)]) hH hS
  · skip
    refine lv_iload_n S.1 S.2.1 dX5_speedUpFor_5 rfl (lv_at hl 1 rfl) ?_
    refine lv_bipush (v := iI (((8 : Nat) : Int))) S.1 S.2.1 dX5_speedUpFor_6 (by decide) ?_
    refine zv_icmp_le (tgt := 15) S dX5_speedUpFor_8 (by decide) (by omega) (by decide) (fun c_8 => ?_) (fun c_8 => ?_)
    · skip
      obtain ⟨k, rfl⟩ : ∃ k : Nat, x = ((k : Nat) : Int) := ⟨x.toNat, by omega⟩
      refine lv_aload_n S.1 S.2.1 dX5_speedUpFor_15 rfl (lv_at hl 0 rfl) ?_
      refine lv_iload_n S.1 S.2.1 dX5_speedUpFor_16 rfl (lv_at hl 1 rfl) ?_
      refine lv_bipush (v := iI (((120 : Nat) : Int))) S.1 S.2.1 dX5_speedUpFor_17 (by decide) ?_
      refine zc_Vi (n := 2) (As := [.int (iI ((k : Nat) : Int)), .int (iI ((120 : Nat) : Int))]) (rest := []) S hAM hA (kX5_sizeIsEnough l X h qt q1 q qs qc qh qT Qs T Qp v sl vo ou inn ac ag ai et xt Qc m0 riv roa k 120 hv hP hT (by omega) (by omega)) rfl gX5_speedUpFor_X5_sizeIsEnough  (by decide +kernel) ⟨Nat.le_of_ble_eq_true rfl, Nat.le_of_ble_eq_true rfl⟩ hH hS [0, 1, 2, 3, 4, 5, 6, 7, 8, 9, 10, 11, 12, 13, 14, 15] rfl 16 rfl (List.Perm.refl _) 5 0 rfl rfl rfl hl.1 rfl (Nat.le_of_ble_eq_true rfl) dX5_speedUpFor_19 ⟨Nat.le_of_ble_eq_true rfl, Nat.le_of_ble_eq_true rfl⟩ (fun z5 u4 H locs hp6 hH hS => ?_)
      obtain ⟨m2_1, riv2_2, roa2_3⟩ := u4
      have hH : Hold X A [pnW h qt q1 q qs qc qh, tbW X qT Qs T, slW qs q qT, poW q Qp ((ns v : Nat) : Int) ((nr v : Nat) : Int) ((na v : Nat) : Int), aW X (Qp 0) 10 sl, aW X (Qp 1) 8 vo, aW X (Qp 2) 8 ou, aW X (Qp 3) 8 inn, aW X (Qp 4) 8 ac, aW X (Qp 5) 20 ag, aW X (Qp 6) 20 ai, aW X (Qp 7) 20 et, aW X (Qp 8) 20 xt, caW qc Qc m2_1, aW X (Qc 0) 8 riv2_2, aW X (Qc 1) 8 roa2_3].flatten H := hH
      rcases hp6 with ⟨rfl, b_19⟩ | ⟨rfl, b_19⟩
      · refine zv_top (z := 1) (z2 := ((1 : Nat) : Int)) rfl ?_
        refine zv_if_ne (tgt := 29) S dX5_speedUpFor_22 (by decide) (by decide) (fun c_22 => ?_) (fun c_22 => ?_)
        · skip
          refine lv_iconst (v := iI (((0 : Nat) : Int))) S.1 S.2.1 dX5_speedUpFor_29 (by decide) ?_
          refine lv_istore_n (lv' := [(2, .int (iI ((0 : Nat) : Int))), (0, .ref (h)), (1, .int (iI ((k : Nat) : Int)))]) S.1 S.2.1 dX5_speedUpFor_30 rfl hl (by decide) rfl (fun ls hl => ?_)
          refine lv_bipush (v := iI (((120 : Nat) : Int))) S.1 S.2.1 dX5_speedUpFor_31 (by decide) ?_
          refine lv_istore_n (lv' := [(3, .int (iI ((120 : Nat) : Int))), (2, .int (iI ((0 : Nat) : Int))), (0, .ref (h)), (1, .int (iI ((k : Nat) : Int)))]) S.1 S.2.1 dX5_speedUpFor_33 rfl hl (by decide) rfl (fun ls hl => ?_)
          refine lv_iconst (v := iI (((0 : Nat) : Int))) S.1 S.2.1 dX5_speedUpFor_34 (by decide) ?_
          refine lv_istore (lv' := [(4, .int (iI ((0 : Nat) : Int))), (3, .int (iI ((120 : Nat) : Int))), (2, .int (iI ((0 : Nat) : Int))), (0, .ref (h)), (1, .int (iI ((k : Nat) : Int)))]) S.1 S.2.1 dX5_speedUpFor_35 hl (by decide) rfl (fun ls hl => ?_)
          have lp37 : ∀ (fu_ : Nat) (lo : Nat) (hi : Nat) (s : Nat) (m1 : Int) (riv1 : Nat → Int) (roa1 : Nat → Int), 8 - s < fu_ → (s ≤ 7) → (lo ≤ hi ∧ hi ≤ 120) → (hi - lo < 2 ^ (7 - s)) → (fc (Mk v ((hi : Nat) : Int)) (nr v) k ≠ none) → (∀ j : Nat, j < lo → fc (Mk v ((j : Nat) : Int)) (nr v) k = none) → ∀ (H : Heap) (locs : List Loc), Hold X A [pnW h qt q1 q qs qc qh, tbW X qT Qs T, slW qs q qT, poW q Qp ((ns v : Nat) : Int) ((nr v : Nat) : Int) ((na v : Nat) : Int), aW X (Qp 0) 10 sl, aW X (Qp 1) 8 vo, aW X (Qp 2) 8 ou, aW X (Qp 3) 8 inn, aW X (Qp 4) 8 ac, aW X (Qp 5) 20 ag, aW X (Qp 6) 20 ai, aW X (Qp 7) 20 et, aW X (Qp 8) 20 xt, caW qc Qc m1, aW X (Qc 0) 8 riv1, aW X (Qc 1) 8 roa1].flatten H → va_S A s_.heap H locs → ∀ ls : Array Slot, lv_has ls 6 [(4, .int (iI ((s : Nat) : Int))), (3, .int (iI ((hi : Nat) : Int))), (2, .int (iI ((lo : Nat) : Int))), (0, .ref (h)), (1, .int (iI ((k : Nat) : Int)))] → W p_ l e_ (rmD 13) s_ m_ (List.toArray [.ref (h), .int (iI (((k : Nat) : Int)))]) below meth c_ H locs 0 0 Q_ (F0 m_ 37 ls []) := by
            intro fu_
            induction fu_ with
            | zero => intro lo hi s m1 riv1 roa1 hmu hs hl hw he hno H locs hH hS ls hl; exact absurd hmu (Nat.not_lt_zero _)
            | succ fu_ ih37 => 
              intro lo hi s m1 riv1 roa1 hmu hs hl hw he hno H locs hH hS ls hl
              have hpw : 2 ^ (7 - s) ≤ 2 * 2 ^ (7 - (s + 1)) := by rw [← Nat.pow_succ']; exact Nat.pow_le_pow_right (by omega) (by omega)
              refine lv_iload S.1 S.2.1 dX5_speedUpFor_37 (lv_at hl 0 rfl) ?_
              refine lv_bipush (v := iI (((7 : Nat) : Int))) S.1 S.2.1 dX5_speedUpFor_39 (by decide) ?_
              refine zv_icmp_ge (tgt := 83) S dX5_speedUpFor_41 (by decide) (by omega) (by decide) (fun c_41 => ?_) (fun c_41 => ?_)
              · skip
                refine lv_iload_n S.1 S.2.1 dX5_speedUpFor_83 rfl (lv_at hl 2 rfl) ?_
                exact hret 84 ls _ _ (((lo : Nat) : Int)) (m1, riv1, roa1) dX5_speedUpFor_84 rfl (by show ((lo : Nat) : Int) = suF v ((k : Nat) : Int); unfold suF; rw [if_pos (by omega), Int.toNat_natCast]; have e9 : lo = hi := (by rcases Nat.lt_or_ge s 7 with z | z; (· omega); (· rw [show 7 - s = 0 by omega] at hw; omega)); exact (suS_min (by rw [e9]; exact he) 121 0 (by omega) (by omega) (fun j _ hj => hno j hj)).symm) hH hS
              · skip
                refine lv_iload_n S.1 S.2.1 dX5_speedUpFor_44 rfl (lv_at hl 2 rfl) ?_
                refine lv_iload_n S.1 S.2.1 dX5_speedUpFor_45 rfl (lv_at hl 1 rfl) ?_
                refine zv_icmp_ge (tgt := 83) S dX5_speedUpFor_46 (by decide) (by omega) (by omega) (fun c_46 => ?_) (fun c_46 => ?_)
                · skip
                  refine lv_iload_n S.1 S.2.1 dX5_speedUpFor_83 rfl (lv_at hl 2 rfl) ?_
                  exact hret 84 ls _ _ (((lo : Nat) : Int)) (m1, riv1, roa1) dX5_speedUpFor_84 rfl (by show ((lo : Nat) : Int) = suF v ((k : Nat) : Int); unfold suF; rw [if_pos (by omega), Int.toNat_natCast]; have e9 : lo = hi := (by rcases Nat.lt_or_ge s 7 with z | z; (· omega); (· rw [show 7 - s = 0 by omega] at hw; omega)); exact (suS_min (by rw [e9]; exact he) 121 0 (by omega) (by omega) (fun j _ hj => hno j hj)).symm) hH hS
                · skip
                  refine lv_iload_n S.1 S.2.1 dX5_speedUpFor_49 rfl (lv_at hl 2 rfl) ?_
                  refine lv_iload_n S.1 S.2.1 dX5_speedUpFor_50 rfl (lv_at hl 1 rfl) ?_
                  refine zv_iadd (z := (((lo + hi) : Nat) : Int)) S dX5_speedUpFor_51 (by omega) ?_
                  refine lv_iconst (v := iI (((2 : Nat) : Int))) S.1 S.2.1 dX5_speedUpFor_52 (by decide) ?_
                  refine zv_idiv (z := ((((lo + hi) / 2) : Nat) : Int)) S dX5_speedUpFor_53 (by decide) (iI_div (by omega) (by omega) (by omega)) ?_
                  refine lv_istore (lv' := [(5, .int (iI ((((lo + hi) / 2) : Nat) : Int))), (4, .int (iI ((s : Nat) : Int))), (3, .int (iI ((hi : Nat) : Int))), (2, .int (iI ((lo : Nat) : Int))), (0, .ref (h)), (1, .int (iI ((k : Nat) : Int)))]) S.1 S.2.1 dX5_speedUpFor_54 hl (by decide) rfl (fun ls hl => ?_)
                  refine lv_aload_n S.1 S.2.1 dX5_speedUpFor_56 rfl (lv_at hl 4 rfl) ?_
                  refine lv_iload_n S.1 S.2.1 dX5_speedUpFor_57 rfl (lv_at hl 5 rfl) ?_
                  refine lv_iload S.1 S.2.1 dX5_speedUpFor_58 (lv_at hl 0 rfl) ?_
                  refine zc_Vi (n := 2) (As := [.int (iI ((k : Nat) : Int)), .int (iI ((((lo + hi) / 2) : Nat) : Int))]) (rest := []) S hAM hA (kX5_sizeIsEnough l X h qt q1 q qs qc qh qT Qs T Qp v sl vo ou inn ac ag ai et xt Qc m1 riv1 roa1 k ((((lo + hi) / 2) : Nat) : Int) hv hP hT (by omega) (by omega)) rfl gX5_speedUpFor_X5_sizeIsEnough  (by decide +kernel) ⟨Nat.le_of_ble_eq_true rfl, Nat.le_of_ble_eq_true rfl⟩ hH hS [0, 1, 2, 3, 4, 5, 6, 7, 8, 9, 10, 11, 12, 13, 14, 15] rfl 16 rfl (List.Perm.refl _) 5 0 rfl rfl rfl hl.1 rfl (Nat.le_of_ble_eq_true rfl) dX5_speedUpFor_60 ⟨Nat.le_of_ble_eq_true rfl, Nat.le_of_ble_eq_true rfl⟩ (fun z11 u10 H locs hp12 hH hS => ?_)
                  obtain ⟨m2_7, riv2_8, roa2_9⟩ := u10
                  have hH : Hold X A [pnW h qt q1 q qs qc qh, tbW X qT Qs T, slW qs q qT, poW q Qp ((ns v : Nat) : Int) ((nr v : Nat) : Int) ((na v : Nat) : Int), aW X (Qp 0) 10 sl, aW X (Qp 1) 8 vo, aW X (Qp 2) 8 ou, aW X (Qp 3) 8 inn, aW X (Qp 4) 8 ac, aW X (Qp 5) 20 ag, aW X (Qp 6) 20 ai, aW X (Qp 7) 20 et, aW X (Qp 8) 20 xt, caW qc Qc m2_7, aW X (Qc 0) 8 riv2_8, aW X (Qc 1) 8 roa2_9].flatten H := hH
                  rcases hp12 with ⟨rfl, b_60⟩ | ⟨rfl, b_60⟩
                  · refine zv_top (z := 1) (z2 := ((1 : Nat) : Int)) rfl ?_
                    refine zv_if_eq (tgt := 72) S dX5_speedUpFor_63 (by decide) (by decide) (fun c_63 => ?_) (fun c_63 => ?_)
                    · exact (show False by omega).elim
                    · skip
                      refine lv_iload S.1 S.2.1 dX5_speedUpFor_66 (lv_at hl 0 rfl) ?_
                      refine lv_istore_n (lv' := [(3, .int (iI ((((lo + hi) / 2) : Nat) : Int))), (5, .int (iI ((((lo + hi) / 2) : Nat) : Int))), (4, .int (iI ((s : Nat) : Int))), (2, .int (iI ((lo : Nat) : Int))), (0, .ref (h)), (1, .int (iI ((k : Nat) : Int)))]) S.1 S.2.1 dX5_speedUpFor_68 rfl hl (by decide) rfl (fun ls hl => ?_)
                      refine lv_goto (tgt := 77) S.1 S.2.1 dX5_speedUpFor_69 (by decide) ?_
                      refine zv_iinc (z := (((s + 1) : Nat) : Int)) (lv' := [(4, .int (iI (((s + 1) : Nat) : Int))), (3, .int (iI ((((lo + hi) / 2) : Nat) : Int))), (5, .int (iI ((((lo + hi) / 2) : Nat) : Int))), (2, .int (iI ((lo : Nat) : Int))), (0, .ref (h)), (1, .int (iI ((k : Nat) : Int)))]) S dX5_speedUpFor_77 hl (k := 2) rfl (by omega) (by decide) rfl (fun ls hl => ?_)
                      refine lv_goto (tgt := 37) S.1 S.2.1 dX5_speedUpFor_80 (by decide) ?_
                      exact ih37  (lo) (((lo + hi) / 2)) ((s + 1)) (m2_7) (riv2_8) (roa2_9) (by omega) (by omega) (by omega) (by omega) b_60 hno _ _ hH hS ls (lv_sub hl [0, 1, 3, 4, 5] rfl)
                  · refine zv_top (z := 0) (z2 := ((0 : Nat) : Int)) rfl ?_
                    refine zv_if_eq (tgt := 72) S dX5_speedUpFor_63 (by decide) (by decide) (fun c_63 => ?_) (fun c_63 => ?_)
                    · skip
                      refine lv_iload S.1 S.2.1 dX5_speedUpFor_72 (lv_at hl 0 rfl) ?_
                      refine lv_iconst (v := iI (((1 : Nat) : Int))) S.1 S.2.1 dX5_speedUpFor_74 (by decide) ?_
                      refine zv_iadd (z := (((((lo + hi) / 2) + 1) : Nat) : Int)) S dX5_speedUpFor_75 (by omega) ?_
                      refine lv_istore_n (lv' := [(2, .int (iI (((((lo + hi) / 2) + 1) : Nat) : Int))), (5, .int (iI ((((lo + hi) / 2) : Nat) : Int))), (4, .int (iI ((s : Nat) : Int))), (3, .int (iI ((hi : Nat) : Int))), (0, .ref (h)), (1, .int (iI ((k : Nat) : Int)))]) S.1 S.2.1 dX5_speedUpFor_76 rfl hl (by decide) rfl (fun ls hl => ?_)
                      refine zv_iinc (z := (((s + 1) : Nat) : Int)) (lv' := [(4, .int (iI (((s + 1) : Nat) : Int))), (2, .int (iI (((((lo + hi) / 2) + 1) : Nat) : Int))), (5, .int (iI ((((lo + hi) / 2) : Nat) : Int))), (3, .int (iI ((hi : Nat) : Int))), (0, .ref (h)), (1, .int (iI ((k : Nat) : Int)))]) S dX5_speedUpFor_77 hl (k := 2) rfl (by omega) (by decide) rfl (fun ls hl => ?_)
                      refine lv_goto (tgt := 37) S.1 S.2.1 dX5_speedUpFor_80 (by decide) ?_
                      exact ih37  ((((lo + hi) / 2) + 1)) (hi) ((s + 1)) (m2_7) (riv2_8) (roa2_9) (by omega) (by omega) (by omega) (by omega) he (fun j hj => Classical.byContradiction (fun z => b_60 (fc_mono hv (by omega) (by omega) (by omega) z))) _ _ hH hS ls (lv_sub hl [0, 3, 1, 4, 5] rfl)
                    · exact (show False by omega).elim
          exact lp37 (8 - (0) + 1) (0) (120) (0) (m2_1) (riv2_2) (roa2_3) (Nat.lt_succ_self _) (by omega) (by omega) (by decide) b_19 (fun j hj => absurd hj (Nat.not_lt_zero _)) _ _ hH hS ls (lv_sub hl [0, 1, 2, 3, 4] rfl)
        · exact (show False by omega).elim
      · refine zv_top (z := 0) (z2 := ((0 : Nat) : Int)) rfl ?_
        refine zv_if_ne (tgt := 29) S dX5_speedUpFor_22 (by decide) (by decide) (fun c_22 => ?_) (fun c_22 => ?_)
        · exact (show False by omega).elim
        · skip
          refine lv_sipush (v := iI (-1004)) S.1 S.2.1 dX5_speedUpFor_25 (by decide) ?_
          exact hret 28 ls _ _ (-1004) (m2_1, riv2_2, roa2_3) dX5_speedUpFor_28 rfl (by show (-1004 : Int) = suF v ((k : Nat) : Int); unfold suF; rw [if_pos (by omega), Int.toNat_natCast]; exact (suS_none 121 0 (fun j _ hj => Classical.byContradiction (fun z => b_19 (fc_mono hv (by omega) (by omega) (by omega) z)))).symm) hH hS
    · skip
      refine lv_sipush (v := iI (-1001)) S.1 S.2.1 dX5_speedUpFor_11 (by decide) ?_
      exact hret 14 ls _ _ (-1001) (m0, riv, roa) dX5_speedUpFor_14 rfl (by show (-1001 : Int) = suF v x; unfold suF; rw [if_neg (by omega)]) hH hS
