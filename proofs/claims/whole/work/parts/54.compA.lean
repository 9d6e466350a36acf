theorem mX5_freeRivals_1 : Cond.fieldLink RX5 23 "RoleDoublingPlanner" "play" "LRoleDoublingPlanner$Play;" ∈ wsX5_freeRivals := List.mem_of_getElem? (i := 1) rfl
theorem nX5_freeRivals_X5 : ∀ w ∈ wsX50, w ∈ wsX5_freeRivals := fun _ h => List.mem_cons_of_mem _ (List.mem_append_left _ (List.mem_append_left _ (List.mem_append_right _ h)))
theorem mX5_freeRivals_2 : Cond.fieldLink RX5 86 "RoleDoublingPlanner$Play" "roles" "I" ∈ wsX5_freeRivals := List.mem_of_getElem? (i := 2) rfl
theorem nX5_freeRivals_X2 : ∀ w ∈ wsX20, w ∈ wsX5_freeRivals := fun _ h => List.mem_cons_of_mem _ (List.mem_append_left _ (List.mem_append_right _ h))
theorem mX5_freeRivals_3 : Cond.fieldLink RX5 135 "RoleDoublingPlanner$Play" "actor" "[I" ∈ wsX5_freeRivals := List.mem_of_getElem? (i := 3) rfl
set_option maxHeartbeats 4000000 in
set_option maxRecDepth 100000 in
theorem kX5_freeRivals (l : Launch) (X : XT) (h : Nat) (qt : Nat) (q1 : Nat) (q : Nat) (qs : Nat) (qc : Nat) (qh : Nat) (qT : Nat) (Qs : Nat → Nat) (T : Nat → Nat → Int) (Qp : Nat → Nat) (v : Nat → Int) (sl : Nat → Int) (vo : Nat → Int) (ou : Nat → Int) (inn : Nat → Int) (ac : Nat → Int) (ag : Nat → Int) (ai : Nat → Int) (et : Nat → Int) (xt : Nat → Int) (hv : okR v) (hP : PA v sl vo ou inn ac ag ai et xt) (hT : TbOK T v) (hn1 : 1 ≤ nr v) : Ci l yX5_freeRivals wsX5_freeRivals (rmD 3) X [.ref h] [pnW h qt q1 q qs qc qh, tbW X qT Qs T, slW qs q qT, poW q Qp ((ns v : Nat) : Int) ((nr v : Nat) : Int) ((na v : Nat) : Int), aW X (Qp 0) 10 sl, aW X (Qp 1) 8 vo, aW X (Qp 2) 8 ou, aW X (Qp 3) 8 inn, aW X (Qp 4) 8 ac, aW X (Qp 5) 20 ag, aW X (Qp 6) 20 ai, aW X (Qp 7) 20 et, aW X (Qp 8) 20 xt] (fun (z : Int) (ac2 : Nat → Int) => z = ((loA v : Nat) : Int) ∧ PA (rpA v) sl vo ou inn ac2 ag ai et xt) (fun (ac2 : Nat → Int) => [pnW h qt q1 q qs qc qh, tbW X qT Qs T, slW qs q qT, poW q Qp ((ns (rpA v) : Nat) : Int) ((nr (rpA v) : Nat) : Int) ((na (rpA v) : Nat) : Int), aW X (Qp 0) 10 sl, aW X (Qp 1) 8 vo, aW X (Qp 2) 8 ou, aW X (Qp 3) 8 inn, aW X (Qp 4) 8 ac2, aW X (Qp 5) 20 ag, aW X (Qp 6) 20 ai, aW X (Qp 7) 20 et, aW X (Qp 8) 20 xt]) := by
  refine Ci.ofW (cc := cX5_freeRivals) (maxL := 4) (by decide) rfl (Nat.le_of_ble_eq_true rfl) ?_
  intro p_ e_ s_ m_ below meth c_ A Q_ S hA hAM hH hS hret ls hl
  have hl : lv_has ls 4 [(0, .ref (h))] := hl
  have hk1 := hv.nr8
  have hk2 := hv.na20
  have hk3 := hv.ns10
  refine lv_iconst (v := iI (((0 : Nat) : Int))) S.1 S.2.1 dX5_freeRivals_0 (by decide) ?_
  refine lv_istore_n (lv' := [(1, .int (iI ((0 : Nat) : Int))), (0, .ref (h))]) S.1 S.2.1 dX5_freeRivals_1 rfl hl (by decide) rfl (fun ls hl => ?_)
  refine lv_iconst (v := iI (((1 : Nat) : Int))) S.1 S.2.1 dX5_freeRivals_2 (by decide) ?_
  refine lv_istore_n (lv' := [(2, .int (iI ((1 : Nat) : Int))), (1, .int (iI ((0 : Nat) : Int))), (0, .ref (h))]) S.1 S.2.1 dX5_freeRivals_3 rfl hl (by decide) rfl (fun ls hl => ?_)
  have lp4 : ∀ (fu_ : Nat) (r : Nat) (c : Nat) (ac1 : Nat → Int) (v1 : Nat → Int), nr v - r < fu_ → (1 ≤ r ∧ r ≤ nr v) → (v1 = rp (Mk v 0) v r) → (c = lo (Mk v 0) v r) → (PA v1 sl vo ou inn ac1 ag ai et xt) → ∀ (H : Heap) (locs : List Loc), Hold X A [pnW h qt q1 q qs qc qh, tbW X qT Qs T, slW qs q qT, poW q Qp ((ns v1 : Nat) : Int) ((nr v1 : Nat) : Int) ((na v1 : Nat) : Int), aW X (Qp 0) 10 sl, aW X (Qp 1) 8 vo, aW X (Qp 2) 8 ou, aW X (Qp 3) 8 inn, aW X (Qp 4) 8 ac1, aW X (Qp 5) 20 ag, aW X (Qp 6) 20 ai, aW X (Qp 7) 20 et, aW X (Qp 8) 20 xt].flatten H → va_S A s_.heap H locs → ∀ ls : Array Slot, lv_has ls 4 [(2, .int (iI ((r : Nat) : Int))), (1, .int (iI ((c : Nat) : Int))), (0, .ref (h))] → W p_ l e_ (rmD 3) s_ m_ (List.toArray [.ref (h)]) below meth c_ H locs 0 0 Q_ (F0 m_ 4 ls []) := by
    intro fu_
    induction fu_ with
    | zero => intro r c ac1 v1 hmu hr hv1 hc hP1 H locs hH hS ls hl; exact absurd hmu (Nat.not_lt_zero _)
    | succ fu_ ih4 => 
      intro r c ac1 v1 hmu hr hv1 hc hP1 H locs hH hS ls hl
      have hsm : sameA v v1 := by rw [hv1]; exact sameA_rp (by omega)
      have hok : okR v1 := by rw [hv1]; exact okR_rp hv r (by omega)
      have hT1 := TbOK_same hv hsm hT
      have hnr := hsm.nr
      have hss : r < nr v → ∀ p, p < r → (rsn v r p 0 ≠ 0 ↔ rsn v1 r p 0 ≠ 0) := fun hrr p hp => by rw [rsn_same hv hsm r p 0 (by omega) (by omega)]
      have hlo := lo_le (Mk v 0) v r
      refine lv_iload_n S.1 S.2.1 dX5_freeRivals_4 rfl (lv_at hl 0 rfl) ?_
      refine lv_aload_n S.1 S.2.1 dX5_freeRivals_5 rfl (lv_at hl 2 rfl) ?_
      refine zv_get (v := .ref (q)) S hAM hH nX5_freeRivals_X5 0 rfl rfl 2 (by decide) mX5_freeRivals_1 rfl rfl dX5_freeRivals_6 ?_
      refine zv_get (v := .int (iI ((nr v1 : Nat) : Int))) S hAM hH nX5_freeRivals_X2 11 rfl rfl 1 (by decide) mX5_freeRivals_2 rfl rfl dX5_freeRivals_9 ?_
      refine zv_icmp_ge (tgt := 59) S dX5_freeRivals_12 (by decide) (by omega) (by omega) (fun c_12 => ?_) (fun c_12 => ?_)
      · skip
        refine lv_iload_n S.1 S.2.1 dX5_freeRivals_59 rfl (lv_at hl 1 rfl) ?_
        have e9 : r = nr v := by omega
        have eV : rpA v = v1 := by rw [hv1, e9]; rfl
        have eL : loA v = c := by rw [hc, e9]; rfl
        rw [eV] at hret
        exact hret 60 ls _ _ (((c : Nat) : Int)) ac1 dX5_freeRivals_60 rfl ⟨(by rw [eL]), hP1⟩ hH hS
      · skip
        refine lv_aload_n S.1 S.2.1 dX5_freeRivals_15 rfl (lv_at hl 2 rfl) ?_
        refine zv_get (v := .ref (q)) S hAM hH nX5_freeRivals_X5 0 rfl rfl 2 (by decide) mX5_freeRivals_1 rfl rfl dX5_freeRivals_16 ?_
        refine zv_get (v := .ref (Qp 4)) S hAM hH nX5_freeRivals_X2 11 rfl rfl 7 (by decide) mX5_freeRivals_3 rfl rfl dX5_freeRivals_19 ?_
        refine lv_iload_n S.1 S.2.1 dX5_freeRivals_22 rfl (lv_at hl 0 rfl) ?_
        refine zv_iald S hAM hH 16 rfl (r) rfl (by omega) (by decide) dX5_freeRivals_23 ?_
        refine zv_top (z := ac1 r) (z2 := v1 (36 + r)) (hP1.2.1 r (by omega)).2.2.2 ?_
        refine lv_istore_n (lv' := [(3, .int (iI (v1 (36 + r)))), (2, .int (iI ((r : Nat) : Int))), (1, .int (iI ((c : Nat) : Int))), (0, .ref (h))]) S.1 S.2.1 dX5_freeRivals_24 rfl hl (by decide) rfl (fun ls hl => ?_)
        refine lv_iload_n S.1 S.2.1 dX5_freeRivals_25 rfl (lv_at hl 0 rfl) ?_
        refine lv_iconst (v := iI (-1)) S.1 S.2.1 dX5_freeRivals_26 (by decide) ?_
        refine zv_icmp_eq (tgt := 53) S dX5_freeRivals_27 (by decide) (hok.inRk _ (by omega)) (by decide) (fun c_27 => ?_) (fun c_27 => ?_)
        · skip
          have hfx : ¬ fxI (Mk v 0) v1 r r = 0 := fun z => ((fx_rv (w := v1) (by omega) (hss (by omega))).mp z).1 c_27
          refine zv_iinc (z := (((r + 1) : Nat) : Int)) (lv' := [(2, .int (iI (((r + 1) : Nat) : Int))), (3, .int (iI (v1 (36 + r)))), (1, .int (iI ((c : Nat) : Int))), (0, .ref (h))]) S dX5_freeRivals_53 hl (k := 1) rfl (by omega) (by decide) rfl (fun ls hl => ?_)
          refine lv_goto (tgt := 4) S.1 S.2.1 dX5_freeRivals_56 (by decide) ?_
          exact ih4  ((r + 1)) (c) (ac1) (v1) (by omega) (by omega) (by rw [rp, ← hv1, if_neg hfx]) (by rw [lo, ← hv1, if_neg hfx, hc]) hP1 _ _ hH hS ls (lv_sub hl [0, 2, 3] rfl)
        · skip
          refine lv_aload_n S.1 S.2.1 dX5_freeRivals_30 rfl (lv_at hl 3 rfl) ?_
          refine lv_iload_n S.1 S.2.1 dX5_freeRivals_31 rfl (lv_at hl 0 rfl) ?_
          refine lv_iload_n S.1 S.2.1 dX5_freeRivals_32 rfl (lv_at hl 1 rfl) ?_
          refine lv_iload_n S.1 S.2.1 dX5_freeRivals_33 rfl (lv_at hl 1 rfl) ?_
          refine zc_Vi (n := 3) (As := [.int (iI (v1 (36 + r))), .int (iI ((r : Nat) : Int)), .int (iI ((r : Nat) : Int))]) (rest := []) S hAM hA (kX5_hasRivalOf l X h qt q1 q qs qc qh qT Qs T Qp v1 sl vo ou inn ac1 ag ai et xt (v1 (36 + r)) r r hok hP1 hT1 (hok.inRk _ (by omega)) (by omega) (by omega)) rfl gX5_freeRivals_X5_hasRivalOf  (by decide +kernel) ⟨Nat.le_of_ble_eq_true rfl, Nat.le_of_ble_eq_true rfl⟩ hH hS [0, 1, 2, 3, 4, 5, 6, 7, 8, 9, 10, 11, 12] rfl 13 rfl (List.Perm.refl _) 5 0 rfl rfl rfl hl.1 rfl (Nat.le_of_ble_eq_true rfl) dX5_freeRivals_34 ⟨Nat.le_of_ble_eq_true rfl, Nat.le_of_ble_eq_true rfl⟩ (fun z2 _ H locs hp3 hH hS => ?_)
          have hH : Hold X A [pnW h qt q1 q qs qc qh, tbW X qT Qs T, slW qs q qT, poW q Qp ((ns v1 : Nat) : Int) ((nr v1 : Nat) : Int) ((na v1 : Nat) : Int), aW X (Qp 0) 10 sl, aW X (Qp 1) 8 vo, aW X (Qp 2) 8 ou, aW X (Qp 3) 8 inn, aW X (Qp 4) 8 ac1, aW X (Qp 5) 20 ag, aW X (Qp 6) 20 ai, aW X (Qp 7) 20 et, aW X (Qp 8) 20 xt].flatten H := hH
          rcases hp3 with ⟨rfl, b_34⟩ | ⟨rfl, b_34⟩
          · refine zv_top (z := 1) (z2 := ((1 : Nat) : Int)) rfl ?_
            have hfx : fxI (Mk v 0) v1 r r = 0 := (fx_rv (w := v1) (by omega) (hss (by omega))).mpr ⟨c_27, b_34⟩
            refine zv_if_eq (tgt := 53) S dX5_freeRivals_37 (by decide) (by decide) (fun c_37 => ?_) (fun c_37 => ?_)
            · exact (show False by omega).elim
            · skip
              refine lv_aload_n S.1 S.2.1 dX5_freeRivals_40 rfl (lv_at hl 3 rfl) ?_
              refine zv_get (v := .ref (q)) S hAM hH nX5_freeRivals_X5 0 rfl rfl 2 (by decide) mX5_freeRivals_1 rfl rfl dX5_freeRivals_41 ?_
              refine zv_get (v := .ref (Qp 4)) S hAM hH nX5_freeRivals_X2 11 rfl rfl 7 (by decide) mX5_freeRivals_3 rfl rfl dX5_freeRivals_44 ?_
              refine lv_iload_n S.1 S.2.1 dX5_freeRivals_47 rfl (lv_at hl 1 rfl) ?_
              refine lv_iconst (v := iI (-1)) S.1 S.2.1 dX5_freeRivals_48 (by decide) ?_
              refine zv_iast (z := -1) (w2 := [pnW h qt q1 q qs qc qh, tbW X qT Qs T, slW qs q qT, poW q Qp ((ns v1 : Nat) : Int) ((nr v1 : Nat) : Int) ((na v1 : Nat) : Int), aW X (Qp 0) 10 sl, aW X (Qp 1) 8 vo, aW X (Qp 2) 8 ou, aW X (Qp 3) 8 inn, aW X (Qp 4) 8 (uI ac1 r (-1)), aW X (Qp 5) 20 ag, aW X (Qp 6) 20 ai, aW X (Qp 7) 20 et, aW X (Qp 8) 20 xt].flatten) S hAM hH hS 16 rfl (r) rfl (by omega) (by decide) rfl dX5_freeRivals_49 (fun H locs hH hS => ?_)
              refine zv_iinc (z := (((c + 1) : Nat) : Int)) (lv' := [(1, .int (iI (((c + 1) : Nat) : Int))), (3, .int (iI (v1 (36 + r)))), (2, .int (iI ((r : Nat) : Int))), (0, .ref (h))]) S dX5_freeRivals_50 hl (k := 2) rfl (by omega) (by decide) rfl (fun ls hl => ?_)
              refine zv_iinc (z := (((r + 1) : Nat) : Int)) (lv' := [(2, .int (iI (((r + 1) : Nat) : Int))), (1, .int (iI (((c + 1) : Nat) : Int))), (3, .int (iI (v1 (36 + r)))), (0, .ref (h))]) S dX5_freeRivals_53 hl (k := 2) rfl (by omega) (by decide) rfl (fun ls hl => ?_)
              refine lv_goto (tgt := 4) S.1 S.2.1 dX5_freeRivals_56 (by decide) ?_
              rw [← (sameA_u (v := v1) (r := r) (x := -1) (by omega)).ns, ← (sameA_u (v := v1) (r := r) (x := -1) (by omega)).nr, ← (sameA_u (v := v1) (r := r) (x := -1) (by omega)).na] at hH
              exact ih4  ((r + 1)) ((c + 1)) (uI ac1 r (-1)) (uI v1 (36 + r) (-1)) (by omega) (by omega) (by rw [rp, ← hv1, if_pos hfx]) (by rw [lo, ← hv1, if_pos hfx, hc]) (PA_act hok hP1 (by omega)) _ _ hH hS ls (lv_sub hl [0, 1, 3] rfl)
          · refine zv_top (z := 0) (z2 := ((0 : Nat) : Int)) rfl ?_
            have hfx : ¬ fxI (Mk v 0) v1 r r = 0 := fun z => b_34 ((fx_rv (w := v1) (by omega) (hss (by omega))).mp z).2
            refine zv_if_eq (tgt := 53) S dX5_freeRivals_37 (by decide) (by decide) (fun c_37 => ?_) (fun c_37 => ?_)
            · skip
              refine zv_iinc (z := (((r + 1) : Nat) : Int)) (lv' := [(2, .int (iI (((r + 1) : Nat) : Int))), (3, .int (iI (v1 (36 + r)))), (1, .int (iI ((c : Nat) : Int))), (0, .ref (h))]) S dX5_freeRivals_53 hl (k := 1) rfl (by omega) (by decide) rfl (fun ls hl => ?_)
              refine lv_goto (tgt := 4) S.1 S.2.1 dX5_freeRivals_56 (by decide) ?_
              exact ih4  ((r + 1)) (c) (ac1) (v1) (by omega) (by omega) (by rw [rp, ← hv1, if_neg hfx]) (by rw [lo, ← hv1, if_neg hfx, hc]) hP1 _ _ hH hS ls (lv_sub hl [0, 2, 3] rfl)
            · exact (show False by omega).elim
  exact lp4 (nr v - (1) + 1) (1) (0) (ac) (v) (Nat.lt_succ_self _) (by omega) rfl rfl hP _ _ hH hS ls (lv_sub hl [0, 1, 2] rfl)

theorem mX5_append_1 : Cond.fieldLink RX5 12 "RoleDoublingPlanner" "text" "LRoleDoublingPlanner$PlayText;" ∈ wsX5_append := List.mem_of_getElem? (i := 1) rfl
theorem nX5_append_X5 : ∀ w ∈ wsX50, w ∈ wsX5_append := fun _ h => List.mem_cons_of_mem _ (List.mem_append_left _ (List.mem_append_right _ h))
theorem mX5_append_2 : Cond.fieldLink RX5 69 "RoleDoublingPlanner$PlayText" "length" "I" ∈ wsX5_append := List.mem_of_getElem? (i := 2) rfl
theorem nX5_append_X3 : ∀ w ∈ wsX30, w ∈ wsX5_append := fun _ h => List.mem_cons_of_mem _ (List.mem_append_right _ h)
set_option maxHeartbeats 4000000 in
set_option maxRecDepth 100000 in
theorem kX5_append (l : Launch) (X : XT) (h : Nat) (qt : Nat) (q1 : Nat) (q : Nat) (qs : Nat) (qc : Nat) (qh : Nat) (Qt : Nat → Nat) (lnn : Nat) (ss : Int) (rs : Int) (p : Nat) (w : Nat) (tx : Nat → Int) (c : Int) (hc : inR c) (hl0 : lnn ≤ 400) : Ci l yX5_append wsX5_append (rmD 2) X [.ref h, .int (iI (c))] [pnW h qt q1 q qs qc qh, toW qt Qt ((lnn : Nat) : Int) ss rs ((p : Nat) : Int) ((w : Nat) : Int), cW X (Qt 0) 400 tx] (fun (z : Int) (_ : Unit) => z = (opApn tx lnn c).1) (fun (_ : Unit) => [pnW h qt q1 q qs qc qh, toW qt Qt (((opApn tx lnn c).2.2 : Nat) : Int) ss rs ((p : Nat) : Int) ((w : Nat) : Int), cW X (Qt 0) 400 ((opApn tx lnn c).2.1)]) := by
  refine Ci.ofW (cc := cX5_append) (maxL := 2) (by decide) rfl (Nat.le_of_ble_eq_true rfl) ?_
  intro p_ e_ s_ m_ below meth c_ A Q_ S hA hAM hH hS hret ls hl
  have hl : lv_has ls 2 [(0, .ref (h)), (1, .int (iI (c)))] := hl
  refine lv_iload_n S.1 S.2.1 dX5_append_0 rfl (lv_at hl 1 rfl) ?_
  refine lv_bipush (v := iI (((32 : Nat) : Int))) S.1 S.2.1 dX5_append_1 (by decide) ?_
  refine zv_icmp_lt (tgt := 12) S dX5_append_3 (by decide) (by omega) (by decide) (fun c_3 => ?_) (fun c_3 => ?_)
  · skip
    refine lv_sipush (v := iI (-1001)) S.1 S.2.1 dX5_append_12 (by decide) ?_
    have eO : opApn tx lnn c = (-1001, tx, lnn) := by unfold opApn; rw [if_neg (by omega)]
    rw [eO] at hret
    exact hret 15 ls _ _ (-1001) () dX5_append_15 rfl rfl hH hS
  · skip
    refine lv_iload_n S.1 S.2.1 dX5_append_6 rfl (lv_at hl 1 rfl) ?_
    refine lv_bipush (v := iI (((126 : Nat) : Int))) S.1 S.2.1 dX5_append_7 (by decide) ?_
    refine zv_icmp_le (tgt := 16) S dX5_append_9 (by decide) (by omega) (by decide) (fun c_9 => ?_) (fun c_9 => ?_)
    · skip
      obtain ⟨cn, rfl⟩ : ∃ cn : Nat, c = ((cn : Nat) : Int) := ⟨c.toNat, by omega⟩
      refine lv_aload_n S.1 S.2.1 dX5_append_16 rfl (lv_at hl 0 rfl) ?_
      refine zv_get (v := .ref (qt)) S hAM hH nX5_append_X5 0 rfl rfl 0 (by decide) mX5_append_1 rfl rfl dX5_append_17 ?_
      refine zv_get (v := .int (iI ((lnn : Nat) : Int))) S hAM hH nX5_append_X3 1 rfl rfl 1 (by decide) mX5_append_2 rfl rfl dX5_append_20 ?_
      refine lv_sipush (v := iI (((400 : Nat) : Int))) S.1 S.2.1 dX5_append_23 (by decide) ?_
      refine zv_icmp_lt (tgt := 33) S dX5_append_26 (by decide) (by omega) (by decide) (fun c_26 => ?_) (fun c_26 => ?_)
      · skip
        refine lv_aload_n S.1 S.2.1 dX5_append_33 rfl (lv_at hl 0 rfl) ?_
        refine zv_get (v := .ref (qt)) S hAM hH nX5_append_X5 0 rfl rfl 0 (by decide) mX5_append_1 rfl rfl dX5_append_34 ?_
        refine lv_iload_n S.1 S.2.1 dX5_append_37 rfl (lv_at hl 1 rfl) ?_
        refine lv_i2c (v := iI (((cn : Nat) : Int))) S.1 S.2.1 dX5_append_38 (i2c256 _ (by omega)) ?_
        refine zc_Vv (n := 1) (As := [.int (iI ((cn : Nat) : Int))]) (rest := []) S hAM hA (kX3_put l X qt Qt lnn ss rs p w tx cn (by omega) (by omega)) rfl gX5_append_X3_put  (by decide +kernel) ⟨Nat.le_of_ble_eq_true rfl, Nat.le_of_ble_eq_true rfl⟩ hH hS [1, 2, 0] rfl 3 rfl (by decide) 3 0 rfl rfl rfl hl.1 rfl (Nat.le_of_ble_eq_true rfl) dX5_append_39 ⟨Nat.le_of_ble_eq_true rfl, Nat.le_of_ble_eq_true rfl⟩ (fun _ H locs hp3 hH hS => ?_)
        have hH : Hold X A [toW qt Qt ((lnn + 1 : Nat) : Int) ss rs ((p : Nat) : Int) ((w : Nat) : Int), cW X (Qt 0) 400 (uI tx lnn ((cn : Nat) : Int)), pnW h qt q1 q qs qc qh].flatten H := hH
        refine lv_aload_n S.1 S.2.1 dX5_append_42 rfl (lv_at hl 0 rfl) ?_
        refine zv_get (v := .ref (qt)) S hAM hH nX5_append_X5 2 rfl rfl 0 (by decide) mX5_append_1 rfl rfl dX5_append_43 ?_
        refine zv_get (v := .int (iI ((lnn + 1 : Nat) : Int))) S hAM hH nX5_append_X3 0 rfl rfl 1 (by decide) mX5_append_2 rfl rfl dX5_append_46 ?_
        have hH : Hold X A [pnW h qt q1 q qs qc qh, toW qt Qt ((lnn + 1 : Nat) : Int) ss rs ((p : Nat) : Int) ((w : Nat) : Int), cW X (Qt 0) 400 (uI tx lnn ((cn : Nat) : Int))].flatten _ := hH.pick [2, 0, 1] rfl 3 rfl (by decide)
        have eO : opApn tx lnn ((cn : Nat) : Int) = ((((lnn + 1) : Nat) : Int), uI tx lnn ((cn : Nat) : Int), lnn + 1) := by unfold opApn; rw [if_pos (by omega), if_neg (by omega)]
        rw [eO] at hret
        exact hret 49 ls _ _ (((lnn + 1 : Nat) : Int)) () dX5_append_49 rfl rfl hH hS
      · skip
        refine lv_sipush (v := iI (-1003)) S.1 S.2.1 dX5_append_29 (by decide) ?_
        have eO : opApn tx lnn ((cn : Nat) : Int) = (-1003, tx, lnn) := by unfold opApn; rw [if_pos (by omega), if_pos (by omega)]
        rw [eO] at hret
        exact hret 32 ls _ _ (-1003) () dX5_append_32 rfl rfl hH hS
    · skip
      refine lv_sipush (v := iI (-1001)) S.1 S.2.1 dX5_append_12 (by decide) ?_
      have eO : opApn tx lnn c = (-1001, tx, lnn) := by unfold opApn; rw [if_neg (by omega)]
      rw [eO] at hret
      exact hret 15 ls _ _ (-1001) () dX5_append_15 rfl rfl hH hS

theorem mX5_clearText_1 : Cond.fieldLink RX5 12 "RoleDoublingPlanner" "text" "LRoleDoublingPlanner$PlayText;" ∈ wsX5_clearText := List.mem_of_getElem? (i := 1) rfl
theorem nX5_clearText_X5 : ∀ w ∈ wsX50, w ∈ wsX5_clearText := fun _ h => List.mem_cons_of_mem _ (List.mem_append_left _ (List.mem_append_right _ h))
theorem mX5_clearText_2 : Cond.fieldLink RX5 69 "RoleDoublingPlanner$PlayText" "length" "I" ∈ wsX5_clearText := List.mem_of_getElem? (i := 2) rfl
theorem nX5_clearText_X3 : ∀ w ∈ wsX30, w ∈ wsX5_clearText := fun _ h => List.mem_cons_of_mem _ (List.mem_append_right _ h)
set_option maxHeartbeats 4000000 in
set_option maxRecDepth 100000 in
theorem kX5_clearText (l : Launch) (X : XT) (h : Nat) (qt : Nat) (q1 : Nat) (q : Nat) (qs : Nat) (qc : Nat) (qh : Nat) (Qt : Nat → Nat) (lnn : Nat) (ss : Int) (rs : Int) (p : Nat) (w : Nat) (tx : Nat → Int)  : Ci l yX5_clearText wsX5_clearText (rmD 1) X [.ref h] [pnW h qt q1 q qs qc qh, toW qt Qt ((lnn : Nat) : Int) ss rs ((p : Nat) : Int) ((w : Nat) : Int), cW X (Qt 0) 400 tx] (fun (z : Int) (_ : Unit) => z = ((lnn : Nat) : Int)) (fun (_ : Unit) => [pnW h qt q1 q qs qc qh, toW qt Qt ((0 : Nat) : Int) ss rs ((p : Nat) : Int) ((w : Nat) : Int), cW X (Qt 0) 400 tx]) := by
  refine Ci.ofW (cc := cX5_clearText) (maxL := 2) (by decide) rfl (Nat.le_of_ble_eq_true rfl) ?_
  intro p_ e_ s_ m_ below meth c_ A Q_ S hA hAM hH hS hret ls hl
  have hl : lv_has ls 2 [(0, .ref (h))] := hl
  refine lv_aload_n S.1 S.2.1 dX5_clearText_0 rfl (lv_at hl 0 rfl) ?_
  refine zv_get (v := .ref (qt)) S hAM hH nX5_clearText_X5 0 rfl rfl 0 (by decide) mX5_clearText_1 rfl rfl dX5_clearText_1 ?_
  refine zv_get (v := .int (iI ((lnn : Nat) : Int))) S hAM hH nX5_clearText_X3 1 rfl rfl 1 (by decide) mX5_clearText_2 rfl rfl dX5_clearText_4 ?_
  refine lv_istore_n (lv' := [(1, .int (iI ((lnn : Nat) : Int))), (0, .ref (h))]) S.1 S.2.1 dX5_clearText_7 rfl hl (by decide) rfl (fun ls hl => ?_)
  refine lv_aload_n S.1 S.2.1 dX5_clearText_8 rfl (lv_at hl 1 rfl) ?_
  refine zv_get (v := .ref (qt)) S hAM hH nX5_clearText_X5 0 rfl rfl 0 (by decide) mX5_clearText_1 rfl rfl dX5_clearText_9 ?_
  refine lv_iconst (v := iI (((0 : Nat) : Int))) S.1 S.2.1 dX5_clearText_12 (by decide) ?_
  refine zv_put (v := .int (iI ((0 : Nat) : Int))) (w2 := [pnW h qt q1 q qs qc qh, toW qt Qt ((0 : Nat) : Int) ss rs ((p : Nat) : Int) ((w : Nat) : Int), cW X (Qt 0) 400 tx].flatten) S hAM hH hS nX5_clearText_X3 tyX3 tyX3_ok nmX3 1 rfl rfl 1 (by decide) mX5_clearText_2 rfl rfl rfl rfl (Nat.le_of_ble_eq_true rfl) rfl dX5_clearText_13 (fun H locs hH hS => ?_)
  refine lv_iload_n S.1 S.2.1 dX5_clearText_16 rfl (lv_at hl 0 rfl) ?_
  exact hret 17 ls _ _ (((lnn : Nat) : Int)) () dX5_clearText_17 rfl rfl hH hS

theorem mX5_firstError_1 : Cond.fieldLink RX5 12 "RoleDoublingPlanner" "text" "LRoleDoublingPlanner$PlayText;" ∈ wsX5_firstError := List.mem_of_getElem? (i := 1) rfl
theorem nX5_firstError_X5 : ∀ w ∈ wsX50, w ∈ wsX5_firstError := fun _ h => List.mem_cons_of_mem _ (List.mem_append_left _ (List.mem_append_left _ (List.mem_append_right _ h)))
theorem mX5_firstError_2 : Cond.fieldLink RX5 19 "RoleDoublingPlanner" "stated" "LRoleDoublingPlanner$Play;" ∈ wsX5_firstError := List.mem_of_getElem? (i := 2) rfl
theorem mX5_firstError_3 : Cond.fieldLink RX5 77 "RoleDoublingPlanner$PlayText" "reason" "I" ∈ wsX5_firstError := List.mem_of_getElem? (i := 3) rfl
theorem nX5_firstError_X3 : ∀ w ∈ wsX30, w ∈ wsX5_firstError := fun _ h => List.mem_cons_of_mem _ (List.mem_append_left _ (List.mem_append_right _ h))
theorem mX5_firstError_4 : Cond.fieldLink RX5 80 "RoleDoublingPlanner$PlayText" "statementStart" "I" ∈ wsX5_firstError := List.mem_of_getElem? (i := 4) rfl
set_option maxHeartbeats 4000000 in
set_option maxRecDepth 100000 in
theorem kX5_firstError (l : Launch) (X : XT) (h : Nat) (qt : Nat) (q1 : Nat) (q : Nat) (qs : Nat) (qc : Nat) (qh : Nat) (Qt : Nat → Nat) (lnn : Nat) (ss : Int) (rs : Int) (p : Int) (w : Nat) (tx : Nat → Int) (nm : Nat → Int) (Q1 : Nat → Nat) (c1 : Int) (r1 : Int) (a1 : Int) (usl : Nat → Int) (uvo : Nat → Int) (uou : Nat → Int) (uinn : Nat → Int) (uac : Nat → Int) (uag : Nat → Int) (uai : Nat → Int) (uet : Nat → Int) (uxt : Nat → Int) (ht : okT tx lnn) (hw : w ≤ 400) : Ci l yX5_firstError wsX5_firstError (rmD 10) X [.ref h] [pnW h qt q1 q qs qc qh, toW qt Qt ((lnn : Nat) : Int) ss rs p ((w : Nat) : Int), cW X (Qt 0) 400 tx, aW X (Qt 1) 4 nm, poW q1 Q1 c1 r1 a1, aW X (Q1 0) 10 usl, aW X (Q1 1) 8 uvo, aW X (Q1 2) 8 uou, aW X (Q1 3) 8 uinn, aW X (Q1 4) 8 uac, aW X (Q1 5) 20 uag, aW X (Q1 6) 20 uai, aW X (Q1 7) 20 uet, aW X (Q1 8) 20 uxt] (fun (z : Int) (u : (Int) × (Nat) × (Nat) × (Nat) × (Nat → Int) × (Nat → Int) × (Nat → Int) × (Nat → Int) × (Nat → Int) × (Nat → Int) × (Nat → Int) × (Nat → Int) × (Nat → Int) × (Nat → Int)) => match u with | (s2, r2, p2, w2, nm2, usl2, uvo2, uou2, uinn2, uac2, uag2, uai2, uet2, uxt2) => z = (rdA tx lnn).1 ∧ w2 ≤ 400) (fun (u : (Int) × (Nat) × (Nat) × (Nat) × (Nat → Int) × (Nat → Int) × (Nat → Int) × (Nat → Int) × (Nat → Int) × (Nat → Int) × (Nat → Int) × (Nat → Int) × (Nat → Int) × (Nat → Int)) => match u with | (s2, r2, p2, w2, nm2, usl2, uvo2, uou2, uinn2, uac2, uag2, uai2, uet2, uxt2) => [pnW h qt q1 q qs qc qh, toW qt Qt ((lnn : Nat) : Int) s2 ((r2 : Nat) : Int) ((p2 : Nat) : Int) ((w2 : Nat) : Int), cW X (Qt 0) 400 tx, aW X (Qt 1) 4 nm2, poW q1 Q1 ((ns ((rdA tx lnn).2.2) : Nat) : Int) ((nr ((rdA tx lnn).2.2) : Nat) : Int) ((na ((rdA tx lnn).2.2) : Nat) : Int), aW X (Q1 0) 10 usl2, aW X (Q1 1) 8 uvo2, aW X (Q1 2) 8 uou2, aW X (Q1 3) 8 uinn2, aW X (Q1 4) 8 uac2, aW X (Q1 5) 20 uag2, aW X (Q1 6) 20 uai2, aW X (Q1 7) 20 uet2, aW X (Q1 8) 20 uxt2]) := by
  refine Ci.ofW (cc := cX5_firstError) (maxL := 1) (by decide) rfl (Nat.le_of_ble_eq_true rfl) ?_
  intro p_ e_ s_ m_ below meth c_ A Q_ S hA hAM hH hS hret ls hl
  have hl : lv_has ls 1 [(0, .ref (h))] := hl
  refine lv_aload_n S.1 S.2.1 dX5_firstError_0 rfl (lv_at hl 0 rfl) ?_
  refine zv_get (v := .ref (qt)) S hAM hH nX5_firstError_X5 0 rfl rfl 0 (by decide) mX5_firstError_1 rfl rfl dX5_firstError_1 ?_
  refine lv_aload_n S.1 S.2.1 dX5_firstError_4 rfl (lv_at hl 0 rfl) ?_
  refine zv_get (v := .ref (q1)) S hAM hH nX5_firstError_X5 0 rfl rfl 1 (by decide) mX5_firstError_2 rfl rfl dX5_firstError_5 ?_
  refine zc_Vv (n := 1) (As := [.ref (q1)]) (rest := []) S hAM hA (kX3_readInto l X qt Qt lnn ss rs p w tx nm q1 Q1 c1 r1 a1 usl uvo uou uinn uac uag uai uet uxt ht (by omega)) rfl gX5_firstError_X3_readInto  (by decide +kernel) ⟨Nat.le_of_ble_eq_true rfl, Nat.le_of_ble_eq_true rfl⟩ hH hS [1, 2, 3, 4, 5, 6, 7, 8, 9, 10, 11, 12, 13, 0] rfl 14 rfl (by decide) 3 0 rfl rfl rfl hl.1 rfl (Nat.le_of_ble_eq_true rfl) dX5_firstError_8 ⟨Nat.le_of_ble_eq_true rfl, Nat.le_of_ble_eq_true rfl⟩ (fun u15 H locs hp17 hH hS => ?_)
  obtain ⟨s2_1, r2_2, p2_3, w2_4, nm2_5, sl2_6, vo2_7, ou2_8, inn2_9, ac2_10, ag2_11, ai2_12, et2_13, xt2_14⟩ := u15
  have hH : Hold X A [toW qt Qt ((lnn : Nat) : Int) s2_1 ((r2_2 : Nat) : Int) ((p2_3 : Nat) : Int) ((w2_4 : Nat) : Int), cW X (Qt 0) 400 tx, aW X (Qt 1) 4 nm2_5, poW q1 Q1 ((ns ((rdA tx lnn).2.2) : Nat) : Int) ((nr ((rdA tx lnn).2.2) : Nat) : Int) ((na ((rdA tx lnn).2.2) : Nat) : Int), aW X (Q1 0) 10 sl2_6, aW X (Q1 1) 8 vo2_7, aW X (Q1 2) 8 ou2_8, aW X (Q1 3) 8 inn2_9, aW X (Q1 4) 8 ac2_10, aW X (Q1 5) 20 ag2_11, aW X (Q1 6) 20 ai2_12, aW X (Q1 7) 20 et2_13, aW X (Q1 8) 20 xt2_14, pnW h qt q1 q qs qc qh].flatten H := hH
  obtain ⟨hPA_8, hrd_8, hr4_8, hw2_8, hact_8, hs4_8⟩ := hp17
  refine lv_aload_n S.1 S.2.1 dX5_firstError_11 rfl (lv_at hl 0 rfl) ?_
  refine zv_get (v := .ref (qt)) S hAM hH nX5_firstError_X5 13 rfl rfl 0 (by decide) mX5_firstError_1 rfl rfl dX5_firstError_12 ?_
  refine zv_get (v := .int (iI ((r2_2 : Nat) : Int))) S hAM hH nX5_firstError_X3 0 rfl rfl 3 (by decide) mX5_firstError_3 rfl rfl dX5_firstError_15 ?_
  refine zv_if_ne (tgt := 27) S dX5_firstError_18 (by decide) (by omega) (fun c_18 => ?_) (fun c_18 => ?_)
  · skip
    refine lv_aload_n S.1 S.2.1 dX5_firstError_27 rfl (lv_at hl 0 rfl) ?_
    refine zv_get (v := .ref (qt)) S hAM hH nX5_firstError_X5 13 rfl rfl 0 (by decide) mX5_firstError_1 rfl rfl dX5_firstError_28 ?_
    refine zv_get (v := .int (iI (s2_1))) S hAM hH nX5_firstError_X3 0 rfl rfl 2 (by decide) mX5_firstError_4 rfl rfl dX5_firstError_31 ?_
    have hH : Hold X A [pnW h qt q1 q qs qc qh, toW qt Qt ((lnn : Nat) : Int) s2_1 ((r2_2 : Nat) : Int) ((p2_3 : Nat) : Int) ((w2_4 : Nat) : Int), cW X (Qt 0) 400 tx, aW X (Qt 1) 4 nm2_5, poW q1 Q1 ((ns ((rdA tx lnn).2.2) : Nat) : Int) ((nr ((rdA tx lnn).2.2) : Nat) : Int) ((na ((rdA tx lnn).2.2) : Nat) : Int), aW X (Q1 0) 10 sl2_6, aW X (Q1 1) 8 vo2_7, aW X (Q1 2) 8 ou2_8, aW X (Q1 3) 8 inn2_9, aW X (Q1 4) 8 ac2_10, aW X (Q1 5) 20 ag2_11, aW X (Q1 6) 20 ai2_12, aW X (Q1 7) 20 et2_13, aW X (Q1 8) 20 xt2_14].flatten _ := hH.pick [13, 0, 1, 2, 3, 4, 5, 6, 7, 8, 9, 10, 11, 12] rfl 14 rfl (by decide)
    exact hret 34 ls _ _ (s2_1) (s2_1, r2_2, p2_3, w2_4, nm2_5, sl2_6, vo2_7, ou2_8, inn2_9, ac2_10, ag2_11, ai2_12, et2_13, xt2_14) dX5_firstError_34 rfl ⟨(by show _ = (rdA tx lnn).1; omega), hw2_8⟩ hH hS
  · skip
    refine lv_sipush (v := iI (-1004)) S.1 S.2.1 dX5_firstError_21 (by decide) ?_
    refine lv_goto (tgt := 34) S.1 S.2.1 dX5_firstError_24 (by decide) ?_
    have hH : Hold X A [pnW h qt q1 q qs qc qh, toW qt Qt ((lnn : Nat) : Int) s2_1 ((r2_2 : Nat) : Int) ((p2_3 : Nat) : Int) ((w2_4 : Nat) : Int), cW X (Qt 0) 400 tx, aW X (Qt 1) 4 nm2_5, poW q1 Q1 ((ns ((rdA tx lnn).2.2) : Nat) : Int) ((nr ((rdA tx lnn).2.2) : Nat) : Int) ((na ((rdA tx lnn).2.2) : Nat) : Int), aW X (Q1 0) 10 sl2_6, aW X (Q1 1) 8 vo2_7, aW X (Q1 2) 8 ou2_8, aW X (Q1 3) 8 inn2_9, aW X (Q1 4) 8 ac2_10, aW X (Q1 5) 20 ag2_11, aW X (Q1 6) 20 ai2_12, aW X (Q1 7) 20 et2_13, aW X (Q1 8) 20 xt2_14].flatten _ := hH.pick [13, 0, 1, 2, 3, 4, 5, 6, 7, 8, 9, 10, 11, 12] rfl 14 rfl (by decide)
    exact hret 34 ls _ _ (-1004) (s2_1, r2_2, p2_3, w2_4, nm2_5, sl2_6, vo2_7, ou2_8, inn2_9, ac2_10, ag2_11, ai2_12, et2_13, xt2_14) dX5_firstError_34 rfl ⟨(by show _ = (rdA tx lnn).1; omega), hw2_8⟩ hH hS

theorem mX5_errorReason_1 : Cond.fieldLink RX5 12 "RoleDoublingPlanner" "text" "LRoleDoublingPlanner$PlayText;" ∈ wsX5_errorReason := List.mem_of_getElem? (i := 1) rfl
theorem nX5_errorReason_X5 : ∀ w ∈ wsX50, w ∈ wsX5_errorReason := fun _ h => List.mem_cons_of_mem _ (List.mem_append_left _ (List.mem_append_left _ (List.mem_append_right _ h)))
theorem mX5_errorReason_2 : Cond.fieldLink RX5 19 "RoleDoublingPlanner" "stated" "LRoleDoublingPlanner$Play;" ∈ wsX5_errorReason := List.mem_of_getElem? (i := 2) rfl
theorem mX5_errorReason_3 : Cond.fieldLink RX5 77 "RoleDoublingPlanner$PlayText" "reason" "I" ∈ wsX5_errorReason := List.mem_of_getElem? (i := 3) rfl
theorem nX5_errorReason_X3 : ∀ w ∈ wsX30, w ∈ wsX5_errorReason := fun _ h => List.mem_cons_of_mem _ (List.mem_append_left _ (List.mem_append_right _ h))
set_option maxHeartbeats 4000000 in
set_option maxRecDepth 100000 in
theorem kX5_errorReason (l : Launch) (X : XT) (h : Nat) (qt : Nat) (q1 : Nat) (q : Nat) (qs : Nat) (qc : Nat) (qh : Nat) (Qt : Nat → Nat) (lnn : Nat) (ss : Int) (rs : Int) (p : Int) (w : Nat) (tx : Nat → Int) (nm : Nat → Int) (Q1 : Nat → Nat) (c1 : Int) (r1 : Int) (a1 : Int) (usl : Nat → Int) (uvo : Nat → Int) (uou : Nat → Int) (uinn : Nat → Int) (uac : Nat → Int) (uag : Nat → Int) (uai : Nat → Int) (uet : Nat → Int) (uxt : Nat → Int) (ht : okT tx lnn) (hw : w ≤ 400) : Ci l yX5_errorReason wsX5_errorReason (rmD 10) X [.ref h] [pnW h qt q1 q qs qc qh, toW qt Qt ((lnn : Nat) : Int) ss rs p ((w : Nat) : Int), cW X (Qt 0) 400 tx, aW X (Qt 1) 4 nm, poW q1 Q1 c1 r1 a1, aW X (Q1 0) 10 usl, aW X (Q1 1) 8 uvo, aW X (Q1 2) 8 uou, aW X (Q1 3) 8 uinn, aW X (Q1 4) 8 uac, aW X (Q1 5) 20 uag, aW X (Q1 6) 20 uai, aW X (Q1 7) 20 uet, aW X (Q1 8) 20 uxt] (fun (z : Int) (u : (Int) × (Nat) × (Nat) × (Nat) × (Nat → Int) × (Nat → Int) × (Nat → Int) × (Nat → Int) × (Nat → Int) × (Nat → Int) × (Nat → Int) × (Nat → Int) × (Nat → Int) × (Nat → Int)) => match u with | (s2, r2, p2, w2, nm2, usl2, uvo2, uou2, uinn2, uac2, uag2, uai2, uet2, uxt2) => z = opErr tx lnn ∧ w2 ≤ 400) (fun (u : (Int) × (Nat) × (Nat) × (Nat) × (Nat → Int) × (Nat → Int) × (Nat → Int) × (Nat → Int) × (Nat → Int) × (Nat → Int) × (Nat → Int) × (Nat → Int) × (Nat → Int) × (Nat → Int)) => match u with | (s2, r2, p2, w2, nm2, usl2, uvo2, uou2, uinn2, uac2, uag2, uai2, uet2, uxt2) => [pnW h qt q1 q qs qc qh, toW qt Qt ((lnn : Nat) : Int) s2 ((r2 : Nat) : Int) ((p2 : Nat) : Int) ((w2 : Nat) : Int), cW X (Qt 0) 400 tx, aW X (Qt 1) 4 nm2, poW q1 Q1 ((ns ((rdA tx lnn).2.2) : Nat) : Int) ((nr ((rdA tx lnn).2.2) : Nat) : Int) ((na ((rdA tx lnn).2.2) : Nat) : Int), aW X (Q1 0) 10 usl2, aW X (Q1 1) 8 uvo2, aW X (Q1 2) 8 uou2, aW X (Q1 3) 8 uinn2, aW X (Q1 4) 8 uac2, aW X (Q1 5) 20 uag2, aW X (Q1 6) 20 uai2, aW X (Q1 7) 20 uet2, aW X (Q1 8) 20 uxt2]) := by
  refine Ci.ofW (cc := cX5_errorReason) (maxL := 1) (by decide) rfl (Nat.le_of_ble_eq_true rfl) ?_
  intro p_ e_ s_ m_ below meth c_ A Q_ S hA hAM hH hS hret ls hl
  have hl : lv_has ls 1 [(0, .ref (h))] := hl
  refine lv_aload_n S.1 S.2.1 dX5_errorReason_0 rfl (lv_at hl 0 rfl) ?_
  refine zv_get (v := .ref (qt)) S hAM hH nX5_errorReason_X5 0 rfl rfl 0 (by decide) mX5_errorReason_1 rfl rfl dX5_errorReason_1 ?_
  refine lv_aload_n S.1 S.2.1 dX5_errorReason_4 rfl (lv_at hl 0 rfl) ?_
  refine zv_get (v := .ref (q1)) S hAM hH nX5_errorReason_X5 0 rfl rfl 1 (by decide) mX5_errorReason_2 rfl rfl dX5_errorReason_5 ?_
  refine zc_Vv (n := 1) (As := [.ref (q1)]) (rest := []) S hAM hA (kX3_readInto l X qt Qt lnn ss rs p w tx nm q1 Q1 c1 r1 a1 usl uvo uou uinn uac uag uai uet uxt ht (by omega)) rfl gX5_errorReason_X3_readInto  (by decide +kernel) ⟨Nat.le_of_ble_eq_true rfl, Nat.le_of_ble_eq_true rfl⟩ hH hS [1, 2, 3, 4, 5, 6, 7, 8, 9, 10, 11, 12, 13, 0] rfl 14 rfl (by decide) 3 0 rfl rfl rfl hl.1 rfl (Nat.le_of_ble_eq_true rfl) dX5_errorReason_8 ⟨Nat.le_of_ble_eq_true rfl, Nat.le_of_ble_eq_true rfl⟩ (fun u15 H locs hp17 hH hS => ?_)
  obtain ⟨s2_1, r2_2, p2_3, w2_4, nm2_5, sl2_6, vo2_7, ou2_8, inn2_9, ac2_10, ag2_11, ai2_12, et2_13, xt2_14⟩ := u15
  have hH : Hold X A [toW qt Qt ((lnn : Nat) : Int) s2_1 ((r2_2 : Nat) : Int) ((p2_3 : Nat) : Int) ((w2_4 : Nat) : Int), cW X (Qt 0) 400 tx, aW X (Qt 1) 4 nm2_5, poW q1 Q1 ((ns ((rdA tx lnn).2.2) : Nat) : Int) ((nr ((rdA tx lnn).2.2) : Nat) : Int) ((na ((rdA tx lnn).2.2) : Nat) : Int), aW X (Q1 0) 10 sl2_6, aW X (Q1 1) 8 vo2_7, aW X (Q1 2) 8 ou2_8, aW X (Q1 3) 8 inn2_9, aW X (Q1 4) 8 ac2_10, aW X (Q1 5) 20 ag2_11, aW X (Q1 6) 20 ai2_12, aW X (Q1 7) 20 et2_13, aW X (Q1 8) 20 xt2_14, pnW h qt q1 q qs qc qh].flatten H := hH
  obtain ⟨hPA_8, hrd_8, hr4_8, hw2_8, hact_8, hs4_8⟩ := hp17
  refine lv_aload_n S.1 S.2.1 dX5_errorReason_11 rfl (lv_at hl 0 rfl) ?_
  refine zv_get (v := .ref (qt)) S hAM hH nX5_errorReason_X5 13 rfl rfl 0 (by decide) mX5_errorReason_1 rfl rfl dX5_errorReason_12 ?_
  refine zv_get (v := .int (iI ((r2_2 : Nat) : Int))) S hAM hH nX5_errorReason_X3 0 rfl rfl 3 (by decide) mX5_errorReason_3 rfl rfl dX5_errorReason_15 ?_
  refine zv_if_ne (tgt := 27) S dX5_errorReason_18 (by decide) (by omega) (fun c_18 => ?_) (fun c_18 => ?_)
  · skip
    refine lv_aload_n S.1 S.2.1 dX5_errorReason_27 rfl (lv_at hl 0 rfl) ?_
    refine zv_get (v := .ref (qt)) S hAM hH nX5_errorReason_X5 13 rfl rfl 0 (by decide) mX5_errorReason_1 rfl rfl dX5_errorReason_28 ?_
    refine zv_get (v := .int (iI ((r2_2 : Nat) : Int))) S hAM hH nX5_errorReason_X3 0 rfl rfl 3 (by decide) mX5_errorReason_3 rfl rfl dX5_errorReason_31 ?_
    have hH : Hold X A [pnW h qt q1 q qs qc qh, toW qt Qt ((lnn : Nat) : Int) s2_1 ((r2_2 : Nat) : Int) ((p2_3 : Nat) : Int) ((w2_4 : Nat) : Int), cW X (Qt 0) 400 tx, aW X (Qt 1) 4 nm2_5, poW q1 Q1 ((ns ((rdA tx lnn).2.2) : Nat) : Int) ((nr ((rdA tx lnn).2.2) : Nat) : Int) ((na ((rdA tx lnn).2.2) : Nat) : Int), aW X (Q1 0) 10 sl2_6, aW X (Q1 1) 8 vo2_7, aW X (Q1 2) 8 ou2_8, aW X (Q1 3) 8 inn2_9, aW X (Q1 4) 8 ac2_10, aW X (Q1 5) 20 ag2_11, aW X (Q1 6) 20 ai2_12, aW X (Q1 7) 20 et2_13, aW X (Q1 8) 20 xt2_14].flatten _ := hH.pick [13, 0, 1, 2, 3, 4, 5, 6, 7, 8, 9, 10, 11, 12] rfl 14 rfl (by decide)
    exact hret 34 ls _ _ (((r2_2 : Nat) : Int)) (s2_1, r2_2, p2_3, w2_4, nm2_5, sl2_6, vo2_7, ou2_8, inn2_9, ac2_10, ag2_11, ai2_12, et2_13, xt2_14) dX5_errorReason_34 rfl ⟨(by show _ = opErr tx lnn; unfold opErr; (try rw [if_pos (by omega)]); (try (rw [if_neg (by omega)]; omega))), hw2_8⟩ hH hS
  · skip
    refine lv_sipush (v := iI (-1004)) S.1 S.2.1 dX5_errorReason_21 (by decide) ?_
    refine lv_goto (tgt := 34) S.1 S.2.1 dX5_errorReason_24 (by decide) ?_
    have hH : Hold X A [pnW h qt q1 q qs qc qh, toW qt Qt ((lnn : Nat) : Int) s2_1 ((r2_2 : Nat) : Int) ((p2_3 : Nat) : Int) ((w2_4 : Nat) : Int), cW X (Qt 0) 400 tx, aW X (Qt 1) 4 nm2_5, poW q1 Q1 ((ns ((rdA tx lnn).2.2) : Nat) : Int) ((nr ((rdA tx lnn).2.2) : Nat) : Int) ((na ((rdA tx lnn).2.2) : Nat) : Int), aW X (Q1 0) 10 sl2_6, aW X (Q1 1) 8 vo2_7, aW X (Q1 2) 8 ou2_8, aW X (Q1 3) 8 inn2_9, aW X (Q1 4) 8 ac2_10, aW X (Q1 5) 20 ag2_11, aW X (Q1 6) 20 ai2_12, aW X (Q1 7) 20 et2_13, aW X (Q1 8) 20 xt2_14].flatten _ := hH.pick [13, 0, 1, 2, 3, 4, 5, 6, 7, 8, 9, 10, 11, 12] rfl 14 rfl (by decide)
    exact hret 34 ls _ _ (-1004) (s2_1, r2_2, p2_3, w2_4, nm2_5, sl2_6, vo2_7, ou2_8, inn2_9, ac2_10, ag2_11, ai2_12, et2_13, xt2_14) dX5_errorReason_34 rfl ⟨(by show _ = opErr tx lnn; unfold opErr; (try rw [if_pos (by omega)]); (try (rw [if_neg (by omega)]; omega))), hw2_8⟩ hH hS

theorem mX5_startStatedPlay_1 : Cond.fieldLink RX5 23 "RoleDoublingPlanner" "play" "LRoleDoublingPlanner$Play;" ∈ wsX5_startStatedPlay := List.mem_of_getElem? (i := 1) rfl
theorem nX5_startStatedPlay_X5 : ∀ w ∈ wsX50, w ∈ wsX5_startStatedPlay := fun _ h => List.mem_cons_of_mem _ (List.mem_append_left _ (List.mem_append_left _ (List.mem_append_left _ (List.mem_append_right _ h))))
theorem mX5_startStatedPlay_2 : Cond.fieldLink RX5 19 "RoleDoublingPlanner" "stated" "LRoleDoublingPlanner$Play;" ∈ wsX5_startStatedPlay := List.mem_of_getElem? (i := 2) rfl
theorem mX5_startStatedPlay_3 : Cond.fieldLink RX5 45 "RoleDoublingPlanner" "history" "LRoleDoublingPlanner$History;" ∈ wsX5_startStatedPlay := List.mem_of_getElem? (i := 3) rfl
theorem mX5_startStatedPlay_4 : Cond.fieldLink RX5 157 "RoleDoublingPlanner$History" "kept" "I" ∈ wsX5_startStatedPlay := List.mem_of_getElem? (i := 4) rfl
theorem nX5_startStatedPlay_X1 : ∀ w ∈ wsX10, w ∈ wsX5_startStatedPlay := fun _ h => List.mem_cons_of_mem _ (List.mem_append_left _ (List.mem_append_left _ (List.mem_append_right _ h)))
theorem mX5_startStatedPlay_5 : Cond.fieldLink RX5 31 "RoleDoublingPlanner" "slacks" "LRoleDoublingPlanner$Slacks;" ∈ wsX5_startStatedPlay := List.mem_of_getElem? (i := 5) rfl
set_option maxHeartbeats 4000000 in
set_option maxRecDepth 100000 in
theorem kX5_startStatedPlay (l : Launch) (X : XT) (h : Nat) (qt : Nat) (q1 : Nat) (q : Nat) (qs : Nat) (qc : Nat) (qh : Nat) (qT : Nat) (Qs : Nat → Nat) (T : Nat → Nat → Int) (Qp : Nat → Nat) (sc : Int) (ro : Int) (ap : Int) (sl : Nat → Int) (vo : Nat → Int) (ou : Nat → Int) (inn : Nat → Int) (ac : Nat → Int) (ag : Nat → Int) (ai : Nat → Int) (et : Nat → Int) (xt : Nat → Int) (Q1 : Nat → Nat) (v : Nat → Int) (usl : Nat → Int) (uvo : Nat → Int) (uou : Nat → Int) (uinn : Nat → Int) (uac : Nat → Int) (uag : Nat → Int) (uai : Nat → Int) (uet : Nat → Int) (uxt : Nat → Int) (qa : Nat) (kk : Int) (hv : okR v) (hP : PA v usl uvo uou uinn uac uag uai uet uxt) : Cv l yX5_startStatedPlay wsX5_startStatedPlay (rmD 4) X [.ref h] [pnW h qt q1 q qs qc qh, tbW X qT Qs T, slW qs q qT, poW q Qp sc ro ap, aW X (Qp 0) 10 sl, aW X (Qp 1) 8 vo, aW X (Qp 2) 8 ou, aW X (Qp 3) 8 inn, aW X (Qp 4) 8 ac, aW X (Qp 5) 20 ag, aW X (Qp 6) 20 ai, aW X (Qp 7) 20 et, aW X (Qp 8) 20 xt, poW q1 Q1 ((ns v : Nat) : Int) ((nr v : Nat) : Int) ((na v : Nat) : Int), aW X (Q1 0) 10 usl, aW X (Q1 1) 8 uvo, aW X (Q1 2) 8 uou, aW X (Q1 3) 8 uinn, aW X (Q1 4) 8 uac, aW X (Q1 5) 20 uag, aW X (Q1 6) 20 uai, aW X (Q1 7) 20 uet, aW X (Q1 8) 20 uxt, hiW qh qa kk] (fun (T2 : Nat → Nat → Int) => TbOK T2 v) (fun (T2 : Nat → Nat → Int) => [pnW h qt q1 q qs qc qh, tbW X qT Qs T2, slW qs q qT, poW q Qp ((ns v : Nat) : Int) ((nr v : Nat) : Int) ((na v : Nat) : Int), aW X (Qp 0) 10 usl, aW X (Qp 1) 8 uvo, aW X (Qp 2) 8 uou, aW X (Qp 3) 8 uinn, aW X (Qp 4) 8 uac, aW X (Qp 5) 20 uag, aW X (Qp 6) 20 uai, aW X (Qp 7) 20 uet, aW X (Qp 8) 20 uxt, poW q1 Q1 ((ns v : Nat) : Int) ((nr v : Nat) : Int) ((na v : Nat) : Int), aW X (Q1 0) 10 usl, aW X (Q1 1) 8 uvo, aW X (Q1 2) 8 uou, aW X (Q1 3) 8 uinn, aW X (Q1 4) 8 uac, aW X (Q1 5) 20 uag, aW X (Q1 6) 20 uai, aW X (Q1 7) 20 uet, aW X (Q1 8) 20 uxt, hiW qh qa ((0 : Nat) : Int)]) := by
  refine Cv.ofW (cc := cX5_startStatedPlay) (maxL := 1) (by decide) rfl (Nat.le_of_ble_eq_true rfl) ?_
  intro p_ e_ s_ m_ below meth c_ A Q_ S hA hAM hH hS hmn hret ls hl
  have hl : lv_has ls 1 [(0, .ref (h))] := hl
  refine lv_aload_n S.1 S.2.1 dX5_startStatedPlay_0 rfl (lv_at hl 0 rfl) ?_
  refine zv_get (v := .ref (q)) S hAM hH nX5_startStatedPlay_X5 0 rfl rfl 2 (by decide) mX5_startStatedPlay_1 rfl rfl dX5_startStatedPlay_1 ?_
  refine lv_aload_n S.1 S.2.1 dX5_startStatedPlay_4 rfl (lv_at hl 0 rfl) ?_
  refine zv_get (v := .ref (q1)) S hAM hH nX5_startStatedPlay_X5 0 rfl rfl 1 (by decide) mX5_startStatedPlay_2 rfl rfl dX5_startStatedPlay_5 ?_
  refine zc_Vv (n := 1) (As := [.ref (q1)]) (rest := []) S hAM hA (kX2_copyFrom l X q Qp sc ro ap sl vo ou inn ac ag ai et xt q1 Q1 ((ns v : Nat) : Int) ((nr v : Nat) : Int) ((na v : Nat) : Int) usl uvo uou uinn uac uag uai uet uxt ) rfl gX5_startStatedPlay_X2_copyFrom  (by decide +kernel) ⟨Nat.le_of_ble_eq_true rfl, Nat.le_of_ble_eq_true rfl⟩ hH hS [3, 4, 5, 6, 7, 8, 9, 10, 11, 12, 13, 14, 15, 16, 17, 18, 19, 20, 21, 22, 0, 1, 2, 23] rfl 24 rfl (by decide) 2 0 rfl rfl rfl hl.1 rfl (Nat.le_of_ble_eq_true rfl) dX5_startStatedPlay_8 ⟨Nat.le_of_ble_eq_true rfl, Nat.le_of_ble_eq_true rfl⟩ (fun _ H locs hp3 hH hS => ?_)
  have hH : Hold X A [poW q Qp ((ns v : Nat) : Int) ((nr v : Nat) : Int) ((na v : Nat) : Int), aW X (Qp 0) 10 usl, aW X (Qp 1) 8 uvo, aW X (Qp 2) 8 uou, aW X (Qp 3) 8 uinn, aW X (Qp 4) 8 uac, aW X (Qp 5) 20 uag, aW X (Qp 6) 20 uai, aW X (Qp 7) 20 uet, aW X (Qp 8) 20 uxt, poW q1 Q1 ((ns v : Nat) : Int) ((nr v : Nat) : Int) ((na v : Nat) : Int), aW X (Q1 0) 10 usl, aW X (Q1 1) 8 uvo, aW X (Q1 2) 8 uou, aW X (Q1 3) 8 uinn, aW X (Q1 4) 8 uac, aW X (Q1 5) 20 uag, aW X (Q1 6) 20 uai, aW X (Q1 7) 20 uet, aW X (Q1 8) 20 uxt, pnW h qt q1 q qs qc qh, tbW X qT Qs T, slW qs q qT, hiW qh qa kk].flatten H := hH
  refine lv_aload_n S.1 S.2.1 dX5_startStatedPlay_11 rfl (lv_at hl 0 rfl) ?_
  refine zv_get (v := .ref (qh)) S hAM hH nX5_startStatedPlay_X5 20 rfl rfl 5 (by decide) mX5_startStatedPlay_3 rfl rfl dX5_startStatedPlay_12 ?_
  refine lv_iconst (v := iI (((0 : Nat) : Int))) S.1 S.2.1 dX5_startStatedPlay_15 (by decide) ?_
  refine zv_put (v := .int (iI ((0 : Nat) : Int))) (w2 := [poW q Qp ((ns v : Nat) : Int) ((nr v : Nat) : Int) ((na v : Nat) : Int), aW X (Qp 0) 10 usl, aW X (Qp 1) 8 uvo, aW X (Qp 2) 8 uou, aW X (Qp 3) 8 uinn, aW X (Qp 4) 8 uac, aW X (Qp 5) 20 uag, aW X (Qp 6) 20 uai, aW X (Qp 7) 20 uet, aW X (Qp 8) 20 uxt, poW q1 Q1 ((ns v : Nat) : Int) ((nr v : Nat) : Int) ((na v : Nat) : Int), aW X (Q1 0) 10 usl, aW X (Q1 1) 8 uvo, aW X (Q1 2) 8 uou, aW X (Q1 3) 8 uinn, aW X (Q1 4) 8 uac, aW X (Q1 5) 20 uag, aW X (Q1 6) 20 uai, aW X (Q1 7) 20 uet, aW X (Q1 8) 20 uxt, pnW h qt q1 q qs qc qh, tbW X qT Qs T, slW qs q qT, hiW qh qa ((0 : Nat) : Int)].flatten) S hAM hH hS nX5_startStatedPlay_X1 tyX1 tyX1_ok nmX1 31 rfl rfl 0 (by decide) mX5_startStatedPlay_4 rfl rfl rfl rfl (Nat.le_of_ble_eq_true rfl) rfl dX5_startStatedPlay_16 (fun H locs hH hS => ?_)
  refine lv_aload_n S.1 S.2.1 dX5_startStatedPlay_19 rfl (lv_at hl 0 rfl) ?_
  refine zv_get (v := .ref (qs)) S hAM hH nX5_startStatedPlay_X5 20 rfl rfl 3 (by decide) mX5_startStatedPlay_5 rfl rfl dX5_startStatedPlay_20 ?_
  refine zc_Vv (n := 0) (As := []) (rest := []) S hAM hA (kX4_measure l X qs qT Qs T q Qp v usl uvo uou uinn uac uag uai uet uxt hv hP) rfl gX5_startStatedPlay_X4_measure  (by decide +kernel) ⟨Nat.le_of_ble_eq_true rfl, Nat.le_of_ble_eq_true rfl⟩ hH hS [21, 22, 0, 1, 2, 3, 4, 5, 6, 7, 8, 9, 10, 11, 12, 13, 14, 15, 16, 17, 18, 19, 20, 23] rfl 24 rfl (by decide) 4 9 rfl rfl rfl hl.1 rfl (Nat.le_of_ble_eq_true rfl) dX5_startStatedPlay_23 ⟨Nat.le_of_ble_eq_true rfl, Nat.le_of_ble_eq_true rfl⟩ (fun T2_4 H locs hp6 hH hS => ?_)
  have hH : Hold X A [tbW X qT Qs T2_4, slW qs q qT, poW q Qp ((ns v : Nat) : Int) ((nr v : Nat) : Int) ((na v : Nat) : Int), aW X (Qp 0) 10 usl, aW X (Qp 1) 8 uvo, aW X (Qp 2) 8 uou, aW X (Qp 3) 8 uinn, aW X (Qp 4) 8 uac, aW X (Qp 5) 20 uag, aW X (Qp 6) 20 uai, aW X (Qp 7) 20 uet, aW X (Qp 8) 20 uxt, poW q1 Q1 ((ns v : Nat) : Int) ((nr v : Nat) : Int) ((na v : Nat) : Int), aW X (Q1 0) 10 usl, aW X (Q1 1) 8 uvo, aW X (Q1 2) 8 uou, aW X (Q1 3) 8 uinn, aW X (Q1 4) 8 uac, aW X (Q1 5) 20 uag, aW X (Q1 6) 20 uai, aW X (Q1 7) 20 uet, aW X (Q1 8) 20 uxt, pnW h qt q1 q qs qc qh, hiW qh qa ((0 : Nat) : Int)].flatten H := hH
  have hTb_23 := hp6
  have hH : Hold X A [pnW h qt q1 q qs qc qh, tbW X qT Qs T2_4, slW qs q qT, poW q Qp ((ns v : Nat) : Int) ((nr v : Nat) : Int) ((na v : Nat) : Int), aW X (Qp 0) 10 usl, aW X (Qp 1) 8 uvo, aW X (Qp 2) 8 uou, aW X (Qp 3) 8 uinn, aW X (Qp 4) 8 uac, aW X (Qp 5) 20 uag, aW X (Qp 6) 20 uai, aW X (Qp 7) 20 uet, aW X (Qp 8) 20 uxt, poW q1 Q1 ((ns v : Nat) : Int) ((nr v : Nat) : Int) ((na v : Nat) : Int), aW X (Q1 0) 10 usl, aW X (Q1 1) 8 uvo, aW X (Q1 2) 8 uou, aW X (Q1 3) 8 uinn, aW X (Q1 4) 8 uac, aW X (Q1 5) 20 uag, aW X (Q1 6) 20 uai, aW X (Q1 7) 20 uet, aW X (Q1 8) 20 uxt, hiW qh qa ((0 : Nat) : Int)].flatten _ := hH.pick [22, 0, 1, 2, 3, 4, 5, 6, 7, 8, 9, 10, 11, 12, 13, 14, 15, 16, 17, 18, 19, 20, 21, 23] rfl 24 rfl (by decide)
  exact hret 26 ls _ _ T2_4 dX5_startStatedPlay_26 hTb_23 hH hS
