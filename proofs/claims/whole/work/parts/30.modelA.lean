theorem mX6_readAll_1 : Cond.fieldLink RX6 13 "RoleDoublingPlannerModel" "read" "[I" ∈ wsX6_readAll := List.mem_of_getElem? (i := 1) rfl
theorem nX6_readAll_X6 : ∀ w ∈ wsX60, w ∈ wsX6_readAll := fun _ h => List.mem_cons_of_mem _ (List.mem_append_right _ h)
theorem mX6_readAll_2 : Cond.fieldLink RX6 52 "RoleDoublingPlannerModel" "spot" "I" ∈ wsX6_readAll := List.mem_of_getElem? (i := 2) rfl
theorem mX6_readAll_3 : Cond.fieldLink RX6 59 "RoleDoublingPlannerModel" "reason" "I" ∈ wsX6_readAll := List.mem_of_getElem? (i := 3) rfl
theorem mX6_readAll_4 : Cond.fieldLink RX6 48 "RoleDoublingPlannerModel" "length" "I" ∈ wsX6_readAll := List.mem_of_getElem? (i := 4) rfl
set_option maxHeartbeats 4000000 in
set_option maxRecDepth 100000 in
theorem kX6_readAll (l : Launch) (X : XT) (h : Nat) (Q : Nat → Nat) (s : Nat → Int) (rd : Nat → Int) (kp : Nat → Int) (km : Int) (tx : Nat → Int) (lnn : Nat) (sp : Int) (rs : Int) (wi : Nat → Int) (gi : Nat → Int) (ht : okT tx lnn) : Ci l yX6_readAll wsX6_readAll (rmD 5) X [.ref h] [mO h Q km ((lnn : Nat) : Int) sp rs, aW X (Q 0) 125 s, aW X (Q 1) 125 rd, aW X (Q 2) 625 kp, aW X (Q 3) 400 tx, aW X (Q 4) 8 wi, aW X (Q 5) 8 gi] (fun (z : Int) (u : (Nat) × (Nat)) => match u with | (sj, rj) => z = (rdA tx lnn).1 ∧ ((rdA tx lnn).1 ≠ -1004 → rj = (rdA tx lnn).2.1) ∧ rj ≤ 4 ∧ (rdA tx lnn).1 ≤ 400 ∧ -1004 ≤ (rdA tx lnn).1) (fun (u : (Nat) × (Nat)) => match u with | (sj, rj) => [mO h Q km ((lnn : Nat) : Int) ((sj : Nat) : Int) ((rj : Nat) : Int), aW X (Q 0) 125 s, aW X (Q 1) 125 ((rdA tx lnn).2.2), aW X (Q 2) 625 kp, aW X (Q 3) 400 tx, aW X (Q 4) 8 wi, aW X (Q 5) 8 gi]) := by
  refine Ci.ofW (cc := cX6_readAll) (maxL := 2) (by decide) rfl (Nat.le_of_ble_eq_true rfl) ?_
  intro p_ e_ s_ m_ below meth c_ A Q_ S hA hAM hH hS hret ls hl
  have hl : lv_has ls 2 [(0, .ref (h))] := hl
  have hL := ht.1
  refine lv_aload_n S.1 S.2.1 dX6_readAll_0 rfl (lv_at hl 0 rfl) ?_
  refine zv_get (v := .ref (Q 1)) S hAM hH nX6_readAll_X6 0 rfl rfl 1 (by decide) mX6_readAll_1 rfl rfl dX6_readAll_1 ?_
  refine zc_Sv (n := 1) (As := [.ref (Q 1)]) (rest := []) S hAM hA (kX6_empty l X (Q 1) rd ) rfl gX6_readAll_X6_empty  (by decide +kernel) ⟨Nat.le_of_ble_eq_true rfl, Nat.le_of_ble_eq_true rfl⟩ hH hS [2, 0, 1, 3, 4, 5, 6] rfl 7 rfl (by decide)  rfl hl.1 rfl (Nat.le_of_ble_eq_true rfl) dX6_readAll_4 ⟨Nat.le_of_ble_eq_true rfl, Nat.le_of_ble_eq_true rfl⟩ (fun _ H locs hp3 hH hS => ?_)
  have hH : Hold X A [aW X (Q 1) 125 eR, mO h Q km ((lnn : Nat) : Int) sp rs, aW X (Q 0) 125 s, aW X (Q 2) 625 kp, aW X (Q 3) 400 tx, aW X (Q 4) 8 wi, aW X (Q 5) 8 gi].flatten H := hH
  refine lv_aload_n S.1 S.2.1 dX6_readAll_7 rfl (lv_at hl 0 rfl) ?_
  refine lv_iconst (v := iI (((0 : Nat) : Int))) S.1 S.2.1 dX6_readAll_8 (by decide) ?_
  refine zv_put (v := .int (iI ((0 : Nat) : Int))) (w2 := [aW X (Q 1) 125 eR, mO h Q km ((lnn : Nat) : Int) ((0 : Nat) : Int) rs, aW X (Q 0) 125 s, aW X (Q 2) 625 kp, aW X (Q 3) 400 tx, aW X (Q 4) 8 wi, aW X (Q 5) 8 gi].flatten) S hAM hH hS nX6_readAll_X6 tyX6 tyX6_ok nmX6 1 rfl rfl 6 (by decide) mX6_readAll_2 rfl rfl rfl rfl (Nat.le_of_ble_eq_true rfl) rfl dX6_readAll_9 (fun H locs hH hS => ?_)
  refine lv_aload_n S.1 S.2.1 dX6_readAll_12 rfl (lv_at hl 0 rfl) ?_
  refine lv_iconst (v := iI (((0 : Nat) : Int))) S.1 S.2.1 dX6_readAll_13 (by decide) ?_
  refine zv_put (v := .int (iI ((0 : Nat) : Int))) (w2 := [aW X (Q 1) 125 eR, mO h Q km ((lnn : Nat) : Int) ((0 : Nat) : Int) ((0 : Nat) : Int), aW X (Q 0) 125 s, aW X (Q 2) 625 kp, aW X (Q 3) 400 tx, aW X (Q 4) 8 wi, aW X (Q 5) 8 gi].flatten) S hAM hH hS nX6_readAll_X6 tyX6 tyX6_ok nmX6 1 rfl rfl 7 (by decide) mX6_readAll_3 rfl rfl rfl rfl (Nat.le_of_ble_eq_true rfl) rfl dX6_readAll_14 (fun H locs hH hS => ?_)
  have hH : Hold X A [mO h Q km ((lnn : Nat) : Int) ((0 : Nat) : Int) ((0 : Nat) : Int), aW X (Q 0) 125 s, aW X (Q 1) 125 eR, aW X (Q 2) 625 kp, aW X (Q 3) 400 tx, aW X (Q 4) 8 wi, aW X (Q 5) 8 gi].flatten _ := hH.pick [1, 2, 0, 3, 4, 5, 6] rfl 7 rfl (by decide)
  have lp17 : ∀ (fu_ : Nat) (p : Nat) (rv : Nat → Int) (f : Nat), lnn - p < fu_ → (okR rv) → (p ≤ lnn) → (lnn - p < f) → (rdS tx lnn p rv f = rdA tx lnn) → ∀ (H : Heap) (locs : List Loc), Hold X A [mO h Q km ((lnn : Nat) : Int) ((p : Nat) : Int) ((0 : Nat) : Int), aW X (Q 0) 125 s, aW X (Q 1) 125 rv, aW X (Q 2) 625 kp, aW X (Q 3) 400 tx, aW X (Q 4) 8 wi, aW X (Q 5) 8 gi].flatten H → va_S A s_.heap H locs → ∀ ls : Array Slot, lv_has ls 2 [(0, .ref (h))] → W p_ l e_ (rmD 5) s_ m_ (List.toArray [.ref (h)]) below meth c_ H locs 0 0 Q_ (F0 m_ 17 ls []) := by
    intro fu_
    induction fu_ with
    | zero => intro p rv f hmu hrv hp hf hset H locs hH hS ls hl; exact absurd hmu (Nat.not_lt_zero _)
    | succ fu_ ih17 => 
      intro p rv f hmu hrv hp hf hset H locs hH hS ls hl
      refine lv_aload_n S.1 S.2.1 dX6_readAll_17 rfl (lv_at hl 0 rfl) ?_
      refine zv_get (v := .int (iI ((p : Nat) : Int))) S hAM hH nX6_readAll_X6 0 rfl rfl 6 (by decide) mX6_readAll_2 rfl rfl dX6_readAll_18 ?_
      refine lv_aload_n S.1 S.2.1 dX6_readAll_21 rfl (lv_at hl 0 rfl) ?_
      refine zv_get (v := .int (iI ((lnn : Nat) : Int))) S hAM hH nX6_readAll_X6 0 rfl rfl 5 (by decide) mX6_readAll_4 rfl rfl dX6_readAll_22 ?_
      refine zv_icmp_ge (tgt := 49) S dX6_readAll_25 (by decide) (by omega) (by omega) (fun c_25 => ?_) (fun c_25 => ?_)
      · skip
        refine lv_sipush (v := iI (-1004)) S.1 S.2.1 dX6_readAll_49 (by decide) ?_
        have eR9 : rdA tx lnn = (-1004, 0, rv) := by rw [← hset]; exact rdS_end (by omega)
        rw [eR9] at hret
        exact hret 52 ls _ _ (-1004) (p, 0) dX6_readAll_52 rfl ⟨rfl, (fun z => absurd rfl z), (by omega), (by show (-1004 : Int) ≤ 400; decide), (by show (-1004 : Int) ≤ -1004; decide)⟩ hH hS
      · skip
        refine lv_aload_n S.1 S.2.1 dX6_readAll_28 rfl (lv_at hl 0 rfl) ?_
        refine zv_get (v := .int (iI ((p : Nat) : Int))) S hAM hH nX6_readAll_X6 0 rfl rfl 6 (by decide) mX6_readAll_2 rfl rfl dX6_readAll_29 ?_
        refine lv_istore_n (lv' := [(1, .int (iI ((p : Nat) : Int))), (0, .ref (h))]) S.1 S.2.1 dX6_readAll_32 rfl hl (by decide) rfl (fun ls hl => ?_)
        refine lv_aload_n S.1 S.2.1 dX6_readAll_33 rfl (lv_at hl 1 rfl) ?_
        refine zc_Vv (n := 0) (As := []) (rest := []) S hAM hA (kX6_statement l X h Q s rv kp km tx lnn p wi gi ht hrv (by omega)) rfl gX6_readAll_X6_statement  (by decide +kernel) ⟨Nat.le_of_ble_eq_true rfl, Nat.le_of_ble_eq_true rfl⟩ hH hS [0, 1, 2, 3, 4, 5, 6] rfl 7 rfl (List.Perm.refl _) 6 0 rfl rfl rfl hl.1 rfl (Nat.le_of_ble_eq_true rfl) dX6_readAll_34 ⟨Nat.le_of_ble_eq_true rfl, Nat.le_of_ble_eq_true rfl⟩ (fun u6 H locs hp8 hH hS => ?_)
        obtain ⟨sj_4, rj_5⟩ := u6
        have hH : Hold X A [mO h Q km ((lnn : Nat) : Int) ((sj_4 : Nat) : Int) ((rj_5 : Nat) : Int), aW X (Q 0) 125 s, aW X (Q 1) 125 ((stm tx lnn p rv).2.2), aW X (Q 2) 625 kp, aW X (Q 3) 400 tx, aW X (Q 4) 8 wi, aW X (Q 5) 8 gi].flatten H := hH
        obtain ⟨hs1_34, hs2_34, hs3_34⟩ := hp8
        have hgd := stm_good (t := tx) (L := lnn) (p := p) (v := rv) hrv
        have hgd4 := hgd.2.2
        refine lv_aload_n S.1 S.2.1 dX6_readAll_37 rfl (lv_at hl 1 rfl) ?_
        refine zv_get (v := .int (iI ((rj_5 : Nat) : Int))) S hAM hH nX6_readAll_X6 0 rfl rfl 7 (by decide) mX6_readAll_3 rfl rfl dX6_readAll_38 ?_
        refine zv_if_eq (tgt := 46) S dX6_readAll_41 (by decide) (by omega) (fun c_41 => ?_) (fun c_41 => ?_)
        · skip
          refine lv_goto (tgt := 17) S.1 S.2.1 dX6_readAll_46 (by decide) ?_
          obtain rfl : rj_5 = 0 := by omega
          exact ih17  (sj_4) (((stm tx lnn p rv).2.2)) (f - 1) (by have h7 := (hgd.1 (by omega)); have h8 := hs2_34 (by omega); omega) (hgd.1 (by omega)).2.2 (by have h7 := (hgd.1 (by omega)); have h8 := hs2_34 (by omega); omega) (by have h7 := (hgd.1 (by omega)); have h8 := hs2_34 (by omega); omega) (by rw [hs2_34 (by omega), ← hset]; exact (rdS_go (by omega) (by omega) (by omega)).symm) _ _ hH hS ls (lv_sub hl [1] rfl)
        · skip
          refine lv_iload_n S.1 S.2.1 dX6_readAll_44 rfl (lv_at hl 0 rfl) ?_
          have eR9 : rdA tx lnn = (((p : Nat) : Int), (stm tx lnn p rv).1, (stm tx lnn p rv).2.2) := by rw [← hset]; exact rdS_bad (by omega) (by omega) (by omega)
          rw [eR9] at hret
          exact hret 45 ls _ _ (((p : Nat) : Int)) (sj_4, rj_5) dX6_readAll_45 rfl ⟨rfl, (fun _ => hs1_34), (by omega), (by show ((p : Nat) : Int) ≤ 400; omega), (by show -1004 ≤ ((p : Nat) : Int); omega)⟩ hH hS
  exact lp17 (lnn - (0) + 1) (0) (eR) (lnn + 1) (Nat.lt_succ_self _) okR_eR (by omega) (by omega) rfl _ _ hH hS ls (lv_sub hl [0] rfl)

set_option maxHeartbeats 4000000 in
set_option maxRecDepth 100000 in
theorem kX6_firstError (l : Launch) (X : XT) (h : Nat) (Q : Nat → Nat) (s : Nat → Int) (rd : Nat → Int) (kp : Nat → Int) (km : Int) (tx : Nat → Int) (lnn : Nat) (sp : Int) (rs : Int) (wi : Nat → Int) (gi : Nat → Int) (ht : okT tx lnn) : Ci l yX6_firstError wsX6_firstError (rmD 6) X [.ref h] [mO h Q km ((lnn : Nat) : Int) sp rs, aW X (Q 0) 125 s, aW X (Q 1) 125 rd, aW X (Q 2) 625 kp, aW X (Q 3) 400 tx, aW X (Q 4) 8 wi, aW X (Q 5) 8 gi] (fun (z : Int) (u : (Nat) × (Nat)) => match u with | (sj, rj) => z = (rdA tx lnn).1) (fun (u : (Nat) × (Nat)) => match u with | (sj, rj) => [mO h Q km ((lnn : Nat) : Int) ((sj : Nat) : Int) ((rj : Nat) : Int), aW X (Q 0) 125 s, aW X (Q 1) 125 ((rdA tx lnn).2.2), aW X (Q 2) 625 kp, aW X (Q 3) 400 tx, aW X (Q 4) 8 wi, aW X (Q 5) 8 gi]) := by
  refine Ci.ofW (cc := cX6_firstError) (maxL := 1) (by decide) rfl (Nat.le_of_ble_eq_true rfl) ?_
  intro p_ e_ s_ m_ below meth c_ A Q_ S hA hAM hH hS hret ls hl
  have hl : lv_has ls 1 [(0, .ref (h))] := hl
  have hL := ht.1
  refine lv_aload_n S.1 S.2.1 dX6_firstError_0 rfl (lv_at hl 0 rfl) ?_
  refine zc_Vi (n := 0) (As := []) (rest := []) S hAM hA (kX6_readAll l X h Q s rd kp km tx lnn sp rs wi gi ht) rfl gX6_firstError_X6_readAll  (by decide +kernel) ⟨Nat.le_of_ble_eq_true rfl, Nat.le_of_ble_eq_true rfl⟩ hH hS [0, 1, 2, 3, 4, 5, 6] rfl 7 rfl (List.Perm.refl _) 6 0 rfl rfl rfl hl.1 rfl (Nat.le_of_ble_eq_true rfl) dX6_firstError_1 ⟨Nat.le_of_ble_eq_true rfl, Nat.le_of_ble_eq_true rfl⟩ (fun z4 u3 H locs hp5 hH hS => ?_)
  obtain ⟨sj_1, rj_2⟩ := u3
  have hH : Hold X A [mO h Q km ((lnn : Nat) : Int) ((sj_1 : Nat) : Int) ((rj_2 : Nat) : Int), aW X (Q 0) 125 s, aW X (Q 1) 125 ((rdA tx lnn).2.2), aW X (Q 2) 625 kp, aW X (Q 3) 400 tx, aW X (Q 4) 8 wi, aW X (Q 5) 8 gi].flatten H := hH
  obtain ⟨rfl, hra, hrb, hrc, hrd0⟩ := hp5
  exact hret 4 ls _ _ ((rdA tx lnn).1) (sj_1, rj_2) dX6_firstError_4 rfl rfl hH hS

theorem mX6_errorReason_1 : Cond.fieldLink RX6 59 "RoleDoublingPlannerModel" "reason" "I" ∈ wsX6_errorReason := List.mem_of_getElem? (i := 1) rfl
theorem nX6_errorReason_X6 : ∀ w ∈ wsX60, w ∈ wsX6_errorReason := fun _ h => List.mem_cons_of_mem _ (List.mem_append_right _ h)
set_option maxHeartbeats 4000000 in
set_option maxRecDepth 100000 in
theorem kX6_errorReason (l : Launch) (X : XT) (h : Nat) (Q : Nat → Nat) (s : Nat → Int) (rd : Nat → Int) (kp : Nat → Int) (km : Int) (tx : Nat → Int) (lnn : Nat) (sp : Int) (rs : Int) (wi : Nat → Int) (gi : Nat → Int) (ht : okT tx lnn) : Ci l yX6_errorReason wsX6_errorReason (rmD 6) X [.ref h] [mO h Q km ((lnn : Nat) : Int) sp rs, aW X (Q 0) 125 s, aW X (Q 1) 125 rd, aW X (Q 2) 625 kp, aW X (Q 3) 400 tx, aW X (Q 4) 8 wi, aW X (Q 5) 8 gi] (fun (z : Int) (u : (Nat) × (Nat)) => match u with | (sj, rj) => z = opErr tx lnn) (fun (u : (Nat) × (Nat)) => match u with | (sj, rj) => [mO h Q km ((lnn : Nat) : Int) ((sj : Nat) : Int) ((rj : Nat) : Int), aW X (Q 0) 125 s, aW X (Q 1) 125 ((rdA tx lnn).2.2), aW X (Q 2) 625 kp, aW X (Q 3) 400 tx, aW X (Q 4) 8 wi, aW X (Q 5) 8 gi]) := by
  refine Ci.ofW (cc := cX6_errorReason) (maxL := 1) (by decide) rfl (Nat.le_of_ble_eq_true rfl) ?_
  intro p_ e_ s_ m_ below meth c_ A Q_ S hA hAM hH hS hret ls hl
  have hl : lv_has ls 1 [(0, .ref (h))] := hl
  have hL := ht.1
  refine lv_aload_n S.1 S.2.1 dX6_errorReason_0 rfl (lv_at hl 0 rfl) ?_
  refine zc_Vi (n := 0) (As := []) (rest := []) S hAM hA (kX6_readAll l X h Q s rd kp km tx lnn sp rs wi gi ht) rfl gX6_errorReason_X6_readAll  (by decide +kernel) ⟨Nat.le_of_ble_eq_true rfl, Nat.le_of_ble_eq_true rfl⟩ hH hS [0, 1, 2, 3, 4, 5, 6] rfl 7 rfl (List.Perm.refl _) 6 0 rfl rfl rfl hl.1 rfl (Nat.le_of_ble_eq_true rfl) dX6_errorReason_1 ⟨Nat.le_of_ble_eq_true rfl, Nat.le_of_ble_eq_true rfl⟩ (fun z4 u3 H locs hp5 hH hS => ?_)
  obtain ⟨sj_1, rj_2⟩ := u3
  have hH : Hold X A [mO h Q km ((lnn : Nat) : Int) ((sj_1 : Nat) : Int) ((rj_2 : Nat) : Int), aW X (Q 0) 125 s, aW X (Q 1) 125 ((rdA tx lnn).2.2), aW X (Q 2) 625 kp, aW X (Q 3) 400 tx, aW X (Q 4) 8 wi, aW X (Q 5) 8 gi].flatten H := hH
  obtain ⟨rfl, hra, hrb, hrc, hrd0⟩ := hp5
  refine lv_sipush (v := iI (-1004)) S.1 S.2.1 dX6_errorReason_4 (by decide) ?_
  refine zv_icmp_ne (tgt := 16) S dX6_errorReason_7 (by decide) (by omega) (by decide) (fun c_7 => ?_) (fun c_7 => ?_)
  · skip
    refine lv_aload_n S.1 S.2.1 dX6_errorReason_16 rfl (lv_at hl 0 rfl) ?_
    refine zv_get (v := .int (iI ((rj_2 : Nat) : Int))) S hAM hH nX6_errorReason_X6 0 rfl rfl 7 (by decide) mX6_errorReason_1 rfl rfl dX6_errorReason_17 ?_
    exact hret 20 ls _ _ (((rj_2 : Nat) : Int)) (sj_1, rj_2) dX6_errorReason_20 rfl (by show ((rj_2 : Nat) : Int) = opErr tx lnn; unfold opErr; rw [if_neg c_7, hra c_7]) hH hS
  · skip
    refine lv_sipush (v := iI (-1004)) S.1 S.2.1 dX6_errorReason_10 (by decide) ?_
    refine lv_goto (tgt := 20) S.1 S.2.1 dX6_errorReason_13 (by decide) ?_
    exact hret 20 ls _ _ (-1004) (sj_1, rj_2) dX6_errorReason_20 rfl (by show (-1004 : Int) = opErr tx lnn; unfold opErr; rw [if_pos (by omega)]) hH hS

theorem mX6_configure_1 : Cond.fieldLink RX6 13 "RoleDoublingPlannerModel" "read" "[I" ∈ wsX6_configure := List.mem_of_getElem? (i := 1) rfl
theorem nX6_configure_X6 : ∀ w ∈ wsX60, w ∈ wsX6_configure := fun _ h => List.mem_cons_of_mem _ (List.mem_append_right _ h)
theorem mX6_configure_3 : Cond.fieldLink RX6 101 "RoleDoublingPlannerModel" "keptMany" "I" ∈ wsX6_configure := List.mem_of_getElem? (i := 3) rfl
theorem mX6_configure_2 : Cond.fieldLink RX6 7 "RoleDoublingPlannerModel" "s" "[I" ∈ wsX6_configure := List.mem_of_getElem? (i := 2) rfl
set_option maxHeartbeats 4000000 in
set_option maxRecDepth 100000 in
theorem kX6_configure (l : Launch) (X : XT) (h : Nat) (Q : Nat → Nat) (s : Nat → Int) (rd : Nat → Int) (kp : Nat → Int) (kn : Nat) (tx : Nat → Int) (lnn : Nat) (sp : Int) (rs : Int) (wi : Nat → Int) (gi : Nat → Int) (ht : okT tx lnn) : Ci l yX6_configure wsX6_configure (rmD 6) X [.ref h] [mO h Q ((kn : Nat) : Int) ((lnn : Nat) : Int) sp rs, aW X (Q 0) 125 s, aW X (Q 1) 125 rd, aW X (Q 2) 625 kp, aW X (Q 3) 400 tx, aW X (Q 4) 8 wi, aW X (Q 5) 8 gi] (fun (z : Int) (u : (Nat) × (Nat)) => match u with | (sj, rj) => z = (opCnf s kp kn tx lnn).1) (fun (u : (Nat) × (Nat)) => match u with | (sj, rj) => [mO h Q (((opCnf s kp kn tx lnn).2.2.2 : Nat) : Int) ((lnn : Nat) : Int) ((sj : Nat) : Int) ((rj : Nat) : Int), aW X (Q 0) 125 ((opCnf s kp kn tx lnn).2.1), aW X (Q 1) 125 ((rdA tx lnn).2.2), aW X (Q 2) 625 ((opCnf s kp kn tx lnn).2.2.1), aW X (Q 3) 400 tx, aW X (Q 4) 8 wi, aW X (Q 5) 8 gi]) := by
  refine Ci.ofW (cc := cX6_configure) (maxL := 2) (by decide) rfl (Nat.le_of_ble_eq_true rfl) ?_
  intro p_ e_ s_ m_ below meth c_ A Q_ S hA hAM hH hS hret ls hl
  have hl : lv_has ls 2 [(0, .ref (h))] := hl
  have hL := ht.1
  have hcN := (okR_rdA tx lnn).ns10
  have hcR := (okR_rdA tx lnn).nr8
  refine lv_aload_n S.1 S.2.1 dX6_configure_0 rfl (lv_at hl 0 rfl) ?_
  refine zc_Vi (n := 0) (As := []) (rest := []) S hAM hA (kX6_readAll l X h Q s rd kp ((kn : Nat) : Int) tx lnn sp rs wi gi ht) rfl gX6_configure_X6_readAll  (by decide +kernel) ⟨Nat.le_of_ble_eq_true rfl, Nat.le_of_ble_eq_true rfl⟩ hH hS [0, 1, 2, 3, 4, 5, 6] rfl 7 rfl (List.Perm.refl _) 6 0 rfl rfl rfl hl.1 rfl (Nat.le_of_ble_eq_true rfl) dX6_configure_1 ⟨Nat.le_of_ble_eq_true rfl, Nat.le_of_ble_eq_true rfl⟩ (fun z4 u3 H locs hp5 hH hS => ?_)
  obtain ⟨sj_1, rj_2⟩ := u3
  have hH : Hold X A [mO h Q ((kn : Nat) : Int) ((lnn : Nat) : Int) ((sj_1 : Nat) : Int) ((rj_2 : Nat) : Int), aW X (Q 0) 125 s, aW X (Q 1) 125 ((rdA tx lnn).2.2), aW X (Q 2) 625 kp, aW X (Q 3) 400 tx, aW X (Q 4) 8 wi, aW X (Q 5) 8 gi].flatten H := hH
  obtain ⟨rfl, hra, hrb, hrc, hrd0⟩ := hp5
  refine lv_sipush (v := iI (-1004)) S.1 S.2.1 dX6_configure_4 (by decide) ?_
  refine zv_icmp_ne (tgt := 29) S dX6_configure_7 (by decide) (by omega) (by decide) (fun c_7 => ?_) (fun c_7 => ?_)
  · skip
    refine lv_sipush (v := iI (-1002)) S.1 S.2.1 dX6_configure_29 (by decide) ?_
    have eO : opCnf s kp kn tx lnn = (-1002, s, kp, kn) := by unfold opCnf; rw [if_neg (by omega)]
    rw [eO] at hret
    exact hret 32 ls _ _ (-1002) (sj_1, rj_2) dX6_configure_32 rfl rfl hH hS
  · skip
    refine lv_aload_n S.1 S.2.1 dX6_configure_10 rfl (lv_at hl 0 rfl) ?_
    refine zv_get (v := .ref (Q 1)) S hAM hH nX6_configure_X6 0 rfl rfl 1 (by decide) mX6_configure_1 rfl rfl dX6_configure_11 ?_
    refine lv_iconst (v := iI (((0 : Nat) : Int))) S.1 S.2.1 dX6_configure_14 (by decide) ?_
    refine zv_iald S hAM hH 2 rfl (0) rfl (by decide) (by decide) dX6_configure_15 ?_
    refine zv_top (z := ((rdA tx lnn).2.2) 0) (z2 := ((ns (rdA tx lnn).2.2 : Nat) : Int)) (okR_rdA _ _).e0 ?_
    refine zv_if_eq (tgt := 29) S dX6_configure_16 (by decide) (by omega) (fun c_16 => ?_) (fun c_16 => ?_)
    · skip
      refine lv_sipush (v := iI (-1002)) S.1 S.2.1 dX6_configure_29 (by decide) ?_
      have eO : opCnf s kp kn tx lnn = (-1002, s, kp, kn) := by unfold opCnf; rw [if_neg (by omega)]
      rw [eO] at hret
      exact hret 32 ls _ _ (-1002) (sj_1, rj_2) dX6_configure_32 rfl rfl hH hS
    · skip
      refine lv_aload_n S.1 S.2.1 dX6_configure_19 rfl (lv_at hl 0 rfl) ?_
      refine zv_get (v := .ref (Q 1)) S hAM hH nX6_configure_X6 0 rfl rfl 1 (by decide) mX6_configure_1 rfl rfl dX6_configure_20 ?_
      refine lv_bipush (v := iI (((11 : Nat) : Int))) S.1 S.2.1 dX6_configure_23 (by decide) ?_
      refine zv_iald S hAM hH 2 rfl (11) rfl (by decide) (by decide) dX6_configure_25 ?_
      refine zv_top (z := ((rdA tx lnn).2.2) 11) (z2 := ((nr (rdA tx lnn).2.2 : Nat) : Int)) (okR_rdA _ _).e11 ?_
      refine zv_if_ne (tgt := 33) S dX6_configure_26 (by decide) (by omega) (fun c_26 => ?_) (fun c_26 => ?_)
      · skip
        refine lv_iconst (v := iI (((0 : Nat) : Int))) S.1 S.2.1 dX6_configure_33 (by decide) ?_
        refine lv_istore_n (lv' := [(1, .int (iI ((0 : Nat) : Int))), (0, .ref (h))]) S.1 S.2.1 dX6_configure_34 rfl hl (by decide) rfl (fun ls hl => ?_)
        have lp35 : ∀ (fu_ : Nat) (k : Nat) (sv : Nat → Int), 125 - k < fu_ → (k ≤ 125) → (∀ j, j < 125 → sv j = (if j < k then ((rdA tx lnn).2.2) j else s j)) → ∀ (H : Heap) (locs : List Loc), Hold X A [mO h Q ((kn : Nat) : Int) ((lnn : Nat) : Int) ((sj_1 : Nat) : Int) ((rj_2 : Nat) : Int), aW X (Q 0) 125 sv, aW X (Q 1) 125 ((rdA tx lnn).2.2), aW X (Q 2) 625 kp, aW X (Q 3) 400 tx, aW X (Q 4) 8 wi, aW X (Q 5) 8 gi].flatten H → va_S A s_.heap H locs → ∀ ls : Array Slot, lv_has ls 2 [(1, .int (iI ((k : Nat) : Int))), (0, .ref (h))] → W p_ l e_ (rmD 6) s_ m_ (List.toArray [.ref (h)]) below meth c_ H locs 0 0 Q_ (F0 m_ 35 ls []) := by
          intro fu_
          induction fu_ with
          | zero => intro k sv hmu hk hsv H locs hH hS ls hl; exact absurd hmu (Nat.not_lt_zero _)
          | succ fu_ ih35 => 
            intro k sv hmu hk hsv H locs hH hS ls hl
            refine lv_iload_n S.1 S.2.1 dX6_configure_35 rfl (lv_at hl 0 rfl) ?_
            refine lv_bipush (v := iI (((125 : Nat) : Int))) S.1 S.2.1 dX6_configure_36 (by decide) ?_
            refine zv_icmp_ge (tgt := 59) S dX6_configure_38 (by decide) (by omega) (by decide) (fun c_38 => ?_) (fun c_38 => ?_)
            · skip
              refine lv_aload_n S.1 S.2.1 dX6_configure_59 rfl (lv_at hl 1 rfl) ?_
              refine lv_iconst (v := iI (((0 : Nat) : Int))) S.1 S.2.1 dX6_configure_60 (by decide) ?_
              refine zv_put (v := .int (iI ((0 : Nat) : Int))) (w2 := [mO h Q ((0 : Nat) : Int) ((lnn : Nat) : Int) ((sj_1 : Nat) : Int) ((rj_2 : Nat) : Int), aW X (Q 0) 125 sv, aW X (Q 1) 125 ((rdA tx lnn).2.2), aW X (Q 2) 625 kp, aW X (Q 3) 400 tx, aW X (Q 4) 8 wi, aW X (Q 5) 8 gi].flatten) S hAM hH hS nX6_configure_X6 tyX6 tyX6_ok nmX6 0 rfl rfl 3 (by decide) mX6_configure_3 rfl rfl rfl rfl (Nat.le_of_ble_eq_true rfl) rfl dX6_configure_61 (fun H locs hH hS => ?_)
              refine lv_aload_n S.1 S.2.1 dX6_configure_64 rfl (lv_at hl 1 rfl) ?_
              refine zv_get (v := .ref (Q 0)) S hAM hH nX6_configure_X6 0 rfl rfl 0 (by decide) mX6_configure_2 rfl rfl dX6_configure_65 ?_
              refine lv_bipush (v := iI (((11 : Nat) : Int))) S.1 S.2.1 dX6_configure_68 (by decide) ?_
              refine zv_iald S hAM hH 1 rfl (11) rfl (by decide) (by decide) dX6_configure_70 ?_
              refine zv_top (z := sv 11) (z2 := ((nr (rdA tx lnn).2.2 : Nat) : Int)) (by rw [hsv 11 (by omega), if_pos (by omega)]; exact (okR_rdA _ _).e11) ?_
              have eO : opCnf s kp kn tx lnn = (((nr (rdA tx lnn).2.2 : Nat) : Int), (rdA tx lnn).2.2, kp, 0) := by unfold opCnf; rw [if_pos (by omega)]
              rw [eO] at hret
              have e9 : k = 125 := (by omega)
              have hH : Hold X A [mO h Q ((0 : Nat) : Int) ((lnn : Nat) : Int) ((sj_1 : Nat) : Int) ((rj_2 : Nat) : Int), aW X (Q 0) 125 ((rdA tx lnn).2.2), aW X (Q 1) 125 ((rdA tx lnn).2.2), aW X (Q 2) 625 kp, aW X (Q 3) 400 tx, aW X (Q 4) 8 wi, aW X (Q 5) 8 gi].flatten _ := hH.cong 1 rfl (fun j hj => by rw [hsv j hj, if_pos (by omega)]) rfl
              exact hret 71 ls _ _ (((nr (rdA tx lnn).2.2 : Nat) : Int)) (sj_1, rj_2) dX6_configure_71 rfl rfl hH hS
            · skip
              refine lv_aload_n S.1 S.2.1 dX6_configure_41 rfl (lv_at hl 1 rfl) ?_
              refine zv_get (v := .ref (Q 0)) S hAM hH nX6_configure_X6 0 rfl rfl 0 (by decide) mX6_configure_2 rfl rfl dX6_configure_42 ?_
              refine lv_iload_n S.1 S.2.1 dX6_configure_45 rfl (lv_at hl 0 rfl) ?_
              refine lv_aload_n S.1 S.2.1 dX6_configure_46 rfl (lv_at hl 1 rfl) ?_
              refine zv_get (v := .ref (Q 1)) S hAM hH nX6_configure_X6 0 rfl rfl 1 (by decide) mX6_configure_1 rfl rfl dX6_configure_47 ?_
              refine lv_iload_n S.1 S.2.1 dX6_configure_50 rfl (lv_at hl 0 rfl) ?_
              refine zv_iald S hAM hH 2 rfl (k) rfl (by omega) (by decide) dX6_configure_51 ?_
              refine zv_iast (z := ((rdA tx lnn).2.2) k) (w2 := [mO h Q ((kn : Nat) : Int) ((lnn : Nat) : Int) ((sj_1 : Nat) : Int) ((rj_2 : Nat) : Int), aW X (Q 0) 125 (uI sv k (((rdA tx lnn).2.2) k)), aW X (Q 1) 125 ((rdA tx lnn).2.2), aW X (Q 2) 625 kp, aW X (Q 3) 400 tx, aW X (Q 4) 8 wi, aW X (Q 5) 8 gi].flatten) S hAM hH hS 1 rfl (k) rfl (by omega) (by decide) rfl dX6_configure_52 (fun H locs hH hS => ?_)
              refine zv_iinc (z := (((k + 1) : Nat) : Int)) (lv' := [(1, .int (iI (((k + 1) : Nat) : Int))), (0, .ref (h))]) S dX6_configure_53 hl (k := 0) rfl (by omega) (by decide) rfl (fun ls hl => ?_)
              refine lv_goto (tgt := 35) S.1 S.2.1 dX6_configure_56 (by decide) ?_
              exact ih35  ((k + 1)) (uI sv k (((rdA tx lnn).2.2) k)) (by omega) (by omega) (fun j hj => by by_cases e : j = k; (rw [e, uI_s, if_pos (by omega)]); (rw [uI_n e, hsv j hj]; by_cases e2 : j < k; (rw [if_pos e2, if_pos (by omega)]); (rw [if_neg e2, if_neg (by omega)]))) _ _ hH hS ls (lv_sub hl [0, 1] rfl)
        exact lp35 (125 - (0) + 1) (0) (s) (Nat.lt_succ_self _) (by omega) (fun j hj => by rw [if_neg (by omega)]) _ _ hH hS ls (lv_sub hl [0, 1] rfl)
      · skip
        refine lv_sipush (v := iI (-1002)) S.1 S.2.1 dX6_configure_29 (by decide) ?_
        have eO : opCnf s kp kn tx lnn = (-1002, s, kp, kn) := by unfold opCnf; rw [if_neg (by omega)]
        rw [eO] at hret
        exact hret 32 ls _ _ (-1002) (sj_1, rj_2) dX6_configure_32 rfl rfl hH hS
