theorem mX3_readScene_1 : Cond.fieldLink RX3 15 "RoleDoublingPlanner$PlayText" "numbers" "[I" ∈ wsX3_readScene := List.mem_of_getElem? (i := 1) rfl
theorem nX3_readScene_X3 : ∀ w ∈ wsX30, w ∈ wsX3_readScene := fun _ h => List.mem_cons_of_mem _ (List.mem_append_left _ (List.mem_append_right _ h))
set_option maxHeartbeats 4000000 in
set_option maxRecDepth 100000 in
theorem kX3_readScene (l : Launch) (X : XT) (qt : Nat) (Qt : Nat → Nat) (lnn : Nat) (ss : Int) (rs : Int) (p : Nat) (w : Nat) (tx : Nat → Int) (nm : Nat → Int) (q : Nat) (Qp : Nat → Nat) (v : Nat → Int) (sl : Nat → Int) (vo : Nat → Int) (ou : Nat → Int) (inn : Nat → Int) (ac : Nat → Int) (ag : Nat → Int) (ai : Nat → Int) (et : Nat → Int) (xt : Nat → Int) (ht : okT tx lnn) (hv : okR v) (hP : PA v sl vo ou inn ac ag ai et xt) (hwp : w ≤ 400 ∧ p ≤ lnn) : Ci l yX3_readScene wsX3_readScene (rmD 3) X [.ref qt, .ref (q)] [toW qt Qt ((lnn : Nat) : Int) ss rs ((p : Nat) : Int) ((w : Nat) : Int), cW X (Qt 0) 400 tx, aW X (Qt 1) 4 nm, poW q Qp ((ns v : Nat) : Int) ((nr v : Nat) : Int) ((na v : Nat) : Int), aW X (Qp 0) 10 sl, aW X (Qp 1) 8 vo, aW X (Qp 2) 8 ou, aW X (Qp 3) 8 inn, aW X (Qp 4) 8 ac, aW X (Qp 5) 20 ag, aW X (Qp 6) 20 ai, aW X (Qp 7) 20 et, aW X (Qp 8) 20 xt] (fun (z : Int) (u : (Nat) × (Nat) × (Nat → Int) × (Nat → Int)) => match u with | (sj, wj, nm2, sl2) => z = (((stScene tx lnn p v).1 : Nat) : Int) ∧ PA (stScene tx lnn p v).2.2 sl2 vo ou inn ac ag ai et xt ∧ ((stScene tx lnn p v).1 = 0 → sj = (stScene tx lnn p v).2.1) ∧ sj ≤ lnn ∧ wj ≤ 400) (fun (u : (Nat) × (Nat) × (Nat → Int) × (Nat → Int)) => match u with | (sj, wj, nm2, sl2) => [toW qt Qt ((lnn : Nat) : Int) ss rs ((sj : Nat) : Int) ((wj : Nat) : Int), cW X (Qt 0) 400 tx, aW X (Qt 1) 4 nm2, poW q Qp ((ns ((stScene tx lnn p v).2.2) : Nat) : Int) ((nr ((stScene tx lnn p v).2.2) : Nat) : Int) ((na ((stScene tx lnn p v).2.2) : Nat) : Int), aW X (Qp 0) 10 sl2, aW X (Qp 1) 8 vo, aW X (Qp 2) 8 ou, aW X (Qp 3) 8 inn, aW X (Qp 4) 8 ac, aW X (Qp 5) 20 ag, aW X (Qp 6) 20 ai, aW X (Qp 7) 20 et, aW X (Qp 8) 20 xt]) := by
  refine Ci.ofW (cc := cX3_readScene) (maxL := 2) (by decide) rfl (Nat.le_of_ble_eq_true rfl) ?_
  intro p_ e_ s_ m_ below meth c_ A Q_ S hA hAM hH hS hret ls hl
  have hl : lv_has ls 2 [(0, .ref (qt)), (1, .ref (q))] := hl
  have hL := ht.1
  have hk1 := hv.nr8
  have hk2 := hv.na20
  have hk3 := hv.ns10
  refine lv_aload_n S.1 S.2.1 dX3_readScene_0 rfl (lv_at hl 0 rfl) ?_
  refine lv_iconst (v := iI (((1 : Nat) : Int))) S.1 S.2.1 dX3_readScene_1 (by decide) ?_
  refine zc_Vi (n := 1) (As := [.int (iI ((1 : Nat) : Int))]) (rest := []) S hAM hA (kX3_rn1 l X qt Qt lnn ss rs p w tx nm ht (by omega)) rfl gX3_readScene_X3_readNumbersAndEnd  (by decide +kernel) ⟨Nat.le_of_ble_eq_true rfl, Nat.le_of_ble_eq_true rfl⟩ hH hS [0, 1, 2, 3, 4, 5, 6, 7, 8, 9, 10, 11, 12] rfl 13 rfl (List.Perm.refl _) 3 0 rfl rfl rfl hl.1 rfl (Nat.le_of_ble_eq_true rfl) dX3_readScene_2 ⟨Nat.le_of_ble_eq_true rfl, Nat.le_of_ble_eq_true rfl⟩ (fun z5 u4 H locs hp6 hH hS => ?_)
  obtain ⟨sj_1, wj_2, nm2_3⟩ := u4
  have hH : Hold X A [toW qt Qt ((lnn : Nat) : Int) ss rs ((sj_1 : Nat) : Int) ((wj_2 : Nat) : Int), cW X (Qt 0) 400 tx, aW X (Qt 1) 4 nm2_3, poW q Qp ((ns v : Nat) : Int) ((nr v : Nat) : Int) ((na v : Nat) : Int), aW X (Qp 0) 10 sl, aW X (Qp 1) 8 vo, aW X (Qp 2) 8 ou, aW X (Qp 3) 8 inn, aW X (Qp 4) 8 ac, aW X (Qp 5) 20 ag, aW X (Qp 6) 20 ai, aW X (Qp 7) 20 et, aW X (Qp 8) 20 xt].flatten H := hH
  rcases hp6 with ⟨⟨rfl, b_2⟩ | ⟨rfl, b_2⟩, hbd_2⟩
  · refine zv_top (z := 1) (z2 := ((1 : Nat) : Int)) rfl ?_
    obtain ⟨hr_, hb0_⟩ := b_2
    refine zv_if_ne (tgt := 10) S dX3_readScene_5 (by decide) (by decide) (fun c_5 => ?_) (fun c_5 => ?_)
    · skip
      refine lv_aload_n S.1 S.2.1 dX3_readScene_10 rfl (lv_at hl 1 rfl) ?_
      refine lv_aload_n S.1 S.2.1 dX3_readScene_11 rfl (lv_at hl 0 rfl) ?_
      refine zv_get (v := .ref (Qt 1)) S hAM hH nX3_readScene_X3 0 rfl rfl 6 (by decide) mX3_readScene_1 rfl rfl dX3_readScene_12 ?_
      refine lv_iconst (v := iI (((0 : Nat) : Int))) S.1 S.2.1 dX3_readScene_15 (by decide) ?_
      refine zv_iald S hAM hH 2 rfl (0) rfl (by decide) (by decide) dX3_readScene_16 ?_
      refine zc_Vi (n := 1) (As := [.int (iI (nm2_3 0))]) (rest := []) S hAM hA (kX2_stateScene l X q Qp v sl vo ou inn ac ag ai et xt (nm2_3 0) hv hP (by omega)) rfl gX3_readScene_X2_stateScene  (by decide +kernel) ⟨Nat.le_of_ble_eq_true rfl, Nat.le_of_ble_eq_true rfl⟩ hH hS [3, 4, 5, 6, 7, 8, 9, 10, 11, 12, 0, 1, 2] rfl 13 rfl (by decide) 2 0 rfl rfl rfl hl.1 rfl (Nat.le_of_ble_eq_true rfl) dX3_readScene_17 ⟨Nat.le_of_ble_eq_true rfl, Nat.le_of_ble_eq_true rfl⟩ (fun z8 sl2_7 H locs hp9 hH hS => ?_)
      have hH : Hold X A [poW q Qp ((ns ((scR v (nm2_3 0)).2) : Nat) : Int) ((nr ((scR v (nm2_3 0)).2) : Nat) : Int) ((na ((scR v (nm2_3 0)).2) : Nat) : Int), aW X (Qp 0) 10 sl2_7, aW X (Qp 1) 8 vo, aW X (Qp 2) 8 ou, aW X (Qp 3) 8 inn, aW X (Qp 4) 8 ac, aW X (Qp 5) 20 ag, aW X (Qp 6) 20 ai, aW X (Qp 7) 20 et, aW X (Qp 8) 20 xt, toW qt Qt ((lnn : Nat) : Int) ss rs ((sj_1 : Nat) : Int) ((wj_2 : Nat) : Int), cW X (Qt 0) 400 tx, aW X (Qt 1) 4 nm2_3].flatten H := hH
      obtain ⟨rfl, hPA_17⟩ := hp9
      have hH : Hold X A [toW qt Qt ((lnn : Nat) : Int) ss rs ((sj_1 : Nat) : Int) ((wj_2 : Nat) : Int), cW X (Qt 0) 400 tx, aW X (Qt 1) 4 nm2_3, poW q Qp ((ns ((scR v (nm2_3 0)).2) : Nat) : Int) ((nr ((scR v (nm2_3 0)).2) : Nat) : Int) ((na ((scR v (nm2_3 0)).2) : Nat) : Int), aW X (Qp 0) 10 sl2_7, aW X (Qp 1) 8 vo, aW X (Qp 2) 8 ou, aW X (Qp 3) 8 inn, aW X (Qp 4) 8 ac, aW X (Qp 5) 20 ag, aW X (Qp 6) 20 ai, aW X (Qp 7) 20 et, aW X (Qp 8) 20 xt].flatten _ := hH.pick [10, 11, 12, 0, 1, 2, 3, 4, 5, 6, 7, 8, 9] rfl 13 rfl (by decide)
      have eS := stScene_ok (v := v) hr_
      rw [eS] at hret
      exact hret 20 ls _ _ ((((scR v (nm2_3 0)).1 : Nat) : Int)) (sj_1, wj_2, nm2_3, sl2_7) dX3_readScene_20 rfl ⟨rfl, hPA_17, (fun z => (if_pos z).symm), (by omega), (by omega)⟩ hH hS
    · exact (show False by omega).elim
  · refine zv_top (z := 0) (z2 := ((0 : Nat) : Int)) rfl ?_
    refine zv_if_ne (tgt := 10) S dX3_readScene_5 (by decide) (by decide) (fun c_5 => ?_) (fun c_5 => ?_)
    · exact (show False by omega).elim
    · skip
      refine lv_iconst (v := iI (((2 : Nat) : Int))) S.1 S.2.1 dX3_readScene_8 (by decide) ?_
      have eS := stScene_no (v := v) b_2
      rw [eS] at hret
      exact hret 9 ls _ _ (((2 : Nat) : Int)) (sj_1, wj_2, nm2_3, sl) dX3_readScene_9 rfl ⟨rfl, hP, (fun z => absurd z (Nat.succ_ne_zero _)), (by omega), (by omega)⟩ hH hS

theorem mX3_readEnter_1 : Cond.fieldLink RX3 15 "RoleDoublingPlanner$PlayText" "numbers" "[I" ∈ wsX3_readEnter := List.mem_of_getElem? (i := 1) rfl
theorem nX3_readEnter_X3 : ∀ w ∈ wsX30, w ∈ wsX3_readEnter := fun _ h => List.mem_cons_of_mem _ (List.mem_append_left _ (List.mem_append_right _ h))
set_option maxHeartbeats 4000000 in
set_option maxRecDepth 100000 in
theorem kX3_readEnter (l : Launch) (X : XT) (qt : Nat) (Qt : Nat → Nat) (lnn : Nat) (ss : Int) (rs : Int) (p : Nat) (w : Nat) (tx : Nat → Int) (nm : Nat → Int) (q : Nat) (Qp : Nat → Nat) (v : Nat → Int) (sl : Nat → Int) (vo : Nat → Int) (ou : Nat → Int) (inn : Nat → Int) (ac : Nat → Int) (ag : Nat → Int) (ai : Nat → Int) (et : Nat → Int) (xt : Nat → Int) (ht : okT tx lnn) (hv : okR v) (hP : PA v sl vo ou inn ac ag ai et xt) (hwp : w ≤ 400 ∧ p ≤ lnn) : Ci l yX3_readEnter wsX3_readEnter (rmD 4) X [.ref qt, .ref (q)] [toW qt Qt ((lnn : Nat) : Int) ss rs ((p : Nat) : Int) ((w : Nat) : Int), cW X (Qt 0) 400 tx, aW X (Qt 1) 4 nm, poW q Qp ((ns v : Nat) : Int) ((nr v : Nat) : Int) ((na v : Nat) : Int), aW X (Qp 0) 10 sl, aW X (Qp 1) 8 vo, aW X (Qp 2) 8 ou, aW X (Qp 3) 8 inn, aW X (Qp 4) 8 ac, aW X (Qp 5) 20 ag, aW X (Qp 6) 20 ai, aW X (Qp 7) 20 et, aW X (Qp 8) 20 xt] (fun (z : Int) (u : (Nat) × (Nat) × (Nat → Int) × (Nat → Int) × (Nat → Int) × (Nat → Int) × (Nat → Int)) => match u with | (sj, wj, nm2, ag2, ai2, et2, xt2) => z = (((stEnter tx lnn p v).1 : Nat) : Int) ∧ PA (stEnter tx lnn p v).2.2 sl vo ou inn ac ag2 ai2 et2 xt2 ∧ ((stEnter tx lnn p v).1 = 0 → sj = (stEnter tx lnn p v).2.1) ∧ sj ≤ lnn ∧ wj ≤ 400) (fun (u : (Nat) × (Nat) × (Nat → Int) × (Nat → Int) × (Nat → Int) × (Nat → Int) × (Nat → Int)) => match u with | (sj, wj, nm2, ag2, ai2, et2, xt2) => [toW qt Qt ((lnn : Nat) : Int) ss rs ((sj : Nat) : Int) ((wj : Nat) : Int), cW X (Qt 0) 400 tx, aW X (Qt 1) 4 nm2, poW q Qp ((ns ((stEnter tx lnn p v).2.2) : Nat) : Int) ((nr ((stEnter tx lnn p v).2.2) : Nat) : Int) ((na ((stEnter tx lnn p v).2.2) : Nat) : Int), aW X (Qp 0) 10 sl, aW X (Qp 1) 8 vo, aW X (Qp 2) 8 ou, aW X (Qp 3) 8 inn, aW X (Qp 4) 8 ac, aW X (Qp 5) 20 ag2, aW X (Qp 6) 20 ai2, aW X (Qp 7) 20 et2, aW X (Qp 8) 20 xt2]) := by
  refine Ci.ofW (cc := cX3_readEnter) (maxL := 2) (by decide) rfl (Nat.le_of_ble_eq_true rfl) ?_
  intro p_ e_ s_ m_ below meth c_ A Q_ S hA hAM hH hS hret ls hl
  have hl : lv_has ls 2 [(0, .ref (qt)), (1, .ref (q))] := hl
  have hL := ht.1
  have hk1 := hv.nr8
  have hk2 := hv.na20
  have hk3 := hv.ns10
  refine lv_aload_n S.1 S.2.1 dX3_readEnter_0 rfl (lv_at hl 0 rfl) ?_
  refine lv_iconst (v := iI (((4 : Nat) : Int))) S.1 S.2.1 dX3_readEnter_1 (by decide) ?_
  refine zc_Vi (n := 1) (As := [.int (iI ((4 : Nat) : Int))]) (rest := []) S hAM hA (kX3_rn4 l X qt Qt lnn ss rs p w tx nm ht (by omega)) rfl gX3_readEnter_X3_readNumbersAndEnd  (by decide +kernel) ⟨Nat.le_of_ble_eq_true rfl, Nat.le_of_ble_eq_true rfl⟩ hH hS [0, 1, 2, 3, 4, 5, 6, 7, 8, 9, 10, 11, 12] rfl 13 rfl (List.Perm.refl _) 3 0 rfl rfl rfl hl.1 rfl (Nat.le_of_ble_eq_true rfl) dX3_readEnter_2 ⟨Nat.le_of_ble_eq_true rfl, Nat.le_of_ble_eq_true rfl⟩ (fun z5 u4 H locs hp6 hH hS => ?_)
  obtain ⟨sj_1, wj_2, nm2_3⟩ := u4
  have hH : Hold X A [toW qt Qt ((lnn : Nat) : Int) ss rs ((sj_1 : Nat) : Int) ((wj_2 : Nat) : Int), cW X (Qt 0) 400 tx, aW X (Qt 1) 4 nm2_3, poW q Qp ((ns v : Nat) : Int) ((nr v : Nat) : Int) ((na v : Nat) : Int), aW X (Qp 0) 10 sl, aW X (Qp 1) 8 vo, aW X (Qp 2) 8 ou, aW X (Qp 3) 8 inn, aW X (Qp 4) 8 ac, aW X (Qp 5) 20 ag, aW X (Qp 6) 20 ai, aW X (Qp 7) 20 et, aW X (Qp 8) 20 xt].flatten H := hH
  rcases hp6 with ⟨⟨rfl, b_2⟩ | ⟨rfl, b_2⟩, hbd_2⟩
  · refine zv_top (z := 1) (z2 := ((1 : Nat) : Int)) rfl ?_
    obtain ⟨hr_, hb0_, hb1_, hb2_, hb3_⟩ := b_2
    refine zv_if_ne (tgt := 10) S dX3_readEnter_5 (by decide) (by decide) (fun c_5 => ?_) (fun c_5 => ?_)
    · skip
      refine lv_aload_n S.1 S.2.1 dX3_readEnter_10 rfl (lv_at hl 1 rfl) ?_
      refine lv_aload_n S.1 S.2.1 dX3_readEnter_11 rfl (lv_at hl 0 rfl) ?_
      refine zv_get (v := .ref (Qt 1)) S hAM hH nX3_readEnter_X3 0 rfl rfl 6 (by decide) mX3_readEnter_1 rfl rfl dX3_readEnter_12 ?_
      refine lv_iconst (v := iI (((0 : Nat) : Int))) S.1 S.2.1 dX3_readEnter_15 (by decide) ?_
      refine zv_iald S hAM hH 2 rfl (0) rfl (by decide) (by decide) dX3_readEnter_16 ?_
      refine lv_aload_n S.1 S.2.1 dX3_readEnter_17 rfl (lv_at hl 0 rfl) ?_
      refine zv_get (v := .ref (Qt 1)) S hAM hH nX3_readEnter_X3 0 rfl rfl 6 (by decide) mX3_readEnter_1 rfl rfl dX3_readEnter_18 ?_
      refine lv_iconst (v := iI (((1 : Nat) : Int))) S.1 S.2.1 dX3_readEnter_21 (by decide) ?_
      refine zv_iald S hAM hH 2 rfl (1) rfl (by decide) (by decide) dX3_readEnter_22 ?_
      refine zv_top (z := nm2_3 1) (z2 := (((nm2_3 1).toNat : Nat) : Int)) (Int.toNat_of_nonneg (by omega)).symm ?_
      refine lv_aload_n S.1 S.2.1 dX3_readEnter_23 rfl (lv_at hl 0 rfl) ?_
      refine zv_get (v := .ref (Qt 1)) S hAM hH nX3_readEnter_X3 0 rfl rfl 6 (by decide) mX3_readEnter_1 rfl rfl dX3_readEnter_24 ?_
      refine lv_iconst (v := iI (((2 : Nat) : Int))) S.1 S.2.1 dX3_readEnter_27 (by decide) ?_
      refine zv_iald S hAM hH 2 rfl (2) rfl (by decide) (by decide) dX3_readEnter_28 ?_
      refine lv_aload_n S.1 S.2.1 dX3_readEnter_29 rfl (lv_at hl 0 rfl) ?_
      refine zv_get (v := .ref (Qt 1)) S hAM hH nX3_readEnter_X3 0 rfl rfl 6 (by decide) mX3_readEnter_1 rfl rfl dX3_readEnter_30 ?_
      refine lv_iconst (v := iI (((3 : Nat) : Int))) S.1 S.2.1 dX3_readEnter_33 (by decide) ?_
      refine zv_iald S hAM hH 2 rfl (3) rfl (by decide) (by decide) dX3_readEnter_34 ?_
      refine zc_Vi (n := 4) (As := [.int (iI (nm2_3 0)), .int (iI (((nm2_3 1).toNat : Nat) : Int)), .int (iI (nm2_3 2)), .int (iI (nm2_3 3))]) (rest := []) S hAM hA (kX2_stateAppearance l X q Qp v sl vo ou inn ac ag ai et xt (nm2_3 0) ((nm2_3 1).toNat) (nm2_3 2) (nm2_3 3) hv hP (by omega) (by omega) (by omega) (by omega)) rfl gX3_readEnter_X2_stateAppearance  (by decide +kernel) ⟨Nat.le_of_ble_eq_true rfl, Nat.le_of_ble_eq_true rfl⟩ hH hS [3, 4, 5, 6, 7, 8, 9, 10, 11, 12, 0, 1, 2] rfl 13 rfl (by decide) 2 0 rfl rfl rfl hl.1 rfl (Nat.le_of_ble_eq_true rfl) dX3_readEnter_35 ⟨Nat.le_of_ble_eq_true rfl, Nat.le_of_ble_eq_true rfl⟩ (fun z12 u11 H locs hp13 hH hS => ?_)
      obtain ⟨ag2_7, ai2_8, et2_9, xt2_10⟩ := u11
      have hH : Hold X A [poW q Qp ((ns ((apR v (nm2_3 0) ((((nm2_3 1).toNat) : Nat) : Int) (nm2_3 2) (nm2_3 3)).2) : Nat) : Int) ((nr ((apR v (nm2_3 0) ((((nm2_3 1).toNat) : Nat) : Int) (nm2_3 2) (nm2_3 3)).2) : Nat) : Int) ((na ((apR v (nm2_3 0) ((((nm2_3 1).toNat) : Nat) : Int) (nm2_3 2) (nm2_3 3)).2) : Nat) : Int), aW X (Qp 0) 10 sl, aW X (Qp 1) 8 vo, aW X (Qp 2) 8 ou, aW X (Qp 3) 8 inn, aW X (Qp 4) 8 ac, aW X (Qp 5) 20 ag2_7, aW X (Qp 6) 20 ai2_8, aW X (Qp 7) 20 et2_9, aW X (Qp 8) 20 xt2_10, toW qt Qt ((lnn : Nat) : Int) ss rs ((sj_1 : Nat) : Int) ((wj_2 : Nat) : Int), cW X (Qt 0) 400 tx, aW X (Qt 1) 4 nm2_3].flatten H := hH
      obtain ⟨rfl, hPA_35⟩ := hp13
      have hH : Hold X A [toW qt Qt ((lnn : Nat) : Int) ss rs ((sj_1 : Nat) : Int) ((wj_2 : Nat) : Int), cW X (Qt 0) 400 tx, aW X (Qt 1) 4 nm2_3, poW q Qp ((ns ((apR v (nm2_3 0) ((((nm2_3 1).toNat) : Nat) : Int) (nm2_3 2) (nm2_3 3)).2) : Nat) : Int) ((nr ((apR v (nm2_3 0) ((((nm2_3 1).toNat) : Nat) : Int) (nm2_3 2) (nm2_3 3)).2) : Nat) : Int) ((na ((apR v (nm2_3 0) ((((nm2_3 1).toNat) : Nat) : Int) (nm2_3 2) (nm2_3 3)).2) : Nat) : Int), aW X (Qp 0) 10 sl, aW X (Qp 1) 8 vo, aW X (Qp 2) 8 ou, aW X (Qp 3) 8 inn, aW X (Qp 4) 8 ac, aW X (Qp 5) 20 ag2_7, aW X (Qp 6) 20 ai2_8, aW X (Qp 7) 20 et2_9, aW X (Qp 8) 20 xt2_10].flatten _ := hH.pick [10, 11, 12, 0, 1, 2, 3, 4, 5, 6, 7, 8, 9] rfl 13 rfl (by decide)
      have eS := stEnter_ok (v := v) hr_
      rw [← Int.toNat_of_nonneg (show 0 ≤ nm2_3 1 by omega)] at eS
      rw [eS] at hret
      exact hret 38 ls _ _ ((((apR v (nm2_3 0) ((((nm2_3 1).toNat) : Nat) : Int) (nm2_3 2) (nm2_3 3)).1 : Nat) : Int)) (sj_1, wj_2, nm2_3, ag2_7, ai2_8, et2_9, xt2_10) dX3_readEnter_38 rfl ⟨rfl, hPA_35, (fun z => (if_pos z).symm), (by omega), (by omega)⟩ hH hS
    · exact (show False by omega).elim
  · refine zv_top (z := 0) (z2 := ((0 : Nat) : Int)) rfl ?_
    refine zv_if_ne (tgt := 10) S dX3_readEnter_5 (by decide) (by decide) (fun c_5 => ?_) (fun c_5 => ?_)
    · exact (show False by omega).elim
    · skip
      refine lv_iconst (v := iI (((2 : Nat) : Int))) S.1 S.2.1 dX3_readEnter_8 (by decide) ?_
      have eS := stEnter_no (v := v) b_2
      rw [eS] at hret
      exact hret 9 ls _ _ (((2 : Nat) : Int)) (sj_1, wj_2, nm2_3, ag, ai, et, xt) dX3_readEnter_9 rfl ⟨rfl, hP, (fun z => absurd z (Nat.succ_ne_zero _)), (by omega), (by omega)⟩ hH hS

theorem mX3_readRole_1 : Cond.fieldLink RX3 15 "RoleDoublingPlanner$PlayText" "numbers" "[I" ∈ wsX3_readRole := List.mem_of_getElem? (i := 1) rfl
theorem nX3_readRole_X3 : ∀ w ∈ wsX30, w ∈ wsX3_readRole := fun _ h => List.mem_cons_of_mem _ (List.mem_append_left _ (List.mem_append_right _ h))
set_option maxHeartbeats 4000000 in
set_option maxRecDepth 100000 in
theorem kX3_readRole (l : Launch) (X : XT) (qt : Nat) (Qt : Nat → Nat) (lnn : Nat) (ss : Int) (rs : Int) (p : Nat) (w : Nat) (tx : Nat → Int) (nm : Nat → Int) (q : Nat) (Qp : Nat → Nat) (v : Nat → Int) (sl : Nat → Int) (vo : Nat → Int) (ou : Nat → Int) (inn : Nat → Int) (ac : Nat → Int) (ag : Nat → Int) (ai : Nat → Int) (et : Nat → Int) (xt : Nat → Int) (ht : okT tx lnn) (hv : okR v) (hP : PA v sl vo ou inn ac ag ai et xt) (hwp : w ≤ 400 ∧ p ≤ lnn) (hact : ∀ r, r < 8 → v (36 + r) = -1) : Ci l yX3_readRole wsX3_readRole (rmD 7) X [.ref qt, .ref (q)] [toW qt Qt ((lnn : Nat) : Int) ss rs ((p : Nat) : Int) ((w : Nat) : Int), cW X (Qt 0) 400 tx, aW X (Qt 1) 4 nm, poW q Qp ((ns v : Nat) : Int) ((nr v : Nat) : Int) ((na v : Nat) : Int), aW X (Qp 0) 10 sl, aW X (Qp 1) 8 vo, aW X (Qp 2) 8 ou, aW X (Qp 3) 8 inn, aW X (Qp 4) 8 ac, aW X (Qp 5) 20 ag, aW X (Qp 6) 20 ai, aW X (Qp 7) 20 et, aW X (Qp 8) 20 xt] (fun (z : Int) (u : (Nat) × (Nat) × (Nat → Int) × (Nat → Int) × (Nat → Int) × (Nat → Int) × (Nat → Int)) => match u with | (sj, wj, nm2, vo2, ou2, inn2, ac2) => z = (((stRole tx lnn p v).1 : Nat) : Int) ∧ PA (stRole tx lnn p v).2.2 sl vo2 ou2 inn2 ac2 ag ai et xt ∧ ((stRole tx lnn p v).1 = 0 → sj = (stRole tx lnn p v).2.1) ∧ sj ≤ lnn ∧ wj ≤ 400) (fun (u : (Nat) × (Nat) × (Nat → Int) × (Nat → Int) × (Nat → Int) × (Nat → Int) × (Nat → Int)) => match u with | (sj, wj, nm2, vo2, ou2, inn2, ac2) => [toW qt Qt ((lnn : Nat) : Int) ss rs ((sj : Nat) : Int) ((wj : Nat) : Int), cW X (Qt 0) 400 tx, aW X (Qt 1) 4 nm2, poW q Qp ((ns ((stRole tx lnn p v).2.2) : Nat) : Int) ((nr ((stRole tx lnn p v).2.2) : Nat) : Int) ((na ((stRole tx lnn p v).2.2) : Nat) : Int), aW X (Qp 0) 10 sl, aW X (Qp 1) 8 vo2, aW X (Qp 2) 8 ou2, aW X (Qp 3) 8 inn2, aW X (Qp 4) 8 ac2, aW X (Qp 5) 20 ag, aW X (Qp 6) 20 ai, aW X (Qp 7) 20 et, aW X (Qp 8) 20 xt]) := by
  refine Ci.ofW (cc := cX3_readRole) (maxL := 3) (by decide) rfl (Nat.le_of_ble_eq_true rfl) ?_
  intro p_ e_ s_ m_ below meth c_ A Q_ S hA hAM hH hS hret ls hl
  have hl : lv_has ls 3 [(0, .ref (qt)), (1, .ref (q))] := hl
  have hL := ht.1
  have hk1 := hv.nr8
  have hk2 := hv.na20
  have hk3 := hv.ns10
  refine lv_aload_n S.1 S.2.1 dX3_readRole_0 rfl (lv_at hl 0 rfl) ?_
  refine lv_bipush (v := iI (((32 : Nat) : Int))) S.1 S.2.1 dX3_readRole_1 (by decide) ?_
  refine zc_Vi (n := 1) (As := [.int (iI ((32 : Nat) : Int))]) (rest := []) S hAM hA (kX3_readSign l X qt Qt lnn ss rs p w tx 32 ht (by omega) (by decide)) rfl gX3_readRole_X3_readSign  (by decide +kernel) ⟨Nat.le_of_ble_eq_true rfl, Nat.le_of_ble_eq_true rfl⟩ hH hS [0, 1, 2, 3, 4, 5, 6, 7, 8, 9, 10, 11, 12] rfl 13 rfl (List.Perm.refl _) 3 0 rfl rfl rfl hl.1 rfl (Nat.le_of_ble_eq_true rfl) dX3_readRole_3 ⟨Nat.le_of_ble_eq_true rfl, Nat.le_of_ble_eq_true rfl⟩ (fun z2 sj_1 H locs hp3 hH hS => ?_)
  have hH : Hold X A [toW qt Qt ((lnn : Nat) : Int) ss rs ((sj_1 : Nat) : Int) ((w : Nat) : Int), cW X (Qt 0) 400 tx, aW X (Qt 1) 4 nm, poW q Qp ((ns v : Nat) : Int) ((nr v : Nat) : Int) ((na v : Nat) : Int), aW X (Qp 0) 10 sl, aW X (Qp 1) 8 vo, aW X (Qp 2) 8 ou, aW X (Qp 3) 8 inn, aW X (Qp 4) 8 ac, aW X (Qp 5) 20 ag, aW X (Qp 6) 20 ai, aW X (Qp 7) 20 et, aW X (Qp 8) 20 xt].flatten H := hH
  rcases hp3 with ⟨rfl, b_3⟩ | ⟨rfl, b_3⟩
  · refine zv_top (z := 1) (z2 := ((1 : Nat) : Int)) rfl ?_
    obtain ⟨hq_, rfl⟩ := b_3
    have hq_ : p < lnn ∧ tx p = 32 := hq_
    refine zv_if_ne (tgt := 11) S dX3_readRole_6 (by decide) (by decide) (fun c_6 => ?_) (fun c_6 => ?_)
    · skip
      refine lv_aload_n S.1 S.2.1 dX3_readRole_11 rfl (lv_at hl 0 rfl) ?_
      refine zc_Vv (n := 0) (As := []) (rest := []) S hAM hA (kX3_readWord l X qt Qt lnn ss rs (p + 1) w tx ht (by omega)) rfl gX3_readRole_X3_readWord  (by decide +kernel) ⟨Nat.le_of_ble_eq_true rfl, Nat.le_of_ble_eq_true rfl⟩ hH hS [0, 1, 2, 3, 4, 5, 6, 7, 8, 9, 10, 11, 12] rfl 13 rfl (List.Perm.refl _) 3 0 rfl rfl rfl hl.1 rfl (Nat.le_of_ble_eq_true rfl) dX3_readRole_12 ⟨Nat.le_of_ble_eq_true rfl, Nat.le_of_ble_eq_true rfl⟩ (fun _ H locs hp6 hH hS => ?_)
      have hH : Hold X A [toW qt Qt ((lnn : Nat) : Int) ss rs ((we tx lnn (p + 1) : Nat) : Int) (((p + 1) : Nat) : Int), cW X (Qt 0) 400 tx, aW X (Qt 1) 4 nm, poW q Qp ((ns v : Nat) : Int) ((nr v : Nat) : Int) ((na v : Nat) : Int), aW X (Qp 0) 10 sl, aW X (Qp 1) 8 vo, aW X (Qp 2) 8 ou, aW X (Qp 3) 8 inn, aW X (Qp 4) 8 ac, aW X (Qp 5) 20 ag, aW X (Qp 6) 20 ai, aW X (Qp 7) 20 et, aW X (Qp 8) 20 xt].flatten H := hH
      have hle_ := we_le tx lnn _ (p + 1) rfl (by omega)
      have hge_ := we_ge tx lnn _ (p + 1) rfl
      obtain ⟨e7, he7⟩ : ∃ y_, y_ = we tx lnn (p + 1) := ⟨_, rfl⟩
      rw [← he7] at hH hle_ hge_
      have hH : Hold X A [toW qt Qt ((lnn : Nat) : Int) ss rs ((e7 : Nat) : Int) (((p + 1) : Nat) : Int), cW X (Qt 0) 400 tx, aW X (Qt 1) 4 nm, poW q Qp ((ns v : Nat) : Int) ((nr v : Nat) : Int) ((na v : Nat) : Int), aW X (Qp 0) 10 sl, aW X (Qp 1) 8 vo, aW X (Qp 2) 8 ou, aW X (Qp 3) 8 inn, aW X (Qp 4) 8 ac, aW X (Qp 5) 20 ag, aW X (Qp 6) 20 ai, aW X (Qp 7) 20 et, aW X (Qp 8) 20 xt].flatten _ := hH
      refine lv_aload_n S.1 S.2.1 dX3_readRole_15 rfl (lv_at hl 0 rfl) ?_
      refine zc_Vi (n := 0) (As := []) (rest := []) S hAM hA (kX3_wordAsVoice l X qt Qt lnn ss rs e7 (p + 1) tx ht (by omega)) rfl gX3_readRole_X3_wordAsVoice  (by decide +kernel) ⟨Nat.le_of_ble_eq_true rfl, Nat.le_of_ble_eq_true rfl⟩ hH hS [0, 1, 2, 3, 4, 5, 6, 7, 8, 9, 10, 11, 12] rfl 13 rfl (List.Perm.refl _) 3 0 rfl rfl rfl hl.1 rfl (Nat.le_of_ble_eq_true rfl) dX3_readRole_16 ⟨Nat.le_of_ble_eq_true rfl, Nat.le_of_ble_eq_true rfl⟩ (fun z9 _ H locs hp10 hH hS => ?_)
      have hH : Hold X A [toW qt Qt ((lnn : Nat) : Int) ss rs ((e7 : Nat) : Int) (((p + 1) : Nat) : Int), cW X (Qt 0) 400 tx, aW X (Qt 1) 4 nm, poW q Qp ((ns v : Nat) : Int) ((nr v : Nat) : Int) ((na v : Nat) : Int), aW X (Qp 0) 10 sl, aW X (Qp 1) 8 vo, aW X (Qp 2) 8 ou, aW X (Qp 3) 8 inn, aW X (Qp 4) 8 ac, aW X (Qp 5) 20 ag, aW X (Qp 6) 20 ai, aW X (Qp 7) 20 et, aW X (Qp 8) 20 xt].flatten H := hH
      obtain rfl := hp10
      refine lv_istore_n (lv' := [(2, .int (iI (voR tx (p + 1) (e7 - (p + 1))))), (0, .ref (qt)), (1, .ref (q))]) S.1 S.2.1 dX3_readRole_19 rfl hl (by decide) rfl (fun ls hl => ?_)
      refine lv_iload_n S.1 S.2.1 dX3_readRole_20 rfl (lv_at hl 0 rfl) ?_
      refine lv_iconst (v := iI (-1)) S.1 S.2.1 dX3_readRole_21 (by decide) ?_
      refine zv_icmp_ne (tgt := 27) S dX3_readRole_22 (by decide) (by have := voR_b tx (p + 1) (e7 - (p + 1)); omega) (by decide) (fun c_22 => ?_) (fun c_22 => ?_)
      · skip
        refine lv_aload_n S.1 S.2.1 dX3_readRole_27 rfl (lv_at hl 1 rfl) ?_
        refine lv_iconst (v := iI (((2 : Nat) : Int))) S.1 S.2.1 dX3_readRole_28 (by decide) ?_
        refine zc_Vi (n := 1) (As := [.int (iI ((2 : Nat) : Int))]) (rest := []) S hAM hA (kX3_rn2 l X qt Qt lnn ss rs e7 (p + 1) tx nm ht (by omega)) rfl gX3_readRole_X3_readNumbersAndEnd  (by decide +kernel) ⟨Nat.le_of_ble_eq_true rfl, Nat.le_of_ble_eq_true rfl⟩ hH hS [0, 1, 2, 3, 4, 5, 6, 7, 8, 9, 10, 11, 12] rfl 13 rfl (List.Perm.refl _) 3 0 rfl rfl rfl hl.1 rfl (Nat.le_of_ble_eq_true rfl) dX3_readRole_29 ⟨Nat.le_of_ble_eq_true rfl, Nat.le_of_ble_eq_true rfl⟩ (fun z15 u14 H locs hp16 hH hS => ?_)
        obtain ⟨sj_11, wj_12, nm2_13⟩ := u14
        have hH : Hold X A [toW qt Qt ((lnn : Nat) : Int) ss rs ((sj_11 : Nat) : Int) ((wj_12 : Nat) : Int), cW X (Qt 0) 400 tx, aW X (Qt 1) 4 nm2_13, poW q Qp ((ns v : Nat) : Int) ((nr v : Nat) : Int) ((na v : Nat) : Int), aW X (Qp 0) 10 sl, aW X (Qp 1) 8 vo, aW X (Qp 2) 8 ou, aW X (Qp 3) 8 inn, aW X (Qp 4) 8 ac, aW X (Qp 5) 20 ag, aW X (Qp 6) 20 ai, aW X (Qp 7) 20 et, aW X (Qp 8) 20 xt].flatten H := hH
        rcases hp16 with ⟨⟨rfl, b_29⟩ | ⟨rfl, b_29⟩, hbd_29⟩
        · refine zv_top (z := 1) (z2 := ((1 : Nat) : Int)) rfl ?_
          obtain ⟨hr_, hb0_, hb1_⟩ := b_29
          refine zv_if_ne (tgt := 37) S dX3_readRole_32 (by decide) (by decide) (fun c_32 => ?_) (fun c_32 => ?_)
          · skip
            refine lv_aload_n S.1 S.2.1 dX3_readRole_37 rfl (lv_at hl 2 rfl) ?_
            refine lv_iload_n S.1 S.2.1 dX3_readRole_38 rfl (lv_at hl 0 rfl) ?_
            refine lv_aload_n S.1 S.2.1 dX3_readRole_39 rfl (lv_at hl 1 rfl) ?_
            refine zv_get (v := .ref (Qt 1)) S hAM hH nX3_readRole_X3 0 rfl rfl 6 (by decide) mX3_readRole_1 rfl rfl dX3_readRole_40 ?_
            refine lv_iconst (v := iI (((0 : Nat) : Int))) S.1 S.2.1 dX3_readRole_43 (by decide) ?_
            refine zv_iald S hAM hH 2 rfl (0) rfl (by decide) (by decide) dX3_readRole_44 ?_
            refine lv_aload_n S.1 S.2.1 dX3_readRole_45 rfl (lv_at hl 1 rfl) ?_
            refine zv_get (v := .ref (Qt 1)) S hAM hH nX3_readRole_X3 0 rfl rfl 6 (by decide) mX3_readRole_1 rfl rfl dX3_readRole_46 ?_
            refine lv_iconst (v := iI (((1 : Nat) : Int))) S.1 S.2.1 dX3_readRole_49 (by decide) ?_
            refine zv_iald S hAM hH 2 rfl (1) rfl (by decide) (by decide) dX3_readRole_50 ?_
            refine zc_Vi (n := 3) (As := [.int (iI (voR tx (p + 1) (e7 - (p + 1)))), .int (iI (nm2_13 0)), .int (iI (nm2_13 1))]) (rest := []) S hAM hA (kX2_stateRole l X q Qp v sl vo ou inn ac ag ai et xt (voR tx (p + 1) (e7 - (p + 1))) (nm2_13 0) (nm2_13 1) hv hP (by omega) (by omega) (fun z => hact _ z)) rfl gX3_readRole_X2_stateRole  (by decide +kernel) ⟨Nat.le_of_ble_eq_true rfl, Nat.le_of_ble_eq_true rfl⟩ hH hS [3, 4, 5, 6, 7, 8, 9, 10, 11, 12, 0, 1, 2] rfl 13 rfl (by decide) 2 0 rfl rfl rfl hl.1 rfl (Nat.le_of_ble_eq_true rfl) dX3_readRole_51 ⟨Nat.le_of_ble_eq_true rfl, Nat.le_of_ble_eq_true rfl⟩ (fun z22 u21 H locs hp23 hH hS => ?_)
            obtain ⟨vo2_17, ou2_18, in2_19, ac2_20⟩ := u21
            have hH : Hold X A [poW q Qp ((ns ((roR v (voR tx (p + 1) (e7 - (p + 1))) (nm2_13 0) (nm2_13 1)).2) : Nat) : Int) ((nr ((roR v (voR tx (p + 1) (e7 - (p + 1))) (nm2_13 0) (nm2_13 1)).2) : Nat) : Int) ((na ((roR v (voR tx (p + 1) (e7 - (p + 1))) (nm2_13 0) (nm2_13 1)).2) : Nat) : Int), aW X (Qp 0) 10 sl, aW X (Qp 1) 8 vo2_17, aW X (Qp 2) 8 ou2_18, aW X (Qp 3) 8 in2_19, aW X (Qp 4) 8 ac2_20, aW X (Qp 5) 20 ag, aW X (Qp 6) 20 ai, aW X (Qp 7) 20 et, aW X (Qp 8) 20 xt, toW qt Qt ((lnn : Nat) : Int) ss rs ((sj_11 : Nat) : Int) ((wj_12 : Nat) : Int), cW X (Qt 0) 400 tx, aW X (Qt 1) 4 nm2_13].flatten H := hH
            obtain ⟨rfl, hPA_51⟩ := hp23
            have hH : Hold X A [toW qt Qt ((lnn : Nat) : Int) ss rs ((sj_11 : Nat) : Int) ((wj_12 : Nat) : Int), cW X (Qt 0) 400 tx, aW X (Qt 1) 4 nm2_13, poW q Qp ((ns ((roR v (voR tx (p + 1) (e7 - (p + 1))) (nm2_13 0) (nm2_13 1)).2) : Nat) : Int) ((nr ((roR v (voR tx (p + 1) (e7 - (p + 1))) (nm2_13 0) (nm2_13 1)).2) : Nat) : Int) ((na ((roR v (voR tx (p + 1) (e7 - (p + 1))) (nm2_13 0) (nm2_13 1)).2) : Nat) : Int), aW X (Qp 0) 10 sl, aW X (Qp 1) 8 vo2_17, aW X (Qp 2) 8 ou2_18, aW X (Qp 3) 8 in2_19, aW X (Qp 4) 8 ac2_20, aW X (Qp 5) 20 ag, aW X (Qp 6) 20 ai, aW X (Qp 7) 20 et, aW X (Qp 8) 20 xt].flatten _ := hH.pick [10, 11, 12, 0, 1, 2, 3, 4, 5, 6, 7, 8, 9] rfl 13 rfl (by decide)
            have eS := stRole_vo (v := v) hq_
            rw [← he7] at eS
            rw [if_neg c_22, stNums_ok hr_] at eS
            rw [eS] at hret
            exact hret 54 ls _ _ ((((roR v (voR tx (p + 1) (e7 - (p + 1))) (nm2_13 0) (nm2_13 1)).1 : Nat) : Int)) (sj_11, wj_12, nm2_13, vo2_17, ou2_18, in2_19, ac2_20) dX3_readRole_54 rfl ⟨rfl, hPA_51, (fun z => (if_pos z).symm), (by omega), (by omega)⟩ hH hS
          · exact (show False by omega).elim
        · refine zv_top (z := 0) (z2 := ((0 : Nat) : Int)) rfl ?_
          refine zv_if_ne (tgt := 37) S dX3_readRole_32 (by decide) (by decide) (fun c_32 => ?_) (fun c_32 => ?_)
          · exact (show False by omega).elim
          · skip
            refine lv_iconst (v := iI (((2 : Nat) : Int))) S.1 S.2.1 dX3_readRole_35 (by decide) ?_
            have eS := stRole_vo (v := v) hq_
            rw [← he7] at eS
            rw [if_neg c_22, stNums_no b_29] at eS
            rw [eS] at hret
            exact hret 36 ls _ _ (((2 : Nat) : Int)) (sj_11, wj_12, nm2_13, vo, ou, inn, ac) dX3_readRole_36 rfl ⟨rfl, hP, (fun z => absurd z (Nat.succ_ne_zero _)), (by omega), (by omega)⟩ hH hS
      · skip
        refine lv_iconst (v := iI (((1 : Nat) : Int))) S.1 S.2.1 dX3_readRole_25 (by decide) ?_
        have eS := stRole_vo (v := v) hq_
        rw [← he7] at eS
        rw [if_pos c_22] at eS
        rw [eS] at hret
        exact hret 26 ls _ _ (((1 : Nat) : Int)) (e7, (p + 1), nm, vo, ou, inn, ac) dX3_readRole_26 rfl ⟨rfl, hP, (fun z => absurd z (Nat.succ_ne_zero _)), (by omega), (by omega)⟩ hH hS
    · exact (show False by omega).elim
  · refine zv_top (z := 0) (z2 := ((0 : Nat) : Int)) rfl ?_
    obtain ⟨hq_, rfl⟩ := b_3
    have hq_ : ¬ (p < lnn ∧ tx p = 32) := hq_
    refine zv_if_ne (tgt := 11) S dX3_readRole_6 (by decide) (by decide) (fun c_6 => ?_) (fun c_6 => ?_)
    · exact (show False by omega).elim
    · skip
      refine lv_iconst (v := iI (((2 : Nat) : Int))) S.1 S.2.1 dX3_readRole_9 (by decide) ?_
      have eS := stRole_no (v := v) hq_
      rw [eS] at hret
      exact hret 10 ls _ _ (((2 : Nat) : Int)) (p, w, nm, vo, ou, inn, ac) dX3_readRole_10 rfl ⟨rfl, hP, (fun z => absurd z (Nat.succ_ne_zero _)), (by omega), (by omega)⟩ hH hS

set_option maxHeartbeats 4000000 in
set_option maxRecDepth 100000 in
theorem kX3_readStatement (l : Launch) (X : XT) (qt : Nat) (Qt : Nat → Nat) (lnn : Nat) (ss : Int) (rs : Int) (p : Nat) (w : Nat) (tx : Nat → Int) (nm : Nat → Int) (q : Nat) (Qp : Nat → Nat) (v : Nat → Int) (sl : Nat → Int) (vo : Nat → Int) (ou : Nat → Int) (inn : Nat → Int) (ac : Nat → Int) (ag : Nat → Int) (ai : Nat → Int) (et : Nat → Int) (xt : Nat → Int) (ht : okT tx lnn) (hv : okR v) (hP : PA v sl vo ou inn ac ag ai et xt) (hwp : w ≤ 400 ∧ p ≤ lnn) (hact : ∀ r, r < 8 → v (36 + r) = -1) : Ci l yX3_readStatement wsX3_readStatement (rmD 8) X [.ref qt, .ref (q)] [toW qt Qt ((lnn : Nat) : Int) ss rs ((p : Nat) : Int) ((w : Nat) : Int), cW X (Qt 0) 400 tx, aW X (Qt 1) 4 nm, poW q Qp ((ns v : Nat) : Int) ((nr v : Nat) : Int) ((na v : Nat) : Int), aW X (Qp 0) 10 sl, aW X (Qp 1) 8 vo, aW X (Qp 2) 8 ou, aW X (Qp 3) 8 inn, aW X (Qp 4) 8 ac, aW X (Qp 5) 20 ag, aW X (Qp 6) 20 ai, aW X (Qp 7) 20 et, aW X (Qp 8) 20 xt] (fun (z : Int) (u : (Nat) × (Nat) × (Nat → Int) × (Nat → Int) × (Nat → Int) × (Nat → Int) × (Nat → Int) × (Nat → Int) × (Nat → Int) × (Nat → Int) × (Nat → Int) × (Nat → Int)) => match u with | (sj, wj, nm2, sl2, vo2, ou2, inn2, ac2, ag2, ai2, et2, xt2) => z = (((stm tx lnn p v).1 : Nat) : Int) ∧ PA (stm tx lnn p v).2.2 sl2 vo2 ou2 inn2 ac2 ag2 ai2 et2 xt2 ∧ ((stm tx lnn p v).1 = 0 → sj = (stm tx lnn p v).2.1) ∧ sj ≤ lnn ∧ wj ≤ 400) (fun (u : (Nat) × (Nat) × (Nat → Int) × (Nat → Int) × (Nat → Int) × (Nat → Int) × (Nat → Int) × (Nat → Int) × (Nat → Int) × (Nat → Int) × (Nat → Int) × (Nat → Int)) => match u with | (sj, wj, nm2, sl2, vo2, ou2, inn2, ac2, ag2, ai2, et2, xt2) => [toW qt Qt ((lnn : Nat) : Int) ss rs ((sj : Nat) : Int) ((wj : Nat) : Int), cW X (Qt 0) 400 tx, aW X (Qt 1) 4 nm2, poW q Qp ((ns ((stm tx lnn p v).2.2) : Nat) : Int) ((nr ((stm tx lnn p v).2.2) : Nat) : Int) ((na ((stm tx lnn p v).2.2) : Nat) : Int), aW X (Qp 0) 10 sl2, aW X (Qp 1) 8 vo2, aW X (Qp 2) 8 ou2, aW X (Qp 3) 8 inn2, aW X (Qp 4) 8 ac2, aW X (Qp 5) 20 ag2, aW X (Qp 6) 20 ai2, aW X (Qp 7) 20 et2, aW X (Qp 8) 20 xt2]) := by
  refine Ci.ofW (cc := cX3_readStatement) (maxL := 2) (by decide) rfl (Nat.le_of_ble_eq_true rfl) ?_
  intro p_ e_ s_ m_ below meth c_ A Q_ S hA hAM hH hS hret ls hl
  have hl : lv_has ls 2 [(0, .ref (qt)), (1, .ref (q))] := hl
  have hL := ht.1
  have hk1 := hv.nr8
  have hk2 := hv.na20
  have hk3 := hv.ns10
  refine lv_aload_n S.1 S.2.1 dX3_readStatement_0 rfl (lv_at hl 0 rfl) ?_
  refine zc_Vv (n := 0) (As := []) (rest := []) S hAM hA (kX3_readWord l X qt Qt lnn ss rs p w tx ht (by omega)) rfl gX3_readStatement_X3_readWord  (by decide +kernel) ⟨Nat.le_of_ble_eq_true rfl, Nat.le_of_ble_eq_true rfl⟩ hH hS [0, 1, 2, 3, 4, 5, 6, 7, 8, 9, 10, 11, 12] rfl 13 rfl (List.Perm.refl _) 3 0 rfl rfl rfl hl.1 rfl (Nat.le_of_ble_eq_true rfl) dX3_readStatement_1 ⟨Nat.le_of_ble_eq_true rfl, Nat.le_of_ble_eq_true rfl⟩ (fun _ H locs hp3 hH hS => ?_)
  have hH : Hold X A [toW qt Qt ((lnn : Nat) : Int) ss rs ((we tx lnn p : Nat) : Int) ((p : Nat) : Int), cW X (Qt 0) 400 tx, aW X (Qt 1) 4 nm, poW q Qp ((ns v : Nat) : Int) ((nr v : Nat) : Int) ((na v : Nat) : Int), aW X (Qp 0) 10 sl, aW X (Qp 1) 8 vo, aW X (Qp 2) 8 ou, aW X (Qp 3) 8 inn, aW X (Qp 4) 8 ac, aW X (Qp 5) 20 ag, aW X (Qp 6) 20 ai, aW X (Qp 7) 20 et, aW X (Qp 8) 20 xt].flatten H := hH
  have hle_ := we_le tx lnn _ p rfl (by omega)
  have hge_ := we_ge tx lnn _ p rfl
  obtain ⟨e4, he4⟩ : ∃ y_, y_ = we tx lnn p := ⟨_, rfl⟩
  rw [← he4] at hH hle_ hge_
  have hH : Hold X A [toW qt Qt ((lnn : Nat) : Int) ss rs ((e4 : Nat) : Int) ((p : Nat) : Int), cW X (Qt 0) 400 tx, aW X (Qt 1) 4 nm, poW q Qp ((ns v : Nat) : Int) ((nr v : Nat) : Int) ((na v : Nat) : Int), aW X (Qp 0) 10 sl, aW X (Qp 1) 8 vo, aW X (Qp 2) 8 ou, aW X (Qp 3) 8 inn, aW X (Qp 4) 8 ac, aW X (Qp 5) 20 ag, aW X (Qp 6) 20 ai, aW X (Qp 7) 20 et, aW X (Qp 8) 20 xt].flatten _ := hH
  refine lv_aload_n S.1 S.2.1 dX3_readStatement_4 rfl (lv_at hl 0 rfl) ?_
  refine va_ldcS S.1 S.2.1 S.2.2.2.1 hAM.2.2.2.1.2.2.2.2.2.1 dX3_readStatement_5 ?_
  refine zc_Vi (n := 1) (As := [.ref (X.2.2.1 5)]) (rest := []) S hAM hA (kX3_wordIs l X qt Qt lnn ss rs e4 p tx 5 ht (by decide) (by omega)) rfl gX3_readStatement_X3_wordIs  (by decide +kernel) ⟨Nat.le_of_ble_eq_true rfl, Nat.le_of_ble_eq_true rfl⟩ hH hS [0, 1, 2, 3, 4, 5, 6, 7, 8, 9, 10, 11, 12] rfl 13 rfl (List.Perm.refl _) 3 0 rfl rfl rfl hl.1 rfl (Nat.le_of_ble_eq_true rfl) dX3_readStatement_7 ⟨Nat.le_of_ble_eq_true rfl, Nat.le_of_ble_eq_true rfl⟩ (fun z6 _ H locs hp7 hH hS => ?_)
  have hH : Hold X A [toW qt Qt ((lnn : Nat) : Int) ss rs ((e4 : Nat) : Int) ((p : Nat) : Int), cW X (Qt 0) 400 tx, aW X (Qt 1) 4 nm, poW q Qp ((ns v : Nat) : Int) ((nr v : Nat) : Int) ((na v : Nat) : Int), aW X (Qp 0) 10 sl, aW X (Qp 1) 8 vo, aW X (Qp 2) 8 ou, aW X (Qp 3) 8 inn, aW X (Qp 4) 8 ac, aW X (Qp 5) 20 ag, aW X (Qp 6) 20 ai, aW X (Qp 7) 20 et, aW X (Qp 8) 20 xt].flatten H := hH
  rcases hp7 with ⟨rfl, b_7⟩ | ⟨rfl, b_7⟩
  · refine zv_top (z := 1) (z2 := ((1 : Nat) : Int)) rfl ?_
    refine zv_if_eq (tgt := 19) S dX3_readStatement_10 (by decide) (by decide) (fun c_10 => ?_) (fun c_10 => ?_)
    · exact (show False by omega).elim
    · skip
      refine lv_aload_n S.1 S.2.1 dX3_readStatement_13 rfl (lv_at hl 0 rfl) ?_
      refine lv_aload_n S.1 S.2.1 dX3_readStatement_14 rfl (lv_at hl 1 rfl) ?_
      refine zc_Vi (n := 1) (As := [.ref (q)]) (rest := []) S hAM hA (kX3_readScene l X qt Qt lnn ss rs e4 p tx nm q Qp v sl vo ou inn ac ag ai et xt ht hv hP (by omega)) rfl gX3_readStatement_X3_readScene  (by decide +kernel) ⟨Nat.le_of_ble_eq_true rfl, Nat.le_of_ble_eq_true rfl⟩ hH hS [0, 1, 2, 3, 4, 5, 6, 7, 8, 9, 10, 11, 12] rfl 13 rfl (List.Perm.refl _) 3 0 rfl rfl rfl hl.1 rfl (Nat.le_of_ble_eq_true rfl) dX3_readStatement_15 ⟨Nat.le_of_ble_eq_true rfl, Nat.le_of_ble_eq_true rfl⟩ (fun z13 u12 H locs hp14 hH hS => ?_)
      obtain ⟨sj_8, wj_9, nm2_10, sl2_11⟩ := u12
      have hH : Hold X A [toW qt Qt ((lnn : Nat) : Int) ss rs ((sj_8 : Nat) : Int) ((wj_9 : Nat) : Int), cW X (Qt 0) 400 tx, aW X (Qt 1) 4 nm2_10, poW q Qp ((ns ((stScene tx lnn e4 v).2.2) : Nat) : Int) ((nr ((stScene tx lnn e4 v).2.2) : Nat) : Int) ((na ((stScene tx lnn e4 v).2.2) : Nat) : Int), aW X (Qp 0) 10 sl2_11, aW X (Qp 1) 8 vo, aW X (Qp 2) 8 ou, aW X (Qp 3) 8 inn, aW X (Qp 4) 8 ac, aW X (Qp 5) 20 ag, aW X (Qp 6) 20 ai, aW X (Qp 7) 20 et, aW X (Qp 8) 20 xt].flatten H := hH
      obtain ⟨rfl, hPA_15, hsj_15, hbd_15⟩ := hp14
      have eJ := stm_J tx lnn p v
      rw [← he4] at eJ
      rw [eJ.1 b_7] at hret
      exact hret 18 ls _ _ ((((stScene tx lnn e4 v).1 : Nat) : Int)) (sj_8, wj_9, nm2_10, sl2_11, vo, ou, inn, ac, ag, ai, et, xt) dX3_readStatement_18 rfl ⟨rfl, hPA_15, hsj_15, (by omega), (by omega)⟩ hH hS
  · refine zv_top (z := 0) (z2 := ((0 : Nat) : Int)) rfl ?_
    refine zv_if_eq (tgt := 19) S dX3_readStatement_10 (by decide) (by decide) (fun c_10 => ?_) (fun c_10 => ?_)
    · skip
      refine lv_aload_n S.1 S.2.1 dX3_readStatement_19 rfl (lv_at hl 0 rfl) ?_
      refine va_ldcS S.1 S.2.1 S.2.2.2.1 hAM.2.2.2.1.2.2.2.2.2.2.1 dX3_readStatement_20 ?_
      refine zc_Vi (n := 1) (As := [.ref (X.2.2.1 6)]) (rest := []) S hAM hA (kX3_wordIs l X qt Qt lnn ss rs e4 p tx 6 ht (by decide) (by omega)) rfl gX3_readStatement_X3_wordIs  (by decide +kernel) ⟨Nat.le_of_ble_eq_true rfl, Nat.le_of_ble_eq_true rfl⟩ hH hS [0, 1, 2, 3, 4, 5, 6, 7, 8, 9, 10, 11, 12] rfl 13 rfl (List.Perm.refl _) 3 0 rfl rfl rfl hl.1 rfl (Nat.le_of_ble_eq_true rfl) dX3_readStatement_22 ⟨Nat.le_of_ble_eq_true rfl, Nat.le_of_ble_eq_true rfl⟩ (fun z16 _ H locs hp17 hH hS => ?_)
      have hH : Hold X A [toW qt Qt ((lnn : Nat) : Int) ss rs ((e4 : Nat) : Int) ((p : Nat) : Int), cW X (Qt 0) 400 tx, aW X (Qt 1) 4 nm, poW q Qp ((ns v : Nat) : Int) ((nr v : Nat) : Int) ((na v : Nat) : Int), aW X (Qp 0) 10 sl, aW X (Qp 1) 8 vo, aW X (Qp 2) 8 ou, aW X (Qp 3) 8 inn, aW X (Qp 4) 8 ac, aW X (Qp 5) 20 ag, aW X (Qp 6) 20 ai, aW X (Qp 7) 20 et, aW X (Qp 8) 20 xt].flatten H := hH
      rcases hp17 with ⟨rfl, b_22⟩ | ⟨rfl, b_22⟩
      · refine zv_top (z := 1) (z2 := ((1 : Nat) : Int)) rfl ?_
        refine zv_if_eq (tgt := 34) S dX3_readStatement_25 (by decide) (by decide) (fun c_25 => ?_) (fun c_25 => ?_)
        · exact (show False by omega).elim
        · skip
          refine lv_aload_n S.1 S.2.1 dX3_readStatement_28 rfl (lv_at hl 0 rfl) ?_
          refine lv_aload_n S.1 S.2.1 dX3_readStatement_29 rfl (lv_at hl 1 rfl) ?_
          refine zc_Vi (n := 1) (As := [.ref (q)]) (rest := []) S hAM hA (kX3_readRole l X qt Qt lnn ss rs e4 p tx nm q Qp v sl vo ou inn ac ag ai et xt ht hv hP (by omega) hact) rfl gX3_readStatement_X3_readRole  (by decide +kernel) ⟨Nat.le_of_ble_eq_true rfl, Nat.le_of_ble_eq_true rfl⟩ hH hS [0, 1, 2, 3, 4, 5, 6, 7, 8, 9, 10, 11, 12] rfl 13 rfl (List.Perm.refl _) 3 0 rfl rfl rfl hl.1 rfl (Nat.le_of_ble_eq_true rfl) dX3_readStatement_30 ⟨Nat.le_of_ble_eq_true rfl, Nat.le_of_ble_eq_true rfl⟩ (fun z26 u25 H locs hp27 hH hS => ?_)
          obtain ⟨sj_18, wj_19, nm2_20, vo2_21, ou2_22, inn2_23, ac2_24⟩ := u25
          have hH : Hold X A [toW qt Qt ((lnn : Nat) : Int) ss rs ((sj_18 : Nat) : Int) ((wj_19 : Nat) : Int), cW X (Qt 0) 400 tx, aW X (Qt 1) 4 nm2_20, poW q Qp ((ns ((stRole tx lnn e4 v).2.2) : Nat) : Int) ((nr ((stRole tx lnn e4 v).2.2) : Nat) : Int) ((na ((stRole tx lnn e4 v).2.2) : Nat) : Int), aW X (Qp 0) 10 sl, aW X (Qp 1) 8 vo2_21, aW X (Qp 2) 8 ou2_22, aW X (Qp 3) 8 inn2_23, aW X (Qp 4) 8 ac2_24, aW X (Qp 5) 20 ag, aW X (Qp 6) 20 ai, aW X (Qp 7) 20 et, aW X (Qp 8) 20 xt].flatten H := hH
          obtain ⟨rfl, hPA_30, hsj_30, hbd_30⟩ := hp27
          have eJ := stm_J tx lnn p v
          rw [← he4] at eJ
          rw [eJ.2.1 b_7 b_22] at hret
          exact hret 33 ls _ _ ((((stRole tx lnn e4 v).1 : Nat) : Int)) (sj_18, wj_19, nm2_20, sl, vo2_21, ou2_22, inn2_23, ac2_24, ag, ai, et, xt) dX3_readStatement_33 rfl ⟨rfl, hPA_30, hsj_30, (by omega), (by omega)⟩ hH hS
      · refine zv_top (z := 0) (z2 := ((0 : Nat) : Int)) rfl ?_
        refine zv_if_eq (tgt := 34) S dX3_readStatement_25 (by decide) (by decide) (fun c_25 => ?_) (fun c_25 => ?_)
        · skip
          refine lv_aload_n S.1 S.2.1 dX3_readStatement_34 rfl (lv_at hl 0 rfl) ?_
          refine va_ldcS S.1 S.2.1 S.2.2.2.1 hAM.2.2.2.1.2.2.2.2.2.2.2.1 dX3_readStatement_35 ?_
          refine zc_Vi (n := 1) (As := [.ref (X.2.2.1 7)]) (rest := []) S hAM hA (kX3_wordIs l X qt Qt lnn ss rs e4 p tx 7 ht (by decide) (by omega)) rfl gX3_readStatement_X3_wordIs  (by decide +kernel) ⟨Nat.le_of_ble_eq_true rfl, Nat.le_of_ble_eq_true rfl⟩ hH hS [0, 1, 2, 3, 4, 5, 6, 7, 8, 9, 10, 11, 12] rfl 13 rfl (List.Perm.refl _) 3 0 rfl rfl rfl hl.1 rfl (Nat.le_of_ble_eq_true rfl) dX3_readStatement_37 ⟨Nat.le_of_ble_eq_true rfl, Nat.le_of_ble_eq_true rfl⟩ (fun z29 _ H locs hp30 hH hS => ?_)
          have hH : Hold X A [toW qt Qt ((lnn : Nat) : Int) ss rs ((e4 : Nat) : Int) ((p : Nat) : Int), cW X (Qt 0) 400 tx, aW X (Qt 1) 4 nm, poW q Qp ((ns v : Nat) : Int) ((nr v : Nat) : Int) ((na v : Nat) : Int), aW X (Qp 0) 10 sl, aW X (Qp 1) 8 vo, aW X (Qp 2) 8 ou, aW X (Qp 3) 8 inn, aW X (Qp 4) 8 ac, aW X (Qp 5) 20 ag, aW X (Qp 6) 20 ai, aW X (Qp 7) 20 et, aW X (Qp 8) 20 xt].flatten H := hH
          rcases hp30 with ⟨rfl, b_37⟩ | ⟨rfl, b_37⟩
          · refine zv_top (z := 1) (z2 := ((1 : Nat) : Int)) rfl ?_
            refine zv_if_eq (tgt := 49) S dX3_readStatement_40 (by decide) (by decide) (fun c_40 => ?_) (fun c_40 => ?_)
            · exact (show False by omega).elim
            · skip
              refine lv_aload_n S.1 S.2.1 dX3_readStatement_43 rfl (lv_at hl 0 rfl) ?_
              refine lv_aload_n S.1 S.2.1 dX3_readStatement_44 rfl (lv_at hl 1 rfl) ?_
              refine zc_Vi (n := 1) (As := [.ref (q)]) (rest := []) S hAM hA (kX3_readEnter l X qt Qt lnn ss rs e4 p tx nm q Qp v sl vo ou inn ac ag ai et xt ht hv hP (by omega)) rfl gX3_readStatement_X3_readEnter  (by decide +kernel) ⟨Nat.le_of_ble_eq_true rfl, Nat.le_of_ble_eq_true rfl⟩ hH hS [0, 1, 2, 3, 4, 5, 6, 7, 8, 9, 10, 11, 12] rfl 13 rfl (List.Perm.refl _) 3 0 rfl rfl rfl hl.1 rfl (Nat.le_of_ble_eq_true rfl) dX3_readStatement_45 ⟨Nat.le_of_ble_eq_true rfl, Nat.le_of_ble_eq_true rfl⟩ (fun z39 u38 H locs hp40 hH hS => ?_)
              obtain ⟨sj_31, wj_32, nm2_33, ag2_34, ai2_35, et2_36, xt2_37⟩ := u38
              have hH : Hold X A [toW qt Qt ((lnn : Nat) : Int) ss rs ((sj_31 : Nat) : Int) ((wj_32 : Nat) : Int), cW X (Qt 0) 400 tx, aW X (Qt 1) 4 nm2_33, poW q Qp ((ns ((stEnter tx lnn e4 v).2.2) : Nat) : Int) ((nr ((stEnter tx lnn e4 v).2.2) : Nat) : Int) ((na ((stEnter tx lnn e4 v).2.2) : Nat) : Int), aW X (Qp 0) 10 sl, aW X (Qp 1) 8 vo, aW X (Qp 2) 8 ou, aW X (Qp 3) 8 inn, aW X (Qp 4) 8 ac, aW X (Qp 5) 20 ag2_34, aW X (Qp 6) 20 ai2_35, aW X (Qp 7) 20 et2_36, aW X (Qp 8) 20 xt2_37].flatten H := hH
              obtain ⟨rfl, hPA_45, hsj_45, hbd_45⟩ := hp40
              have eJ := stm_J tx lnn p v
              rw [← he4] at eJ
              rw [eJ.2.2.1 b_7 b_22 b_37] at hret
              exact hret 48 ls _ _ ((((stEnter tx lnn e4 v).1 : Nat) : Int)) (sj_31, wj_32, nm2_33, sl, vo, ou, inn, ac, ag2_34, ai2_35, et2_36, xt2_37) dX3_readStatement_48 rfl ⟨rfl, hPA_45, hsj_45, (by omega), (by omega)⟩ hH hS
          · refine zv_top (z := 0) (z2 := ((0 : Nat) : Int)) rfl ?_
            refine zv_if_eq (tgt := 49) S dX3_readStatement_40 (by decide) (by decide) (fun c_40 => ?_) (fun c_40 => ?_)
            · skip
              refine lv_iconst (v := iI (((1 : Nat) : Int))) S.1 S.2.1 dX3_readStatement_49 (by decide) ?_
              have eJ := stm_J tx lnn p v
              rw [← he4] at eJ
              rw [eJ.2.2.2 b_7 b_22 b_37] at hret
              exact hret 50 ls _ _ (((1 : Nat) : Int)) (e4, p, nm, sl, vo, ou, inn, ac, ag, ai, et, xt) dX3_readStatement_50 rfl ⟨rfl, hP, (fun z => absurd z (Nat.succ_ne_zero _)), (by omega), (by omega)⟩ hH hS
            · exact (show False by omega).elim
        · exact (show False by omega).elim
    · exact (show False by omega).elim

theorem mX3_readInto_1 : Cond.fieldLink RX3 41 "RoleDoublingPlanner$PlayText" "place" "I" ∈ wsX3_readInto := List.mem_of_getElem? (i := 1) rfl
theorem nX3_readInto_X3 : ∀ w ∈ wsX30, w ∈ wsX3_readInto := fun _ h => List.mem_cons_of_mem _ (List.mem_append_left _ (List.mem_append_right _ h))
theorem mX3_readInto_2 : Cond.fieldLink RX3 44 "RoleDoublingPlanner$PlayText" "reason" "I" ∈ wsX3_readInto := List.mem_of_getElem? (i := 2) rfl
theorem mX3_readInto_3 : Cond.fieldLink RX3 19 "RoleDoublingPlanner$PlayText" "length" "I" ∈ wsX3_readInto := List.mem_of_getElem? (i := 3) rfl
theorem mX3_readInto_4 : Cond.fieldLink RX3 47 "RoleDoublingPlanner$PlayText" "statementStart" "I" ∈ wsX3_readInto := List.mem_of_getElem? (i := 4) rfl
set_option maxHeartbeats 4000000 in
set_option maxRecDepth 100000 in
theorem kX3_readInto (l : Launch) (X : XT) (qt : Nat) (Qt : Nat → Nat) (lnn : Nat) (ss : Int) (rs : Int) (p : Int) (w : Nat) (tx : Nat → Int) (nm : Nat → Int) (q : Nat) (Qp : Nat → Nat) (sc : Int) (ro : Int) (ap : Int) (sl : Nat → Int) (vo : Nat → Int) (ou : Nat → Int) (inn : Nat → Int) (ac : Nat → Int) (ag : Nat → Int) (ai : Nat → Int) (et : Nat → Int) (xt : Nat → Int) (ht : okT tx lnn) (hw : w ≤ 400) : Cv l yX3_readInto wsX3_readInto (rmD 9) X [.ref qt, .ref (q)] [toW qt Qt ((lnn : Nat) : Int) ss rs p ((w : Nat) : Int), cW X (Qt 0) 400 tx, aW X (Qt 1) 4 nm, poW q Qp sc ro ap, aW X (Qp 0) 10 sl, aW X (Qp 1) 8 vo, aW X (Qp 2) 8 ou, aW X (Qp 3) 8 inn, aW X (Qp 4) 8 ac, aW X (Qp 5) 20 ag, aW X (Qp 6) 20 ai, aW X (Qp 7) 20 et, aW X (Qp 8) 20 xt] (fun (u : (Int) × (Nat) × (Nat) × (Nat) × (Nat → Int) × (Nat → Int) × (Nat → Int) × (Nat → Int) × (Nat → Int) × (Nat → Int) × (Nat → Int) × (Nat → Int) × (Nat → Int) × (Nat → Int)) => match u with | (s2, r2, p2, w2, nm2, sl2, vo2, ou2, inn2, ac2, ag2, ai2, et2, xt2) => PA (rdA tx lnn).2.2 sl2 vo2 ou2 inn2 ac2 ag2 ai2 et2 xt2 ∧ ((r2 = 0 ∧ (rdA tx lnn).1 = -1004) ∨ (r2 ≠ 0 ∧ (rdA tx lnn).1 = s2 ∧ (rdA tx lnn).2.1 = r2 ∧ 0 ≤ s2)) ∧ r2 ≤ 4 ∧ w2 ≤ 400 ∧ (∀ r, r < 8 → (rdA tx lnn).2.2 (36 + r) = -1) ∧ (r2 ≠ 0 → s2 ≤ 400)) (fun (u : (Int) × (Nat) × (Nat) × (Nat) × (Nat → Int) × (Nat → Int) × (Nat → Int) × (Nat → Int) × (Nat → Int) × (Nat → Int) × (Nat → Int) × (Nat → Int) × (Nat → Int) × (Nat → Int)) => match u with | (s2, r2, p2, w2, nm2, sl2, vo2, ou2, inn2, ac2, ag2, ai2, et2, xt2) => [toW qt Qt ((lnn : Nat) : Int) s2 ((r2 : Nat) : Int) ((p2 : Nat) : Int) ((w2 : Nat) : Int), cW X (Qt 0) 400 tx, aW X (Qt 1) 4 nm2, poW q Qp ((ns ((rdA tx lnn).2.2) : Nat) : Int) ((nr ((rdA tx lnn).2.2) : Nat) : Int) ((na ((rdA tx lnn).2.2) : Nat) : Int), aW X (Qp 0) 10 sl2, aW X (Qp 1) 8 vo2, aW X (Qp 2) 8 ou2, aW X (Qp 3) 8 inn2, aW X (Qp 4) 8 ac2, aW X (Qp 5) 20 ag2, aW X (Qp 6) 20 ai2, aW X (Qp 7) 20 et2, aW X (Qp 8) 20 xt2]) := by
  refine Cv.ofW (cc := cX3_readInto) (maxL := 3) (by decide) rfl (Nat.le_of_ble_eq_true rfl) ?_
  intro p_ e_ s_ m_ below meth c_ A Q_ S hA hAM hH hS hmn hret ls hl
  have hl : lv_has ls 3 [(0, .ref (qt)), (1, .ref (q))] := hl
  have hL := ht.1
  refine lv_aload_n S.1 S.2.1 dX3_readInto_0 rfl (lv_at hl 1 rfl) ?_
  refine zc_Vv (n := 0) (As := []) (rest := []) S hAM hA (kX2_makeEmpty l X q Qp sc ro ap ) rfl gX3_readInto_X2_makeEmpty  (by decide +kernel) ⟨Nat.le_of_ble_eq_true rfl, Nat.le_of_ble_eq_true rfl⟩ hH hS [3, 0, 1, 2, 4, 5, 6, 7, 8, 9, 10, 11, 12] rfl 13 rfl (by decide) 2 0 rfl rfl rfl hl.1 rfl (Nat.le_of_ble_eq_true rfl) dX3_readInto_1 ⟨Nat.le_of_ble_eq_true rfl, Nat.le_of_ble_eq_true rfl⟩ (fun _ H locs hp3 hH hS => ?_)
  have hH : Hold X A [poW q Qp ((0 : Nat) : Int) ((0 : Nat) : Int) ((0 : Nat) : Int), toW qt Qt ((lnn : Nat) : Int) ss rs p ((w : Nat) : Int), cW X (Qt 0) 400 tx, aW X (Qt 1) 4 nm, aW X (Qp 0) 10 sl, aW X (Qp 1) 8 vo, aW X (Qp 2) 8 ou, aW X (Qp 3) 8 inn, aW X (Qp 4) 8 ac, aW X (Qp 5) 20 ag, aW X (Qp 6) 20 ai, aW X (Qp 7) 20 et, aW X (Qp 8) 20 xt].flatten H := hH
  refine lv_aload_n S.1 S.2.1 dX3_readInto_4 rfl (lv_at hl 0 rfl) ?_
  refine lv_iconst (v := iI (((0 : Nat) : Int))) S.1 S.2.1 dX3_readInto_5 (by decide) ?_
  refine zv_put (v := .int (iI ((0 : Nat) : Int))) (w2 := [poW q Qp ((0 : Nat) : Int) ((0 : Nat) : Int) ((0 : Nat) : Int), toW qt Qt ((lnn : Nat) : Int) ss rs ((0 : Nat) : Int) ((w : Nat) : Int), cW X (Qt 0) 400 tx, aW X (Qt 1) 4 nm, aW X (Qp 0) 10 sl, aW X (Qp 1) 8 vo, aW X (Qp 2) 8 ou, aW X (Qp 3) 8 inn, aW X (Qp 4) 8 ac, aW X (Qp 5) 20 ag, aW X (Qp 6) 20 ai, aW X (Qp 7) 20 et, aW X (Qp 8) 20 xt].flatten) S hAM hH hS nX3_readInto_X3 tyX3 tyX3_ok nmX3 1 rfl rfl 4 (by decide) mX3_readInto_1 rfl rfl rfl rfl (Nat.le_of_ble_eq_true rfl) rfl dX3_readInto_6 (fun H locs hH hS => ?_)
  refine lv_aload_n S.1 S.2.1 dX3_readInto_9 rfl (lv_at hl 0 rfl) ?_
  refine lv_iconst (v := iI (((0 : Nat) : Int))) S.1 S.2.1 dX3_readInto_10 (by decide) ?_
  refine zv_put (v := .int (iI ((0 : Nat) : Int))) (w2 := [poW q Qp ((0 : Nat) : Int) ((0 : Nat) : Int) ((0 : Nat) : Int), toW qt Qt ((lnn : Nat) : Int) ss ((0 : Nat) : Int) ((0 : Nat) : Int) ((w : Nat) : Int), cW X (Qt 0) 400 tx, aW X (Qt 1) 4 nm, aW X (Qp 0) 10 sl, aW X (Qp 1) 8 vo, aW X (Qp 2) 8 ou, aW X (Qp 3) 8 inn, aW X (Qp 4) 8 ac, aW X (Qp 5) 20 ag, aW X (Qp 6) 20 ai, aW X (Qp 7) 20 et, aW X (Qp 8) 20 xt].flatten) S hAM hH hS nX3_readInto_X3 tyX3 tyX3_ok nmX3 1 rfl rfl 3 (by decide) mX3_readInto_2 rfl rfl rfl rfl (Nat.le_of_ble_eq_true rfl) rfl dX3_readInto_11 (fun H locs hH hS => ?_)
  refine lv_iconst (v := iI (((0 : Nat) : Int))) S.1 S.2.1 dX3_readInto_14 (by decide) ?_
  refine lv_istore_n (lv' := [(2, .int (iI ((0 : Nat) : Int))), (0, .ref (qt)), (1, .ref (q))]) S.1 S.2.1 dX3_readInto_15 rfl hl (by decide) rfl (fun ls hl => ?_)
  have hH : Hold X A [toW qt Qt ((lnn : Nat) : Int) ss ((0 : Nat) : Int) ((0 : Nat) : Int) ((w : Nat) : Int), cW X (Qt 0) 400 tx, aW X (Qt 1) 4 nm, poW q Qp ((0 : Nat) : Int) ((0 : Nat) : Int) ((0 : Nat) : Int), aW X (Qp 0) 10 sl, aW X (Qp 1) 8 vo, aW X (Qp 2) 8 ou, aW X (Qp 3) 8 inn, aW X (Qp 4) 8 ac, aW X (Qp 5) 20 ag, aW X (Qp 6) 20 ai, aW X (Qp 7) 20 et, aW X (Qp 8) 20 xt].flatten _ := hH.pick [1, 2, 3, 0, 4, 5, 6, 7, 8, 9, 10, 11, 12] rfl 13 rfl (by decide)
  have lp16 : ∀ (fu_ : Nat) (n : Nat) (s1 : Int) (r1 : Nat) (p1 : Nat) (w1 : Nat) (nm1 : Nat → Int) (v : Nat → Int) (sl1 : Nat → Int) (vo1 : Nat → Int) (ou1 : Nat → Int) (inn1 : Nat → Int) (ac1 : Nat → Int) (ag1 : Nat → Int) (ai1 : Nat → Int) (et1 : Nat → Int) (xt1 : Nat → Int), (if r1 = 0 then lnn + 1 - p1 else 0) < fu_ → (okR v) → (PA v sl1 vo1 ou1 inn1 ac1 ag1 ai1 et1 xt1) → (∀ r, r < 8 → v (36 + r) = -1) → (n ≤ 400) → (p1 ≤ lnn ∧ w1 ≤ 400 ∧ r1 ≤ 4) → (rdI tx lnn p1 n s1 r1 v) → (r1 ≠ 0 → s1 ≤ 400) → ∀ (H : Heap) (locs : List Loc), Hold X A [toW qt Qt ((lnn : Nat) : Int) s1 ((r1 : Nat) : Int) ((p1 : Nat) : Int) ((w1 : Nat) : Int), cW X (Qt 0) 400 tx, aW X (Qt 1) 4 nm1, poW q Qp ((ns v : Nat) : Int) ((nr v : Nat) : Int) ((na v : Nat) : Int), aW X (Qp 0) 10 sl1, aW X (Qp 1) 8 vo1, aW X (Qp 2) 8 ou1, aW X (Qp 3) 8 inn1, aW X (Qp 4) 8 ac1, aW X (Qp 5) 20 ag1, aW X (Qp 6) 20 ai1, aW X (Qp 7) 20 et1, aW X (Qp 8) 20 xt1].flatten H → va_S A s_.heap H locs → ∀ ls : Array Slot, lv_has ls 3 [(2, .int (iI ((n : Nat) : Int))), (0, .ref (qt)), (1, .ref (q))] → W p_ l e_ (rmD 9) s_ m_ (List.toArray [.ref (qt), .ref (q)]) below meth c_ H locs 0 0 Q_ (F0 m_ 16 ls []) := by
    intro fu_
    induction fu_ with
    | zero => intro n s1 r1 p1 w1 nm1 v sl1 vo1 ou1 inn1 ac1 ag1 ai1 et1 xt1 hmu hv hP hact hn4 hb hI hs4 H locs hH hS ls hl; exact absurd hmu (Nat.not_lt_zero _)
    | succ fu_ ih16 => 
      intro n s1 r1 p1 w1 nm1 v sl1 vo1 ou1 inn1 ac1 ag1 ai1 et1 xt1 hmu hv hP hact hn4 hb hI hs4 H locs hH hS ls hl
      have hk := hv.nr8
      have hgd := stm_good (t := tx) (L := lnn) (p := p1) hv
      have hac2 := stm_act (t := tx) (L := lnn) (p := p1) hv hact
      refine lv_iload_n S.1 S.2.1 dX3_readInto_16 rfl (lv_at hl 0 rfl) ?_
      refine lv_sipush (v := iI (((400 : Nat) : Int))) S.1 S.2.1 dX3_readInto_17 (by decide) ?_
      refine zv_icmp_ge (tgt := 64) S dX3_readInto_20 (by decide) (by omega) (by decide) (fun c_20 => ?_) (fun c_20 => ?_)
      · skip
        have hE := rdI_e hI (by intro z; rcases hI with ⟨_, _, z2⟩ | ⟨z2, _⟩; (· omega); (· exact absurd z z2))
        rw [hE.1] at hret
        exact hret 64 ls _ _ (s1, r1, p1, w1, nm1, sl1, vo1, ou1, inn1, ac1, ag1, ai1, et1, xt1) dX3_readInto_64 ⟨hP, hE.2, hb.2.2, hb.2.1, hact, hs4⟩ hH hS
      · skip
        refine lv_aload_n S.1 S.2.1 dX3_readInto_23 rfl (lv_at hl 1 rfl) ?_
        refine zv_get (v := .int (iI ((p1 : Nat) : Int))) S hAM hH nX3_readInto_X3 0 rfl rfl 4 (by decide) mX3_readInto_1 rfl rfl dX3_readInto_24 ?_
        refine lv_aload_n S.1 S.2.1 dX3_readInto_27 rfl (lv_at hl 1 rfl) ?_
        refine zv_get (v := .int (iI ((lnn : Nat) : Int))) S hAM hH nX3_readInto_X3 0 rfl rfl 1 (by decide) mX3_readInto_3 rfl rfl dX3_readInto_28 ?_
        refine zv_icmp_ge (tgt := 64) S dX3_readInto_31 (by decide) (by omega) (by omega) (fun c_31 => ?_) (fun c_31 => ?_)
        · skip
          have hE := rdI_e hI (by intro z; rcases hI with ⟨_, _, z2⟩ | ⟨z2, _⟩; (· omega); (· exact absurd z z2))
          rw [hE.1] at hret
          exact hret 64 ls _ _ (s1, r1, p1, w1, nm1, sl1, vo1, ou1, inn1, ac1, ag1, ai1, et1, xt1) dX3_readInto_64 ⟨hP, hE.2, hb.2.2, hb.2.1, hact, hs4⟩ hH hS
        · skip
          refine lv_aload_n S.1 S.2.1 dX3_readInto_34 rfl (lv_at hl 1 rfl) ?_
          refine zv_get (v := .int (iI ((r1 : Nat) : Int))) S hAM hH nX3_readInto_X3 0 rfl rfl 3 (by decide) mX3_readInto_2 rfl rfl dX3_readInto_35 ?_
          refine zv_if_ne (tgt := 64) S dX3_readInto_38 (by decide) (by omega) (fun c_38 => ?_) (fun c_38 => ?_)
          · skip
            have hE := rdI_e hI (by intro z; rcases hI with ⟨_, _, z2⟩ | ⟨z2, _⟩; (· omega); (· exact absurd z z2))
            rw [hE.1] at hret
            exact hret 64 ls _ _ (s1, r1, p1, w1, nm1, sl1, vo1, ou1, inn1, ac1, ag1, ai1, et1, xt1) dX3_readInto_64 ⟨hP, hE.2, hb.2.2, hb.2.1, hact, hs4⟩ hH hS
          · skip
            obtain rfl : r1 = 0 := by omega
            refine lv_aload_n S.1 S.2.1 dX3_readInto_41 rfl (lv_at hl 1 rfl) ?_
            refine lv_aload_n S.1 S.2.1 dX3_readInto_42 rfl (lv_at hl 1 rfl) ?_
            refine zv_get (v := .int (iI ((p1 : Nat) : Int))) S hAM hH nX3_readInto_X3 0 rfl rfl 4 (by decide) mX3_readInto_1 rfl rfl dX3_readInto_43 ?_
            refine zv_put (v := .int (iI ((p1 : Nat) : Int))) (w2 := [toW qt Qt ((lnn : Nat) : Int) ((p1 : Nat) : Int) ((0 : Nat) : Int) ((p1 : Nat) : Int) ((w1 : Nat) : Int), cW X (Qt 0) 400 tx, aW X (Qt 1) 4 nm1, poW q Qp ((ns v : Nat) : Int) ((nr v : Nat) : Int) ((na v : Nat) : Int), aW X (Qp 0) 10 sl1, aW X (Qp 1) 8 vo1, aW X (Qp 2) 8 ou1, aW X (Qp 3) 8 inn1, aW X (Qp 4) 8 ac1, aW X (Qp 5) 20 ag1, aW X (Qp 6) 20 ai1, aW X (Qp 7) 20 et1, aW X (Qp 8) 20 xt1].flatten) S hAM hH hS nX3_readInto_X3 tyX3 tyX3_ok nmX3 0 rfl rfl 2 (by decide) mX3_readInto_4 rfl rfl rfl rfl (Nat.le_of_ble_eq_true rfl) rfl dX3_readInto_46 (fun H locs hH hS => ?_)
            refine lv_aload_n S.1 S.2.1 dX3_readInto_49 rfl (lv_at hl 1 rfl) ?_
            refine lv_aload_n S.1 S.2.1 dX3_readInto_50 rfl (lv_at hl 1 rfl) ?_
            refine lv_aload_n S.1 S.2.1 dX3_readInto_51 rfl (lv_at hl 2 rfl) ?_
            refine zc_Vi (n := 1) (As := [.ref (q)]) (rest := [.ref (qt)]) S hAM hA (kX3_readStatement l X qt Qt lnn ((p1 : Nat) : Int) ((0 : Nat) : Int) p1 w1 tx nm1 q Qp v sl1 vo1 ou1 inn1 ac1 ag1 ai1 et1 xt1 ht hv hP (by omega) hact) rfl gX3_readInto_X3_readStatement  (by decide +kernel) ⟨Nat.le_of_ble_eq_true rfl, Nat.le_of_ble_eq_true rfl⟩ hH hS [0, 1, 2, 3, 4, 5, 6, 7, 8, 9, 10, 11, 12] rfl 13 rfl (List.Perm.refl _) 3 0 rfl rfl rfl hl.1 rfl (Nat.le_of_ble_eq_true rfl) dX3_readInto_52 ⟨Nat.le_of_ble_eq_true rfl, Nat.le_of_ble_eq_true rfl⟩ (fun z17 u16 H locs hp18 hH hS => ?_)
            obtain ⟨sj_4, wj_5, nm2_6, sl2_7, vo2_8, ou2_9, inn2_10, ac2_11, ag2_12, ai2_13, et2_14, xt2_15⟩ := u16
            have hH : Hold X A [toW qt Qt ((lnn : Nat) : Int) ((p1 : Nat) : Int) ((0 : Nat) : Int) ((sj_4 : Nat) : Int) ((wj_5 : Nat) : Int), cW X (Qt 0) 400 tx, aW X (Qt 1) 4 nm2_6, poW q Qp ((ns ((stm tx lnn p1 v).2.2) : Nat) : Int) ((nr ((stm tx lnn p1 v).2.2) : Nat) : Int) ((na ((stm tx lnn p1 v).2.2) : Nat) : Int), aW X (Qp 0) 10 sl2_7, aW X (Qp 1) 8 vo2_8, aW X (Qp 2) 8 ou2_9, aW X (Qp 3) 8 inn2_10, aW X (Qp 4) 8 ac2_11, aW X (Qp 5) 20 ag2_12, aW X (Qp 6) 20 ai2_13, aW X (Qp 7) 20 et2_14, aW X (Qp 8) 20 xt2_15].flatten H := hH
            obtain ⟨rfl, hPA_52, hsj_52, hbd_52⟩ := hp18
            refine zv_put (v := .int (iI (((stm tx lnn p1 v).1 : Nat) : Int))) (w2 := [toW qt Qt ((lnn : Nat) : Int) ((p1 : Nat) : Int) (((stm tx lnn p1 v).1 : Nat) : Int) ((sj_4 : Nat) : Int) ((wj_5 : Nat) : Int), cW X (Qt 0) 400 tx, aW X (Qt 1) 4 nm2_6, poW q Qp ((ns ((stm tx lnn p1 v).2.2) : Nat) : Int) ((nr ((stm tx lnn p1 v).2.2) : Nat) : Int) ((na ((stm tx lnn p1 v).2.2) : Nat) : Int), aW X (Qp 0) 10 sl2_7, aW X (Qp 1) 8 vo2_8, aW X (Qp 2) 8 ou2_9, aW X (Qp 3) 8 inn2_10, aW X (Qp 4) 8 ac2_11, aW X (Qp 5) 20 ag2_12, aW X (Qp 6) 20 ai2_13, aW X (Qp 7) 20 et2_14, aW X (Qp 8) 20 xt2_15].flatten) S hAM hH hS nX3_readInto_X3 tyX3 tyX3_ok nmX3 0 rfl rfl 3 (by decide) mX3_readInto_2 rfl rfl rfl rfl (Nat.le_of_ble_eq_true rfl) rfl dX3_readInto_55 (fun H locs hH hS => ?_)
            refine zv_iinc (z := (((n + 1) : Nat) : Int)) (lv' := [(2, .int (iI (((n + 1) : Nat) : Int))), (0, .ref (qt)), (1, .ref (q))]) S dX3_readInto_58 hl (k := 0) rfl (by omega) (by decide) rfl (fun ls hl => ?_)
            refine lv_goto (tgt := 16) S.1 S.2.1 dX3_readInto_61 (by decide) ?_
            exact ih16  ((n + 1)) (((p1 : Nat) : Int)) ((stm tx lnn p1 v).1) (sj_4) (wj_5) (nm2_6) ((stm tx lnn p1 v).2.2) (sl2_7) (vo2_8) (ou2_9) (inn2_10) (ac2_11) (ag2_12) (ai2_13) (et2_14) (xt2_15) (by rw [if_pos rfl] at hmu; by_cases z : (stm tx lnn p1 v).1 = 0; (· rw [if_pos z]; have := hgd.1 z; have := hsj_52 z; omega); (· rw [if_neg z]; omega)) (by by_cases z : (stm tx lnn p1 v).1 = 0; (· exact (hgd.1 z).2.2); (· rw [hgd.2.1 z]; exact hv)) hPA_52 hac2 (by omega) (by have := hgd.2.2; omega) (rdI_s hv hI (by omega) (by rcases hI with ⟨_, _, z⟩ | ⟨z, _⟩; (· exact z); (· exact absurd rfl z)) hsj_52) (fun _ => by omega) _ _ hH hS ls (lv_sub hl [0, 1, 2] rfl)
  exact lp16 ((if (0) = 0 then lnn + 1 - (0) else 0) + 1) (0) (ss) (0) (0) (w) (nm) (eR) (sl) (vo) (ou) (inn) (ac) (ag) (ai) (et) (xt) (Nat.lt_succ_self _) okR_eR (⟨fun i hi => absurd hi (Nat.not_lt_zero _), fun i hi => absurd hi (Nat.not_lt_zero _), fun i hi => absurd hi (Nat.not_lt_zero _)⟩) (by decide) (by omega) (by omega) (rdI_0 _ _ _) (fun z => absurd rfl z) _ _ hH hS ls (lv_sub hl [0, 1, 2] rfl)
