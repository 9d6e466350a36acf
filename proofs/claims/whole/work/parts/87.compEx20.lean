set_option maxHeartbeats 8000000 in
set_option maxRecDepth 100000 in
theorem arm_20 {p_ : Program} {l : Launch} {e_ : Env} {s_ : State} {m_ : MethodId} {below : List Frame} {meth : Method} {c_ : Code} {Q_ : State → Prop} {X : XT} {A : Nat → Prop} {b L : Nat} {xs : Nat → Int32} {h h6 i : Nat} {H : Heap} {locs : List Loc} {ls : Array Slot} (S : CallFix p_ m_ c_ cL_law 4 s_ #[Value.ref b] wsL_law RL) (hA : ∀ q, s_.heap.size ≤ q → A q) (hAM : AM X A s_) (hX : va_X b L xs s_ s_.heap) (hbl : b < s_.heap.size) (hbA : ¬ A b) (hL : L ≤ 2560) (hi : i + 5 ≤ L) (hnext : ∀ (H : Heap) (locs : List Loc), LI X A h h6 H → va_S A s_.heap H locs → ∀ ls : Array Slot, lv_has ls 4 [(3, .int (iI ((i : Nat) : Int))), (0, .ref (b)), (1, .ref (h)), (2, .ref (h6))] → W p_ l e_ room_1 s_ m_ #[Value.ref b] below meth c_ H locs 96 2756 Q_ (F0 m_ 798 ls [])) (hI : LI X A h h6 H) (hS : va_S A s_.heap H locs) (hl : lv_has ls 4 [(3, .int (iI ((i : Nat) : Int))), (0, .ref (b)), (1, .ref (h)), (2, .ref (h6))]) : W p_ l e_ room_1 s_ m_ #[Value.ref b] below meth c_ H locs 96 2756 Q_ (F0 m_ 588 ls []) := by
  obtain ⟨qt, q1, q, qs, qc, qh, Qt, Q1, Qp, qT, Qs, Qc, qa, P, PQ, D, lnn, ss, rs, p2, w, tx, nm, c1, r1, a1, usl, uvo, uou, uinn, uac, uag, uai, uet, uxt, T, v, sl, vo, ou, inn, ac, ag, ai, et, xt, m0, riv, roa, kn, Q6, rd, kp, t6, sp, r6, wi, gi, hH, hg, hK, hP, hT, hHR, hw, ht, ht6, hcg, hgi⟩ := hI
  have hv := hg.1
  have hs := hg.1
  have hn1 := hg.2.1
  have hC := hg.2.2
  have hkn := hK.1
  have hk1 := hv.nr8
  have hl0 := ht.1
  have x1_ := inR_toInt (xs (i + 1))
  have x2_ := inR_toInt (xs (i + 2))
  have x3_ := inR_toInt (xs (i + 3))
  have x4_ := inR_toInt (xs (i + 4))
  refine lv_aload_n S.1 S.2.1 dL_law_588 rfl (lv_at hl 2 rfl) ?_
  refine lv_aload_n S.1 S.2.1 dL_law_589 rfl (lv_at hl 1 rfl) ?_
  refine lv_iload_n S.1 S.2.1 dL_law_590 rfl (lv_at hl 0 rfl) ?_
  refine lv_iconst (v := iI (((1 : Nat) : Int))) S.1 S.2.1 dL_law_591 (by decide) ?_
  refine zv_iadd (z := (((i + 1) : Nat) : Int)) S dL_law_592 (by omega) ?_
  refine zv_scr S hX hbl hbA hS ((i + 1)) rfl (by omega) hL dL_law_593 ?_
  refine lv_aload_n S.1 S.2.1 dL_law_594 rfl (lv_at hl 1 rfl) ?_
  refine lv_iload_n S.1 S.2.1 dL_law_595 rfl (lv_at hl 0 rfl) ?_
  refine lv_iconst (v := iI (((2 : Nat) : Int))) S.1 S.2.1 dL_law_596 (by decide) ?_
  refine zv_iadd (z := (((i + 2) : Nat) : Int)) S dL_law_597 (by omega) ?_
  refine zv_scr S hX hbl hbA hS ((i + 2)) rfl (by omega) hL dL_law_598 ?_
  refine zc_Vi (n := 2) (As := [.int (iI ((xs (i + 1)).toInt)), .int (iI ((xs (i + 2)).toInt))]) (rest := []) S hAM hA (kX5_slack l X h qt q1 q qs qc qh qT Qs T Qp v sl vo ou inn ac ag ai et xt ((xs (i + 1)).toInt) ((xs (i + 2)).toInt) hv hP hT (by omega) (by omega)) rfl gL_law_X5_slack  (by decide +kernel) ⟨Nat.le_of_ble_eq_true rfl, Nat.le_of_ble_eq_true rfl⟩ hH hS [0, 14, 15, 16, 17, 18, 19, 20, 21, 22, 23, 24, 25, 1, 2, 3, 4, 5, 6, 7, 8, 9, 10, 11, 12, 13, 26, 27, 28, 29, 30, 31, 32, 33, 34, 35, 36, 37, 38, 39, 40, 41, 42] rfl 43 rfl (by decide) 5 0 rfl rfl rfl hl.1 rfl (Nat.le_of_ble_eq_true rfl) dL_law_599 ⟨Nat.le_of_ble_eq_true rfl, Nat.le_of_ble_eq_true rfl⟩ (fun z2 _ H locs hp3 hH hS => ?_)
  have hH : Hold X A [pnW h qt q1 q qs qc qh, tbW X qT Qs T, slW qs q qT, poW q Qp ((ns v : Nat) : Int) ((nr v : Nat) : Int) ((na v : Nat) : Int), aW X (Qp 0) 10 sl, aW X (Qp 1) 8 vo, aW X (Qp 2) 8 ou, aW X (Qp 3) 8 inn, aW X (Qp 4) 8 ac, aW X (Qp 5) 20 ag, aW X (Qp 6) 20 ai, aW X (Qp 7) 20 et, aW X (Qp 8) 20 xt, toW qt Qt ((lnn : Nat) : Int) ss rs ((p2 : Nat) : Int) ((w : Nat) : Int), cW X (Qt 0) 400 tx, aW X (Qt 1) 4 nm, poW q1 Q1 c1 r1 a1, aW X (Q1 0) 10 usl, aW X (Q1 1) 8 uvo, aW X (Q1 2) 8 uou, aW X (Q1 3) 8 uinn, aW X (Q1 4) 8 uac, aW X (Q1 5) 20 uag, aW X (Q1 6) 20 uai, aW X (Q1 7) 20 uet, aW X (Q1 8) 20 uxt, caW qc Qc m0, aW X (Qc 0) 8 riv, aW X (Qc 1) 8 roa, hiW qh qa ((kn : Nat) : Int), pfW X qa (fun i => some (P i)), plW X (P 0) (PQ 0) (D 0), plW X (P 1) (PQ 1) (D 1), plW X (P 2) (PQ 2) (D 2), plW X (P 3) (PQ 3) (D 3), plW X (P 4) (PQ 4) (D 4), mO h6 Q6 ((kn : Nat) : Int) ((lnn : Nat) : Int) sp r6, aW X (Q6 0) 125 v, aW X (Q6 1) 125 rd, aW X (Q6 2) 625 kp, aW X (Q6 3) 400 t6, aW X (Q6 4) 8 wi, aW X (Q6 5) 8 gi].flatten H := hH
  obtain rfl := hp3
  refine lv_aload_n S.1 S.2.1 dL_law_602 rfl (lv_at hl 3 rfl) ?_
  refine lv_aload_n S.1 S.2.1 dL_law_603 rfl (lv_at hl 1 rfl) ?_
  refine lv_iload_n S.1 S.2.1 dL_law_604 rfl (lv_at hl 0 rfl) ?_
  refine lv_iconst (v := iI (((1 : Nat) : Int))) S.1 S.2.1 dL_law_605 (by decide) ?_
  refine zv_iadd (z := (((i + 1) : Nat) : Int)) S dL_law_606 (by omega) ?_
  refine zv_scr S hX hbl hbA hS ((i + 1)) rfl (by omega) hL dL_law_607 ?_
  refine lv_aload_n S.1 S.2.1 dL_law_608 rfl (lv_at hl 1 rfl) ?_
  refine lv_iload_n S.1 S.2.1 dL_law_609 rfl (lv_at hl 0 rfl) ?_
  refine lv_iconst (v := iI (((2 : Nat) : Int))) S.1 S.2.1 dL_law_610 (by decide) ?_
  refine zv_iadd (z := (((i + 2) : Nat) : Int)) S dL_law_611 (by omega) ?_
  refine zv_scr S hX hbl hbA hS ((i + 2)) rfl (by omega) hL dL_law_612 ?_
  refine zc_Vi (n := 2) (As := [.int (iI ((xs (i + 1)).toInt)), .int (iI ((xs (i + 2)).toInt))]) (rest := [.int (iI (slkF v ((xs (i + 1)).toInt) ((xs (i + 2)).toInt)))]) S hAM hA (kX6_slack l X h6 Q6 v rd kp ((kn : Nat) : Int) t6 ((lnn : Nat) : Int) sp r6 wi gi ((xs (i + 1)).toInt) ((xs (i + 2)).toInt) hs (by omega) (by omega)) rfl gL_law_X6_slack  (by decide +kernel) ⟨Nat.le_of_ble_eq_true rfl, Nat.le_of_ble_eq_true rfl⟩ hH hS [36, 37, 38, 39, 40, 41, 42, 0, 1, 2, 3, 4, 5, 6, 7, 8, 9, 10, 11, 12, 13, 14, 15, 16, 17, 18, 19, 20, 21, 22, 23, 24, 25, 26, 27, 28, 29, 30, 31, 32, 33, 34, 35] rfl 43 rfl (by decide) 6 0 rfl rfl rfl hl.1 rfl (Nat.le_of_ble_eq_true rfl) dL_law_613 ⟨Nat.le_of_ble_eq_true rfl, Nat.le_of_ble_eq_true rfl⟩ (fun z5 _ H locs hp6 hH hS => ?_)
  have hH : Hold X A [mO h6 Q6 ((kn : Nat) : Int) ((lnn : Nat) : Int) sp r6, aW X (Q6 0) 125 v, aW X (Q6 1) 125 rd, aW X (Q6 2) 625 kp, aW X (Q6 3) 400 t6, aW X (Q6 4) 8 wi, aW X (Q6 5) 8 gi, pnW h qt q1 q qs qc qh, tbW X qT Qs T, slW qs q qT, poW q Qp ((ns v : Nat) : Int) ((nr v : Nat) : Int) ((na v : Nat) : Int), aW X (Qp 0) 10 sl, aW X (Qp 1) 8 vo, aW X (Qp 2) 8 ou, aW X (Qp 3) 8 inn, aW X (Qp 4) 8 ac, aW X (Qp 5) 20 ag, aW X (Qp 6) 20 ai, aW X (Qp 7) 20 et, aW X (Qp 8) 20 xt, toW qt Qt ((lnn : Nat) : Int) ss rs ((p2 : Nat) : Int) ((w : Nat) : Int), cW X (Qt 0) 400 tx, aW X (Qt 1) 4 nm, poW q1 Q1 c1 r1 a1, aW X (Q1 0) 10 usl, aW X (Q1 1) 8 uvo, aW X (Q1 2) 8 uou, aW X (Q1 3) 8 uinn, aW X (Q1 4) 8 uac, aW X (Q1 5) 20 uag, aW X (Q1 6) 20 uai, aW X (Q1 7) 20 uet, aW X (Q1 8) 20 uxt, caW qc Qc m0, aW X (Qc 0) 8 riv, aW X (Qc 1) 8 roa, hiW qh qa ((kn : Nat) : Int), pfW X qa (fun i => some (P i)), plW X (P 0) (PQ 0) (D 0), plW X (P 1) (PQ 1) (D 1), plW X (P 2) (PQ 2) (D 2), plW X (P 3) (PQ 3) (D 3), plW X (P 4) (PQ 4) (D 4)].flatten H := hH
  obtain rfl := hp6
  refine zv_same (tgt := 798) S (rfl) dL_law_616 (by decide) ?_
  have hH : Hold X A [pnW h qt q1 q qs qc qh, toW qt Qt ((lnn : Nat) : Int) ss rs ((p2 : Nat) : Int) ((w : Nat) : Int), cW X (Qt 0) 400 tx, aW X (Qt 1) 4 nm, poW q1 Q1 c1 r1 a1, aW X (Q1 0) 10 usl, aW X (Q1 1) 8 uvo, aW X (Q1 2) 8 uou, aW X (Q1 3) 8 uinn, aW X (Q1 4) 8 uac, aW X (Q1 5) 20 uag, aW X (Q1 6) 20 uai, aW X (Q1 7) 20 uet, aW X (Q1 8) 20 uxt, tbW X qT Qs T, slW qs q qT, poW q Qp ((ns v : Nat) : Int) ((nr v : Nat) : Int) ((na v : Nat) : Int), aW X (Qp 0) 10 sl, aW X (Qp 1) 8 vo, aW X (Qp 2) 8 ou, aW X (Qp 3) 8 inn, aW X (Qp 4) 8 ac, aW X (Qp 5) 20 ag, aW X (Qp 6) 20 ai, aW X (Qp 7) 20 et, aW X (Qp 8) 20 xt, caW qc Qc m0, aW X (Qc 0) 8 riv, aW X (Qc 1) 8 roa, hiW qh qa ((kn : Nat) : Int), pfW X qa (fun i => some (P i)), plW X (P 0) (PQ 0) (D 0), plW X (P 1) (PQ 1) (D 1), plW X (P 2) (PQ 2) (D 2), plW X (P 3) (PQ 3) (D 3), plW X (P 4) (PQ 4) (D 4), mO h6 Q6 ((kn : Nat) : Int) ((lnn : Nat) : Int) sp r6, aW X (Q6 0) 125 v, aW X (Q6 1) 125 rd, aW X (Q6 2) 625 kp, aW X (Q6 3) 400 t6, aW X (Q6 4) 8 wi, aW X (Q6 5) 8 gi].flatten _ := Hold.pick hH [7, 20, 21, 22, 23, 24, 25, 26, 27, 28, 29, 30, 31, 32, 8, 9, 10, 11, 12, 13, 14, 15, 16, 17, 18, 19, 33, 34, 35, 36, 37, 38, 39, 40, 41, 42, 0, 1, 2, 3, 4, 5, 6] rfl 43 rfl (by decide)
  exact hnext _ _ ⟨_, _, _, _, _, _, _, _, _, _, _, _, _, _, _, _, _, _, _, _, _, _, _, _, _, _, _, _, _, _, _, _, _, _, _, _, _, _, _, _, _, _, _, _, _, _, _, _, _, _, _, _, _, _, _, _, _, _, hH, hg, hK, hP, hT, hHR, hw, ht, ht6, hcg, hgi⟩ hS ls (lv_sub hl [0, 1, 2, 3] rfl)
