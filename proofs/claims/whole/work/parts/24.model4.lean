theorem mX6_isGiven_1 : Cond.fieldLink RX6 25 "RoleDoublingPlannerModel" "given" "[I" ∈ wsX6_isGiven := List.mem_of_getElem? (i := 1) rfl
theorem nX6_isGiven_X6 : ∀ w ∈ wsX60, w ∈ wsX6_isGiven := fun _ h => List.mem_cons_of_mem _ (List.mem_append_right _ h)
theorem mX6_isGiven_2 : Cond.fieldLink RX6 7 "RoleDoublingPlannerModel" "s" "[I" ∈ wsX6_isGiven := List.mem_of_getElem? (i := 2) rfl
set_option maxHeartbeats 4000000 in
set_option maxRecDepth 100000 in
theorem kX6_isGiven (l : Launch) (X : XT) (h : Nat) (Q : Nat → Nat) (s : Nat → Int) (rd : Nat → Int) (kp : Nat → Int) (km : Int) (tx : Nat → Int) (ln : Int) (sp : Int) (rs : Int) (wi : Nat → Int) (gi : Nat → Int) (K : Nat) (M : Nat → Nat) (hs : okR s) (hn1 : 1 ≤ nr s) (hK : K ≤ 8) (hwi : ∀ r, r < nr s → wi r = ((M r : Nat) : Int)) (hM : ∀ r, r < nr s → M r < 256) (hgi : okG gi) : Ci l yX6_isGiven wsX6_isGiven (rmD 2) X [.ref h, .int (iI ((K : Nat) : Int))] [mO h Q km ln sp rs, aW X (Q 0) 125 s, aW X (Q 1) 125 rd, aW X (Q 2) 625 kp, aW X (Q 3) 400 tx, aW X (Q 4) 8 wi, aW X (Q 5) 8 gi] (fun (z : Int) (gj : Nat → Int) => (z = 1 ∧ (okG gj ∧ fc M (nr s) K = some (cut (nr s) gj))) ∨ (z = 0 ∧ (okG gj ∧ fc M (nr s) K = none))) (fun (gj : Nat → Int) => [mO h Q km ln sp rs, aW X (Q 0) 125 s, aW X (Q 1) 125 rd, aW X (Q 2) 625 kp, aW X (Q 3) 400 tx, aW X (Q 4) 8 wi, aW X (Q 5) 8 gj]) := by
  refine Ci.ofW (cc := cX6_isGiven) (maxL := 3) (by decide) rfl (Nat.le_of_ble_eq_true rfl) ?_
  intro p_ e_ s_ m_ below meth c_ A Q_ S hA hAM hH hS hret ls hl
  have hl : lv_has ls 3 [(0, .ref (h)), (1, .int (iI ((K : Nat) : Int)))] := hl
  have hk1 := hs.nr8
  have hk2 := hs.na20
  have hk3 := hs.ns10
  refine lv_iconst (v := iI (((0 : Nat) : Int))) S.1 S.2.1 dX6_isGiven_0 (by decide) ?_
  refine lv_istore_n (lv' := [(2, .int (iI ((0 : Nat) : Int))), (0, .ref (h)), (1, .int (iI ((K : Nat) : Int)))]) S.1 S.2.1 dX6_isGiven_1 rfl hl (by decide) rfl (fun ls hl => ?_)
  refine lv_aload_n S.1 S.2.1 dX6_isGiven_2 rfl (lv_at hl 1 rfl) ?_
  refine zv_get (v := .ref (Q 5)) S hAM hH nX6_isGiven_X6 0 rfl rfl 9 (by decide) mX6_isGiven_1 rfl rfl dX6_isGiven_3 ?_
  refine lv_iconst (v := iI (((0 : Nat) : Int))) S.1 S.2.1 dX6_isGiven_6 (by decide) ?_
  refine lv_iconst (v := iI (-1)) S.1 S.2.1 dX6_isGiven_7 (by decide) ?_
  refine zv_iast (z := -1) (w2 := [mO h Q km ln sp rs, aW X (Q 0) 125 s, aW X (Q 1) 125 rd, aW X (Q 2) 625 kp, aW X (Q 3) 400 tx, aW X (Q 4) 8 wi, aW X (Q 5) 8 (uI gi 0 (-1))].flatten) S hAM hH hS 6 rfl (0) rfl (by decide) (by decide) rfl dX6_isGiven_8 (fun H locs hH hS => ?_)
  have step9 : ∀ (r : Nat) (gv : Nat → Int), r < nr s → okG gv → gv r ≤ 7 → (AtL p_ l e_ (rmD 2) s_ m_ (List.toArray [.ref (h), .int (iI ((K : Nat) : Int))]) below meth c_ Q_ A X 3 34 [mO h Q km ln sp rs, aW X (Q 0) 125 s, aW X (Q 1) 125 rd, aW X (Q 2) 625 kp, aW X (Q 3) 400 tx, aW X (Q 4) 8 wi, aW X (Q 5) 8 (uI gv r (gv r + ((1 : Nat) : Int)))] [(2, .int (iI (((r : Nat) : Int)))), (0, .ref h), (1, .int (iI ((K : Nat) : Int)))]) → (AtL p_ l e_ (rmD 2) s_ m_ (List.toArray [.ref (h), .int (iI ((K : Nat) : Int))]) below meth c_ Q_ A X 3 9 [mO h Q km ln sp rs, aW X (Q 0) 125 s, aW X (Q 1) 125 rd, aW X (Q 2) 625 kp, aW X (Q 3) 400 tx, aW X (Q 4) 8 wi, aW X (Q 5) 8 gv] [(2, .int (iI (((r : Nat) : Int)))), (0, .ref h), (1, .int (iI ((K : Nat) : Int)))]) := by
    intro r gv hr hgv hgr k9 H locs hH hS ls hl
    have hg5 := hgv r (by omega)
    refine lv_iload_n S.1 S.2.1 dX6_isGiven_9 rfl (lv_at hl 0 rfl) ?_
    refine zv_if_lt (tgt := 111) S dX6_isGiven_10 (by decide) (by omega) (fun c_10 => ?_) (fun c_10 => ?_)
    · exact (show False by omega).elim
    · skip
      refine lv_iload_n S.1 S.2.1 dX6_isGiven_13 rfl (lv_at hl 0 rfl) ?_
      refine lv_aload_n S.1 S.2.1 dX6_isGiven_14 rfl (lv_at hl 1 rfl) ?_
      refine zv_get (v := .ref (Q 0)) S hAM hH nX6_isGiven_X6 0 rfl rfl 0 (by decide) mX6_isGiven_2 rfl rfl dX6_isGiven_15 ?_
      refine lv_bipush (v := iI (((11 : Nat) : Int))) S.1 S.2.1 dX6_isGiven_18 (by decide) ?_
      refine zv_iald S hAM hH 1 rfl (11) rfl (by decide) (by decide) dX6_isGiven_20 ?_
      refine zv_top (z := s 11) (z2 := ((nr s : Nat) : Int)) hs.e11 ?_
      refine zv_icmp_ge (tgt := 111) S dX6_isGiven_21 (by decide) (by omega) (by omega) (fun c_21 => ?_) (fun c_21 => ?_)
      · exact (show False by omega).elim
      · skip
        refine lv_aload_n S.1 S.2.1 dX6_isGiven_24 rfl (lv_at hl 1 rfl) ?_
        refine zv_get (v := .ref (Q 5)) S hAM hH nX6_isGiven_X6 0 rfl rfl 9 (by decide) mX6_isGiven_1 rfl rfl dX6_isGiven_25 ?_
        refine lv_iload_n S.1 S.2.1 dX6_isGiven_28 rfl (lv_at hl 0 rfl) ?_
        refine lv_dup2_11 S.1 S.2.1 dX6_isGiven_29 rfl rfl ?_
        refine zv_iald S hAM hH 6 rfl (r) rfl (by omega) (by decide) dX6_isGiven_30 ?_
        refine lv_iconst (v := iI (((1 : Nat) : Int))) S.1 S.2.1 dX6_isGiven_31 (by decide) ?_
        refine zv_iadd (z := (gv r + ((1 : Nat) : Int))) S dX6_isGiven_32 rfl ?_
        refine zv_iast (z := (gv r + ((1 : Nat) : Int))) (w2 := [mO h Q km ln sp rs, aW X (Q 0) 125 s, aW X (Q 1) 125 rd, aW X (Q 2) 625 kp, aW X (Q 3) 400 tx, aW X (Q 4) 8 wi, aW X (Q 5) 8 (uI gv r ((gv r + ((1 : Nat) : Int))))].flatten) S hAM hH hS 6 rfl (r) rfl (by omega) (by decide) rfl dX6_isGiven_33 (fun H locs hH hS => ?_)
        exact k9 _ _ hH hS ls (lv_sub hl [0, 1, 2] rfl)
  have main : ∀ (d r : Nat), r + (d + 1) = nr s → ∀ (c a : Nat) (gv : Nat → Int), a + c = K → gv r = ((a : Nat) : Int) → okG gv → (∀ gv1 : Nat → Int, okG gv1 → trF M r K (srch M (nr s) K d) (cut r gv) c = some (cut (nr s) gv1) → (AtL p_ l e_ (rmD 2) s_ m_ (List.toArray [.ref (h), .int (iI ((K : Nat) : Int))]) below meth c_ Q_ A X 3 9 [mO h Q km ln sp rs, aW X (Q 0) 125 s, aW X (Q 1) 125 rd, aW X (Q 2) 625 kp, aW X (Q 3) 400 tx, aW X (Q 4) 8 wi, aW X (Q 5) 8 gv1] [(2, .int (iI (((nr s : Nat) : Int)))), (0, .ref h), (1, .int (iI ((K : Nat) : Int)))])) → (trF M r K (srch M (nr s) K d) (cut r gv) c = none → ∀ gv1 : Nat → Int, okG gv1 → (∀ k, k < r → gv1 k = gv k) → (AtL p_ l e_ (rmD 2) s_ m_ (List.toArray [.ref (h), .int (iI ((K : Nat) : Int))]) below meth c_ Q_ A X 3 9 [mO h Q km ln sp rs, aW X (Q 0) 125 s, aW X (Q 1) 125 rd, aW X (Q 2) 625 kp, aW X (Q 3) 400 tx, aW X (Q 4) 8 wi, aW X (Q 5) 8 gv1] [(2, .int (iI ((((r : Nat) : Int) + -1)))), (0, .ref h), (1, .int (iI ((K : Nat) : Int)))])) → (AtL p_ l e_ (rmD 2) s_ m_ (List.toArray [.ref (h), .int (iI ((K : Nat) : Int))]) below meth c_ Q_ A X 3 34 [mO h Q km ln sp rs, aW X (Q 0) 125 s, aW X (Q 1) 125 rd, aW X (Q 2) 625 kp, aW X (Q 3) 400 tx, aW X (Q 4) 8 wi, aW X (Q 5) 8 gv] [(2, .int (iI (((r : Nat) : Int)))), (0, .ref h), (1, .int (iI ((K : Nat) : Int)))]) := by
    intro d
    induction d using Nat.strongRecOn with
    | _ d ihd =>
      intro r hr c
      induction c with
      | zero =>
        intro a gv hac hga hgv kf kn H locs hH hS ls hl
        have hg5 := hgv r (by omega)
        refine lv_aload_n S.1 S.2.1 dX6_isGiven_34 rfl (lv_at hl 1 rfl) ?_
        refine zv_get (v := .ref (Q 5)) S hAM hH nX6_isGiven_X6 0 rfl rfl 9 (by decide) mX6_isGiven_1 rfl rfl dX6_isGiven_35 ?_
        refine lv_iload_n S.1 S.2.1 dX6_isGiven_38 rfl (lv_at hl 0 rfl) ?_
        refine zv_iald S hAM hH 6 rfl (r) rfl (by omega) (by decide) dX6_isGiven_39 ?_
        refine zv_top (z := gv r) (z2 := ((a : Nat) : Int)) hga ?_
        refine lv_iload_n S.1 S.2.1 dX6_isGiven_40 rfl (lv_at hl 2 rfl) ?_
        refine zv_icmp_ge (tgt := 71) S dX6_isGiven_41 (by decide) (by omega) (by omega) (fun c_41 => ?_) (fun c_41 => ?_)
        · skip
          refine lv_aload_n S.1 S.2.1 dX6_isGiven_71 rfl (lv_at hl 1 rfl) ?_
          refine zv_get (v := .ref (Q 5)) S hAM hH nX6_isGiven_X6 0 rfl rfl 9 (by decide) mX6_isGiven_1 rfl rfl dX6_isGiven_72 ?_
          refine lv_iload_n S.1 S.2.1 dX6_isGiven_75 rfl (lv_at hl 0 rfl) ?_
          refine zv_iald S hAM hH 6 rfl (r) rfl (by omega) (by decide) dX6_isGiven_76 ?_
          refine zv_top (z := gv r) (z2 := ((a : Nat) : Int)) hga ?_
          refine lv_iload_n S.1 S.2.1 dX6_isGiven_77 rfl (lv_at hl 2 rfl) ?_
          refine zv_icmp_ge (tgt := 105) S dX6_isGiven_78 (by decide) (by omega) (by omega) (fun c_78 => ?_) (fun c_78 => ?_)
          · skip
            refine zv_iinc (z := (((r : Nat) : Int) + -1)) (lv' := [(2, .int (iI ((((r : Nat) : Int) + -1)))), (0, .ref (h)), (1, .int (iI ((K : Nat) : Int)))]) S dX6_isGiven_105 hl (k := 0) rfl rfl (by decide) rfl (fun ls hl => ?_)
            refine lv_goto (tgt := 9) S.1 S.2.1 dX6_isGiven_108 (by decide) ?_
            exact kn rfl gv hgv (fun _ _ => rfl) _ _ hH hS ls (lv_sub hl [0, 1, 2] rfl)
          · exact (show False by omega).elim
        · exact (show False by omega).elim
      | succ c ihc =>
        intro a gv hac hga hgv kf kn
        have again : ∀ gv1 : Nat → Int, okG gv1 → (∀ k, k < r → gv1 k = gv k) → gv1 r = ((a : Nat) : Int) → trF M r K (srch M (nr s) K d) (cut r gv) (c + 1) = trF M r K (srch M (nr s) K d) (cut r gv) c → (AtL p_ l e_ (rmD 2) s_ m_ (List.toArray [.ref (h), .int (iI ((K : Nat) : Int))]) below meth c_ Q_ A X 3 34 [mO h Q km ln sp rs, aW X (Q 0) 125 s, aW X (Q 1) 125 rd, aW X (Q 2) 625 kp, aW X (Q 3) 400 tx, aW X (Q 4) 8 wi, aW X (Q 5) 8 (uI gv1 r (gv1 r + ((1 : Nat) : Int)))] [(2, .int (iI (((r : Nat) : Int)))), (0, .ref h), (1, .int (iI ((K : Nat) : Int)))]) := by
          intro gv1 hg1 hag hr1 heq
          have hcut : cut r (uI gv1 r (gv1 r + ((1 : Nat) : Int))) = cut r gv := cut_eq (fun k hk => by rw [uI_n (by omega)]; exact hag k hk)
          refine ihc (a + 1) (uI gv1 r (gv1 r + ((1 : Nat) : Int))) (by omega) (by rw [uI_s, hr1]; omega) (hg1.up r _ (by omega)) ?_ ?_
          · intro gv2 hg2 he; rw [hcut, ← heq] at he; exact kf gv2 hg2 he
          · intro he gv2 hg2 ha2; rw [hcut, ← heq] at he; exact kn he gv2 hg2 (fun k hk => by rw [ha2 k hk, uI_n (by omega)]; exact hag k hk)
        intro H locs hH hS ls hl
        have hg5 := hgv r (by omega)
        refine lv_aload_n S.1 S.2.1 dX6_isGiven_34 rfl (lv_at hl 1 rfl) ?_
        refine zv_get (v := .ref (Q 5)) S hAM hH nX6_isGiven_X6 0 rfl rfl 9 (by decide) mX6_isGiven_1 rfl rfl dX6_isGiven_35 ?_
        refine lv_iload_n S.1 S.2.1 dX6_isGiven_38 rfl (lv_at hl 0 rfl) ?_
        refine zv_iald S hAM hH 6 rfl (r) rfl (by omega) (by decide) dX6_isGiven_39 ?_
        refine zv_top (z := gv r) (z2 := ((a : Nat) : Int)) hga ?_
        refine lv_iload_n S.1 S.2.1 dX6_isGiven_40 rfl (lv_at hl 2 rfl) ?_
        refine zv_icmp_ge (tgt := 71) S dX6_isGiven_41 (by decide) (by omega) (by omega) (fun c_41 => ?_) (fun c_41 => ?_)
        · exact (show False by omega).elim
        · skip
          refine lv_aload_n S.1 S.2.1 dX6_isGiven_44 rfl (lv_at hl 1 rfl) ?_
          refine lv_iload_n S.1 S.2.1 dX6_isGiven_45 rfl (lv_at hl 0 rfl) ?_
          refine lv_aload_n S.1 S.2.1 dX6_isGiven_46 rfl (lv_at hl 1 rfl) ?_
          refine zv_get (v := .ref (Q 5)) S hAM hH nX6_isGiven_X6 0 rfl rfl 9 (by decide) mX6_isGiven_1 rfl rfl dX6_isGiven_47 ?_
          refine lv_iload_n S.1 S.2.1 dX6_isGiven_50 rfl (lv_at hl 0 rfl) ?_
          refine zv_iald S hAM hH 6 rfl (r) rfl (by omega) (by decide) dX6_isGiven_51 ?_
          refine zv_top (z := gv r) (z2 := ((a : Nat) : Int)) hga ?_
          refine zc_Vi (n := 2) (As := [.int (iI ((r : Nat) : Int)), .int (iI ((a : Nat) : Int))]) (rest := []) S hAM hA (kX6_mayHave l X h Q s rd kp km tx ln sp rs wi gv r ((a : Nat) : Int) (M r) (by omega) (by omega) (hwi r (by omega)) (hM r (by omega)) (fun k hk => hgv.inR k hk)) rfl gX6_isGiven_X6_mayHave  (by decide +kernel) ⟨Nat.le_of_ble_eq_true rfl, Nat.le_of_ble_eq_true rfl⟩ hH hS [0, 1, 2, 3, 4, 5, 6] rfl 7 rfl (List.Perm.refl _) 6 0 rfl rfl rfl hl.1 rfl (Nat.le_of_ble_eq_true rfl) dX6_isGiven_52 ⟨Nat.le_of_ble_eq_true rfl, Nat.le_of_ble_eq_true rfl⟩ (fun z2 _ H locs hp3 hH hS => ?_)
          have hH : Hold X A [mO h Q km ln sp rs, aW X (Q 0) 125 s, aW X (Q 1) 125 rd, aW X (Q 2) 625 kp, aW X (Q 3) 400 tx, aW X (Q 4) 8 wi, aW X (Q 5) 8 gv].flatten H := hH
          rcases hp3 with ⟨rfl, b_52⟩ | ⟨rfl, b_52⟩
          · refine zv_top (z := 1) (z2 := ((1 : Nat) : Int)) rfl ?_
            refine zv_if_ne (tgt := 71) S dX6_isGiven_55 (by decide) (by decide) (fun c_55 => ?_) (fun c_55 => ?_)
            · skip
              refine lv_aload_n S.1 S.2.1 dX6_isGiven_71 rfl (lv_at hl 1 rfl) ?_
              refine zv_get (v := .ref (Q 5)) S hAM hH nX6_isGiven_X6 0 rfl rfl 9 (by decide) mX6_isGiven_1 rfl rfl dX6_isGiven_72 ?_
              refine lv_iload_n S.1 S.2.1 dX6_isGiven_75 rfl (lv_at hl 0 rfl) ?_
              refine zv_iald S hAM hH 6 rfl (r) rfl (by omega) (by decide) dX6_isGiven_76 ?_
              refine zv_top (z := gv r) (z2 := ((a : Nat) : Int)) hga ?_
              refine lv_iload_n S.1 S.2.1 dX6_isGiven_77 rfl (lv_at hl 2 rfl) ?_
              refine zv_icmp_ge (tgt := 105) S dX6_isGiven_78 (by decide) (by omega) (by omega) (fun c_78 => ?_) (fun c_78 => ?_)
              · exact (show False by omega).elim
              · skip
                refine zv_iinc (z := (((r + 1) : Nat) : Int)) (lv' := [(2, .int (iI (((r + 1) : Nat) : Int))), (0, .ref (h)), (1, .int (iI ((K : Nat) : Int)))]) S dX6_isGiven_81 hl (k := 0) rfl (by omega) (by decide) rfl (fun ls hl => ?_)
                refine lv_iload_n S.1 S.2.1 dX6_isGiven_84 rfl (lv_at hl 0 rfl) ?_
                refine lv_aload_n S.1 S.2.1 dX6_isGiven_85 rfl (lv_at hl 1 rfl) ?_
                refine zv_get (v := .ref (Q 0)) S hAM hH nX6_isGiven_X6 0 rfl rfl 0 (by decide) mX6_isGiven_2 rfl rfl dX6_isGiven_86 ?_
                refine lv_bipush (v := iI (((11 : Nat) : Int))) S.1 S.2.1 dX6_isGiven_89 (by decide) ?_
                refine zv_iald S hAM hH 1 rfl (11) rfl (by decide) (by decide) dX6_isGiven_91 ?_
                refine zv_top (z := s 11) (z2 := ((nr s : Nat) : Int)) hs.e11 ?_
                refine zv_icmp_ge (tgt := 9) S dX6_isGiven_92 (by decide) (by omega) (by omega) (fun c_92 => ?_) (fun c_92 => ?_)
                · skip
                  have e5 : r + 1 = nr s := (by omega)
                  have e6 : d = 0 := (by omega)
                  subst e6
                  have k5 := kf gv hgv (tr_hit hac (by rw [mhI_cut]; exact b_52) (by rw [← e5, cut_s (fun _ _ => rfl) hga]; rfl))
                  rw [← e5] at k5
                  exact k5 _ _ hH hS ls (lv_sub hl [0, 1, 2] rfl)
                · skip
                  refine lv_aload_n S.1 S.2.1 dX6_isGiven_95 rfl (lv_at hl 1 rfl) ?_
                  refine zv_get (v := .ref (Q 5)) S hAM hH nX6_isGiven_X6 0 rfl rfl 9 (by decide) mX6_isGiven_1 rfl rfl dX6_isGiven_96 ?_
                  refine lv_iload_n S.1 S.2.1 dX6_isGiven_99 rfl (lv_at hl 0 rfl) ?_
                  refine lv_iconst (v := iI (-1)) S.1 S.2.1 dX6_isGiven_100 (by decide) ?_
                  refine zv_iast (z := -1) (w2 := [mO h Q km ln sp rs, aW X (Q 0) 125 s, aW X (Q 1) 125 rd, aW X (Q 2) 625 kp, aW X (Q 3) 400 tx, aW X (Q 4) 8 wi, aW X (Q 5) 8 (uI gv (r + 1) (-1))].flatten) S hAM hH hS 6 rfl ((r + 1)) rfl (by omega) (by decide) rfl dX6_isGiven_101 (fun H locs hH hS => ?_)
                  refine lv_goto (tgt := 9) S.1 S.2.1 dX6_isGiven_102 (by decide) ?_
                  have hg7 : okG (uI gv (r + 1) (-1)) := hgv.up _ _ (by omega)
                  have e5 : (uI gv (r + 1) (-1)) (r + 1) = -1 := uI_s _ _ _
                  have hcut : cut (r + 1) (uI (uI gv (r + 1) (-1)) (r + 1) ((uI gv (r + 1) (-1)) (r + 1) + ((1 : Nat) : Int))) = uI (cut r gv) r ((a : Nat) : Int) := cut_s (fun k hk => by rw [uI_n (by omega), uI_n (by omega)]) (by rw [uI_n (by omega), uI_n (by omega)]; exact hga)
                  refine step9 (r + 1) (uI gv (r + 1) (-1)) (by omega) hg7 (by omega) (ihd (d - 1) (by omega) (r + 1) (by omega) K 0 _ (by omega) (by rw [uI_s, e5]; rfl) (hg7.up _ _ (by omega)) ?_ ?_) _ _ hH hS ls (lv_sub hl [0, 1, 2] rfl)
                  · intro gv2 hg2 he
                    rw [hcut, ← srch_eq (by omega) (by omega)] at he
                    exact kf gv2 hg2 (tr_hit hac (by rw [mhI_cut]; exact b_52) he)
                  · intro he gv2 hg2 ha2
                    rw [hcut, ← srch_eq (by omega) (by omega)] at he
                    have hag : ∀ k, k < r → gv2 k = gv k := fun k hk => by rw [ha2 k (by omega), uI_n (by omega), uI_n (by omega)]
                    have hr2 : gv2 r = ((a : Nat) : Int) := by rw [ha2 r (by omega), uI_n (by omega), uI_n (by omega)]; exact hga
                    rw [show (((r + 1 : Nat) : Int) + -1) = ((r : Nat) : Int) by omega]
                    exact step9 r gv2 (by omega) hg2 (by omega) (again gv2 hg2 hag hr2 (tr_back hac (by rw [mhI_cut]; exact b_52) he))
            · exact (show False by omega).elim
          · refine zv_top (z := 0) (z2 := ((0 : Nat) : Int)) rfl ?_
            refine zv_if_ne (tgt := 71) S dX6_isGiven_55 (by decide) (by decide) (fun c_55 => ?_) (fun c_55 => ?_)
            · exact (show False by omega).elim
            · skip
              refine lv_aload_n S.1 S.2.1 dX6_isGiven_58 rfl (lv_at hl 1 rfl) ?_
              refine zv_get (v := .ref (Q 5)) S hAM hH nX6_isGiven_X6 0 rfl rfl 9 (by decide) mX6_isGiven_1 rfl rfl dX6_isGiven_59 ?_
              refine lv_iload_n S.1 S.2.1 dX6_isGiven_62 rfl (lv_at hl 0 rfl) ?_
              refine lv_dup2_11 S.1 S.2.1 dX6_isGiven_63 rfl rfl ?_
              refine zv_iald S hAM hH 6 rfl (r) rfl (by omega) (by decide) dX6_isGiven_64 ?_
              refine lv_iconst (v := iI (((1 : Nat) : Int))) S.1 S.2.1 dX6_isGiven_65 (by decide) ?_
              refine zv_iadd (z := (gv r + ((1 : Nat) : Int))) S dX6_isGiven_66 rfl ?_
              refine zv_iast (z := (gv r + ((1 : Nat) : Int))) (w2 := [mO h Q km ln sp rs, aW X (Q 0) 125 s, aW X (Q 1) 125 rd, aW X (Q 2) 625 kp, aW X (Q 3) 400 tx, aW X (Q 4) 8 wi, aW X (Q 5) 8 (uI gv r ((gv r + ((1 : Nat) : Int))))].flatten) S hAM hH hS 6 rfl (r) rfl (by omega) (by decide) rfl dX6_isGiven_67 (fun H locs hH hS => ?_)
              refine lv_goto (tgt := 34) S.1 S.2.1 dX6_isGiven_68 (by decide) ?_
              exact again gv hgv (fun _ _ => rfl) hga (tr_no hac (by rw [mhI_cut]; exact Classical.not_not.mp b_52)) _ _ hH hS ls (lv_sub hl [0, 1, 2] rfl)
  have hg0 : okG (uI gi 0 (-1)) := hgi.up _ _ (by omega)
  have e0 : (uI gi 0 (-1)) 0 = -1 := uI_s _ _ _
  refine step9 0 (uI gi 0 (-1)) (by omega) hg0 (by omega) (main (nr s - 1) 0 (by omega) K 0 _ (by omega) (by rw [uI_s, e0]; rfl) (hg0.up _ _ (by omega)) ?_ ?_) _ _ hH hS ls (lv_sub hl [0, 1, 2] rfl)
  · intro gv1 hg1 he H locs hH hS ls hl
    rw [cut_0, ← fc_eq hn1] at he
    refine lv_iload_n S.1 S.2.1 dX6_isGiven_9 rfl (lv_at hl 0 rfl) ?_
    refine zv_if_lt (tgt := 111) S dX6_isGiven_10 (by decide) (by omega) (fun c_10 => ?_) (fun c_10 => ?_)
    · exact (show False by omega).elim
    · skip
      refine lv_iload_n S.1 S.2.1 dX6_isGiven_13 rfl (lv_at hl 0 rfl) ?_
      refine lv_aload_n S.1 S.2.1 dX6_isGiven_14 rfl (lv_at hl 1 rfl) ?_
      refine zv_get (v := .ref (Q 0)) S hAM hH nX6_isGiven_X6 0 rfl rfl 0 (by decide) mX6_isGiven_2 rfl rfl dX6_isGiven_15 ?_
      refine lv_bipush (v := iI (((11 : Nat) : Int))) S.1 S.2.1 dX6_isGiven_18 (by decide) ?_
      refine zv_iald S hAM hH 1 rfl (11) rfl (by decide) (by decide) dX6_isGiven_20 ?_
      refine zv_top (z := s 11) (z2 := ((nr s : Nat) : Int)) hs.e11 ?_
      refine zv_icmp_ge (tgt := 111) S dX6_isGiven_21 (by decide) (by omega) (by omega) (fun c_21 => ?_) (fun c_21 => ?_)
      · skip
        refine lv_iload_n S.1 S.2.1 dX6_isGiven_111 rfl (lv_at hl 0 rfl) ?_
        refine zv_if_le (tgt := 119) S dX6_isGiven_112 (by decide) (by omega) (fun c_112 => ?_) (fun c_112 => ?_)
        · exact (show False by omega).elim
        · skip
          refine lv_iconst (v := iI (((1 : Nat) : Int))) S.1 S.2.1 dX6_isGiven_115 (by decide) ?_
          refine lv_goto (tgt := 120) S.1 S.2.1 dX6_isGiven_116 (by decide) ?_
          exact hret 120 ls _ _ (((1 : Nat) : Int)) (gv1) dX6_isGiven_120 rfl (Or.inl ⟨rfl, hg1, he⟩) hH hS
      · exact (show False by omega).elim
  · intro he gv1 hg1 _ H locs hH hS ls hl
    rw [cut_0, ← fc_eq hn1] at he
    refine lv_iload_n S.1 S.2.1 dX6_isGiven_9 rfl (lv_at hl 0 rfl) ?_
    refine zv_if_lt (tgt := 111) S dX6_isGiven_10 (by decide) (by omega) (fun c_10 => ?_) (fun c_10 => ?_)
    · skip
      refine lv_iload_n S.1 S.2.1 dX6_isGiven_111 rfl (lv_at hl 0 rfl) ?_
      refine zv_if_le (tgt := 119) S dX6_isGiven_112 (by decide) (by omega) (fun c_112 => ?_) (fun c_112 => ?_)
      · skip
        refine lv_iconst (v := iI (((0 : Nat) : Int))) S.1 S.2.1 dX6_isGiven_119 (by decide) ?_
        exact hret 120 ls _ _ (((0 : Nat) : Int)) (gv1) dX6_isGiven_120 rfl (Or.inr ⟨rfl, hg1, he⟩) hH hS
      · exact (show False by omega).elim
    · exact (show False by omega).elim
