set_option maxHeartbeats 4000000 in
set_option maxRecDepth 100000 in
theorem kX6_leastFor (l : Launch) (X : XT) (h : Nat) (Q : Nat → Nat) (s : Nat → Int) (rd : Nat → Int) (kp : Nat → Int) (km : Int) (tx : Nat → Int) (ln : Int) (sp : Int) (rs : Int) (wi : Nat → Int) (gi : Nat → Int) (f : Int) (hs : okR s) (hf : 0 ≤ f ∧ f ≤ 120) (hn1 : 1 ≤ nr s) (hgi : okG gi) : Ci l yX6_leastFor wsX6_leastFor (rmD 6) X [.ref h, .int (iI (f))] [mO h Q km ln sp rs, aW X (Q 0) 125 s, aW X (Q 1) 125 rd, aW X (Q 2) 625 kp, aW X (Q 3) 400 tx, aW X (Q 4) 8 wi, aW X (Q 5) 8 gi] (fun (z : Int) (gj : Nat → Int) => z = ((lc (Mk s f) (nr s) : Nat) : Int) ∧ okG gj ∧ cut (nr s) gj = fcG (Mk s f) (nr s) ∧ lc (Mk s f) (nr s) ≤ nr s) (fun (gj : Nat → Int) => [mO h Q km ln sp rs, aW X (Q 0) 125 s, aW X (Q 1) 125 rd, aW X (Q 2) 625 kp, aW X (Q 3) 400 tx, aW X (Q 4) 8 (wiF s f wi), aW X (Q 5) 8 gj]) := by
  refine Ci.ofW (cc := cX6_leastFor) (maxL := 3) (by decide) rfl (Nat.le_of_ble_eq_true rfl) ?_
  intro p_ e_ s_ m_ below meth c_ A Q_ S hA hAM hH hS hret ls hl
  have hl : lv_has ls 3 [(0, .ref (h)), (1, .int (iI (f)))] := hl
  have hk1 := hs.nr8
  have hk2 := hs.na20
  have hk3 := hs.ns10
  refine lv_aload_n S.1 S.2.1 dX6_leastFor_0 rfl (lv_at hl 0 rfl) ?_
  refine lv_iload_n S.1 S.2.1 dX6_leastFor_1 rfl (lv_at hl 1 rfl) ?_
  refine zc_Vv (n := 1) (As := [.int (iI (f))]) (rest := []) S hAM hA (kX6_layConflicts l X h Q s rd kp km tx ln sp rs wi gi f hs (by omega)) rfl gX6_leastFor_X6_layConflicts  (by decide +kernel) ⟨Nat.le_of_ble_eq_true rfl, Nat.le_of_ble_eq_true rfl⟩ hH hS [0, 1, 2, 3, 4, 5, 6] rfl 7 rfl (List.Perm.refl _) 6 0 rfl rfl rfl hl.1 rfl (Nat.le_of_ble_eq_true rfl) dX6_leastFor_2 ⟨Nat.le_of_ble_eq_true rfl, Nat.le_of_ble_eq_true rfl⟩ (fun _ H locs hp3 hH hS => ?_)
  have hH : Hold X A [mO h Q km ln sp rs, aW X (Q 0) 125 s, aW X (Q 1) 125 rd, aW X (Q 2) 625 kp, aW X (Q 3) 400 tx, aW X (Q 4) 8 (wiF s f wi), aW X (Q 5) 8 gi].flatten H := hH
  refine lv_iconst (v := iI (((1 : Nat) : Int))) S.1 S.2.1 dX6_leastFor_5 (by decide) ?_
  refine lv_istore_n (lv' := [(2, .int (iI ((1 : Nat) : Int))), (0, .ref (h)), (1, .int (iI (f)))]) S.1 S.2.1 dX6_leastFor_6 rfl hl (by decide) rfl (fun ls hl => ?_)
  have lp7 : ∀ (n : Nat) (K : Nat) (gv : Nat → Int), nr s - K < n → (1 ≤ K ∧ K ≤ nr s) → (lcS (Mk s f) (nr s) K (nr s + 1 - K) = lc (Mk s f) (nr s)) → (okG gv) → ∀ (H : Heap) (locs : List Loc), Hold X A [mO h Q km ln sp rs, aW X (Q 0) 125 s, aW X (Q 1) 125 rd, aW X (Q 2) 625 kp, aW X (Q 3) 400 tx, aW X (Q 4) 8 (wiF s f wi), aW X (Q 5) 8 gv].flatten H → va_S A s_.heap H locs → ∀ ls : Array Slot, lv_has ls 3 [(2, .int (iI ((K : Nat) : Int))), (0, .ref (h)), (1, .int (iI (f)))] → W p_ l e_ (rmD 6) s_ m_ (List.toArray [.ref (h), .int (iI (f))]) below meth c_ H locs 0 0 Q_ (F0 m_ 7 ls []) := by
    intro n
    induction n with
    | zero => intro K gv hmu hi hset hgv H locs hH hS ls hl; exact absurd hmu (Nat.not_lt_zero _)
    | succ n ih7 => 
      intro K gv hmu hi hset hgv H locs hH hS ls hl
      refine lv_aload_n S.1 S.2.1 dX6_leastFor_7 rfl (lv_at hl 1 rfl) ?_
      refine lv_iload_n S.1 S.2.1 dX6_leastFor_8 rfl (lv_at hl 0 rfl) ?_
      refine zc_Vi (n := 1) (As := [.int (iI ((K : Nat) : Int))]) (rest := []) S hAM hA (kX6_isGiven l X h Q s rd kp km tx ln sp rs (wiF s f wi) gv K (Mk s f) hs hn1 (by omega) (fun r hr => wiF_at hr) (fun r _ => Mk_lt hs _ r) hgv) rfl gX6_leastFor_X6_isGiven  (by decide +kernel) ⟨Nat.le_of_ble_eq_true rfl, Nat.le_of_ble_eq_true rfl⟩ hH hS [0, 1, 2, 3, 4, 5, 6] rfl 7 rfl (List.Perm.refl _) 6 0 rfl rfl rfl hl.1 rfl (Nat.le_of_ble_eq_true rfl) dX6_leastFor_9 ⟨Nat.le_of_ble_eq_true rfl, Nat.le_of_ble_eq_true rfl⟩ (fun z5 gj_4 H locs hp6 hH hS => ?_)
      have hH : Hold X A [mO h Q km ln sp rs, aW X (Q 0) 125 s, aW X (Q 1) 125 rd, aW X (Q 2) 625 kp, aW X (Q 3) 400 tx, aW X (Q 4) 8 (wiF s f wi), aW X (Q 5) 8 gj_4].flatten H := hH
      rcases hp6 with ⟨rfl, b_9⟩ | ⟨rfl, b_9⟩
      · refine zv_top (z := 1) (z2 := ((1 : Nat) : Int)) rfl ?_
        refine zv_if_ne (tgt := 21) S dX6_leastFor_12 (by decide) (by decide) (fun c_12 => ?_) (fun c_12 => ?_)
        · skip
          refine lv_iload_n S.1 S.2.1 dX6_leastFor_21 rfl (lv_at hl 0 rfl) ?_
          exact hret 22 ls _ _ (((K : Nat) : Int)) (gj_4) dX6_leastFor_22 rfl (by obtain ⟨hg2, hf2⟩ := b_9; have e9 : lc (Mk s f) (nr s) = K := (by rw [← hset]; exact lcS_hit (by rw [hf2]; simp) (by omega)); rw [e9]; exact ⟨rfl, hg2, (by unfold fcG; rw [e9, hf2]; rfl), hi.2⟩) hH hS
        · exact (show False by omega).elim
      · refine zv_top (z := 0) (z2 := ((0 : Nat) : Int)) rfl ?_
        obtain ⟨hg2, hf2⟩ := b_9
        have hne : K ≠ nr s := fun e => fc_full (Nat.le_of_eq e.symm) hf2
        refine zv_if_ne (tgt := 21) S dX6_leastFor_12 (by decide) (by decide) (fun c_12 => ?_) (fun c_12 => ?_)
        · exact (show False by omega).elim
        · skip
          refine zv_iinc (z := (((K + 1) : Nat) : Int)) (lv' := [(2, .int (iI (((K + 1) : Nat) : Int))), (0, .ref (h)), (1, .int (iI (f)))]) S dX6_leastFor_15 hl (k := 0) rfl (by omega) (by decide) rfl (fun ls hl => ?_)
          refine lv_goto (tgt := 7) S.1 S.2.1 dX6_leastFor_18 (by decide) ?_
          exact ih7  ((K + 1)) (gj_4) (by omega) (by omega) (by rw [← hset, lcS_miss hf2 (by omega)]; rfl) hg2 _ _ hH hS ls (lv_sub hl [0, 1, 2] rfl)
  exact lp7 (nr s - (1) + 1) (1) (gi) (Nat.lt_succ_self _) (by omega) (by rw [Nat.add_sub_cancel]; rfl) hgi _ _ hH hS ls (lv_sub hl [0, 1, 2] rfl)

set_option maxHeartbeats 4000000 in
set_option maxRecDepth 100000 in
theorem kX6_leastCast (l : Launch) (X : XT) (h : Nat) (Q : Nat → Nat) (s : Nat → Int) (rd : Nat → Int) (kp : Nat → Int) (km : Int) (tx : Nat → Int) (ln : Int) (sp : Int) (rs : Int) (wi : Nat → Int) (gi : Nat → Int) (hs : okR s) (hn1 : 1 ≤ nr s) (hgi : okG gi) : Ci l yX6_leastCast wsX6_leastCast (rmD 7) X [.ref h] [mO h Q km ln sp rs, aW X (Q 0) 125 s, aW X (Q 1) 125 rd, aW X (Q 2) 625 kp, aW X (Q 3) 400 tx, aW X (Q 4) 8 wi, aW X (Q 5) 8 gi] (fun (z : Int) (gj : Nat → Int) => z = ((lc (Mk s 0) (nr s) : Nat) : Int) ∧ okG gj) (fun (gj : Nat → Int) => [mO h Q km ln sp rs, aW X (Q 0) 125 s, aW X (Q 1) 125 rd, aW X (Q 2) 625 kp, aW X (Q 3) 400 tx, aW X (Q 4) 8 (wiF s 0 wi), aW X (Q 5) 8 gj]) := by
  refine Ci.ofW (cc := cX6_leastCast) (maxL := 1) (by decide) rfl (Nat.le_of_ble_eq_true rfl) ?_
  intro p_ e_ s_ m_ below meth c_ A Q_ S hA hAM hH hS hret ls hl
  have hl : lv_has ls 1 [(0, .ref (h))] := hl
  have hk1 := hs.nr8
  have hk2 := hs.na20
  have hk3 := hs.ns10
  refine lv_aload_n S.1 S.2.1 dX6_leastCast_0 rfl (lv_at hl 0 rfl) ?_
  refine lv_iconst (v := iI (((0 : Nat) : Int))) S.1 S.2.1 dX6_leastCast_1 (by decide) ?_
  refine zc_Vi (n := 1) (As := [.int (iI ((0 : Nat) : Int))]) (rest := []) S hAM hA (kX6_leastFor l X h Q s rd kp km tx ln sp rs wi gi 0 hs (by omega) hn1 hgi) rfl gX6_leastCast_X6_leastFor  (by decide +kernel) ⟨Nat.le_of_ble_eq_true rfl, Nat.le_of_ble_eq_true rfl⟩ hH hS [0, 1, 2, 3, 4, 5, 6] rfl 7 rfl (List.Perm.refl _) 6 0 rfl rfl rfl hl.1 rfl (Nat.le_of_ble_eq_true rfl) dX6_leastCast_2 ⟨Nat.le_of_ble_eq_true rfl, Nat.le_of_ble_eq_true rfl⟩ (fun z2 gj_1 H locs hp3 hH hS => ?_)
  have hH : Hold X A [mO h Q km ln sp rs, aW X (Q 0) 125 s, aW X (Q 1) 125 rd, aW X (Q 2) 625 kp, aW X (Q 3) 400 tx, aW X (Q 4) 8 (wiF s 0 wi), aW X (Q 5) 8 gj_1].flatten H := hH
  obtain ⟨rfl, okg, hfc, hlc⟩ := hp3
  exact hret 5 ls _ _ (((lc (Mk s 0) (nr s) : Nat) : Int)) (gj_1) dX6_leastCast_5 rfl ⟨rfl, okg⟩ hH hS

theorem mX6_firstCastActor_1 : Cond.fieldLink RX6 25 "RoleDoublingPlannerModel" "given" "[I" ∈ wsX6_firstCastActor := List.mem_of_getElem? (i := 1) rfl
theorem nX6_firstCastActor_X6 : ∀ w ∈ wsX60, w ∈ wsX6_firstCastActor := fun _ h => List.mem_cons_of_mem _ (List.mem_append_right _ h)
set_option maxHeartbeats 4000000 in
set_option maxRecDepth 100000 in
theorem kX6_firstCastActor (l : Launch) (X : XT) (h : Nat) (Q : Nat → Nat) (s : Nat → Int) (rd : Nat → Int) (kp : Nat → Int) (km : Int) (tx : Nat → Int) (ln : Int) (sp : Int) (rs : Int) (wi : Nat → Int) (gi : Nat → Int) (r : Int) (hs : okR s) (hr : inR r) (hn1 : 1 ≤ nr s) (hgi : okG gi) : Ci l yX6_firstCastActor wsX6_firstCastActor (rmD 7) X [.ref h, .int (iI (r))] [mO h Q km ln sp rs, aW X (Q 0) 125 s, aW X (Q 1) 125 rd, aW X (Q 2) 625 kp, aW X (Q 3) 400 tx, aW X (Q 4) 8 wi, aW X (Q 5) 8 gi] (fun (z : Int) (u : (Nat → Int) × (Nat → Int)) => match u with | (wj, gj) => z = (if 0 ≤ r ∧ r < ((nr s : Nat) : Int) then fcG (Mk s 0) (nr s) r.toNat else -1001) ∧ okG gj) (fun (u : (Nat → Int) × (Nat → Int)) => match u with | (wj, gj) => [mO h Q km ln sp rs, aW X (Q 0) 125 s, aW X (Q 1) 125 rd, aW X (Q 2) 625 kp, aW X (Q 3) 400 tx, aW X (Q 4) 8 wj, aW X (Q 5) 8 gj]) := by
  refine Ci.ofW (cc := cX6_firstCastActor) (maxL := 2) (by decide) rfl (Nat.le_of_ble_eq_true rfl) ?_
  intro p_ e_ s_ m_ below meth c_ A Q_ S hA hAM hH hS hret ls hl
  have hl : lv_has ls 2 [(0, .ref (h)), (1, .int (iI (r)))] := hl
  have hk1 := hs.nr8
  have hk2 := hs.na20
  have hk3 := hs.ns10
  refine lv_aload_n S.1 S.2.1 dX6_firstCastActor_0 rfl (lv_at hl 0 rfl) ?_
  refine lv_iload_n S.1 S.2.1 dX6_firstCastActor_1 rfl (lv_at hl 1 rfl) ?_
  refine zc_Vi (n := 1) (As := [.int (iI (r))]) (rest := []) S hAM hA (kX6_isRole l X h Q s rd kp km tx ln sp rs wi gi r hs (by omega)) rfl gX6_firstCastActor_X6_isRole  (by decide +kernel) ⟨Nat.le_of_ble_eq_true rfl, Nat.le_of_ble_eq_true rfl⟩ hH hS [0, 1, 2, 3, 4, 5, 6] rfl 7 rfl (List.Perm.refl _) 6 0 rfl rfl rfl hl.1 rfl (Nat.le_of_ble_eq_true rfl) dX6_firstCastActor_2 ⟨Nat.le_of_ble_eq_true rfl, Nat.le_of_ble_eq_true rfl⟩ (fun z2 _ H locs hp3 hH hS => ?_)
  have hH : Hold X A [mO h Q km ln sp rs, aW X (Q 0) 125 s, aW X (Q 1) 125 rd, aW X (Q 2) 625 kp, aW X (Q 3) 400 tx, aW X (Q 4) 8 wi, aW X (Q 5) 8 gi].flatten H := hH
  rcases hp3 with ⟨rfl, b_2⟩ | ⟨rfl, b_2⟩
  · refine zv_top (z := 1) (z2 := ((1 : Nat) : Int)) rfl ?_
    obtain ⟨rn, rfl⟩ : ∃ rn : Nat, r = ((rn : Nat) : Int) := ⟨r.toNat, by omega⟩
    refine zv_if_ne (tgt := 12) S dX6_firstCastActor_5 (by decide) (by decide) (fun c_5 => ?_) (fun c_5 => ?_)
    · skip
      refine lv_aload_n S.1 S.2.1 dX6_firstCastActor_12 rfl (lv_at hl 0 rfl) ?_
      refine lv_iconst (v := iI (((0 : Nat) : Int))) S.1 S.2.1 dX6_firstCastActor_13 (by decide) ?_
      refine zc_Vi (n := 1) (As := [.int (iI ((0 : Nat) : Int))]) (rest := []) S hAM hA (kX6_leastFor l X h Q s rd kp km tx ln sp rs wi gi 0 hs (by omega) hn1 hgi) rfl gX6_firstCastActor_X6_leastFor  (by decide +kernel) ⟨Nat.le_of_ble_eq_true rfl, Nat.le_of_ble_eq_true rfl⟩ hH hS [0, 1, 2, 3, 4, 5, 6] rfl 7 rfl (List.Perm.refl _) 6 0 rfl rfl rfl hl.1 rfl (Nat.le_of_ble_eq_true rfl) dX6_firstCastActor_14 ⟨Nat.le_of_ble_eq_true rfl, Nat.le_of_ble_eq_true rfl⟩ (fun z5 gj_4 H locs hp6 hH hS => ?_)
      have hH : Hold X A [mO h Q km ln sp rs, aW X (Q 0) 125 s, aW X (Q 1) 125 rd, aW X (Q 2) 625 kp, aW X (Q 3) 400 tx, aW X (Q 4) 8 (wiF s 0 wi), aW X (Q 5) 8 gj_4].flatten H := hH
      obtain ⟨rfl, okg, hfc, hlc⟩ := hp6
      refine lv_pop S.1 S.2.1 dX6_firstCastActor_17 rfl ?_
      refine lv_aload_n S.1 S.2.1 dX6_firstCastActor_18 rfl (lv_at hl 0 rfl) ?_
      refine zv_get (v := .ref (Q 5)) S hAM hH nX6_firstCastActor_X6 0 rfl rfl 9 (by decide) mX6_firstCastActor_1 rfl rfl dX6_firstCastActor_19 ?_
      refine lv_iload_n S.1 S.2.1 dX6_firstCastActor_22 rfl (lv_at hl 1 rfl) ?_
      refine zv_iald S hAM hH 6 rfl (rn) rfl (by omega) (by decide) dX6_firstCastActor_23 ?_
      exact hret 24 ls _ _ (gj_4 rn) ((wiF s 0 wi), gj_4) dX6_firstCastActor_24 rfl ⟨(by rw [if_pos (by omega), Int.toNat_natCast, ← hfc, cut_at (by omega)]), okg⟩ hH hS
    · exact (show False by omega).elim
  · refine zv_top (z := 0) (z2 := ((0 : Nat) : Int)) rfl ?_
    refine zv_if_ne (tgt := 12) S dX6_firstCastActor_5 (by decide) (by decide) (fun c_5 => ?_) (fun c_5 => ?_)
    · exact (show False by omega).elim
    · skip
      refine lv_sipush (v := iI (-1001)) S.1 S.2.1 dX6_firstCastActor_8 (by decide) ?_
      exact hret 11 ls _ _ (-1001) (wi, gi) dX6_firstCastActor_11 rfl ⟨(by rw [if_neg (by omega)]), hgi⟩ hH hS

theorem mX6_leastCastIfFaster_1 : Cond.constantLong RX6 183 (120) ∈ wsX6_leastCastIfFaster := List.mem_of_getElem? (i := 1) rfl
set_option maxHeartbeats 4000000 in
set_option maxRecDepth 100000 in
theorem kX6_leastCastIfFaster (l : Launch) (X : XT) (h : Nat) (Q : Nat → Nat) (s : Nat → Int) (rd : Nat → Int) (kp : Nat → Int) (km : Int) (tx : Nat → Int) (ln : Int) (sp : Int) (rs : Int) (wi : Nat → Int) (gi : Nat → Int) (f : Int) (hs : okR s) (hf : inR f) (hn1 : 1 ≤ nr s) (hgi : okG gi) : Ci l yX6_leastCastIfFaster wsX6_leastCastIfFaster (rmD 7) X [.ref h, .int (iI (f))] [mO h Q km ln sp rs, aW X (Q 0) 125 s, aW X (Q 1) 125 rd, aW X (Q 2) 625 kp, aW X (Q 3) 400 tx, aW X (Q 4) 8 wi, aW X (Q 5) 8 gi] (fun (z : Int) (u : (Nat → Int) × (Nat → Int)) => match u with | (wj, gj) => z = (if 0 ≤ f ∧ f ≤ 120 then ((lc (Mk s f) (nr s) : Nat) : Int) else -1001) ∧ okG gj) (fun (u : (Nat → Int) × (Nat → Int)) => match u with | (wj, gj) => [mO h Q km ln sp rs, aW X (Q 0) 125 s, aW X (Q 1) 125 rd, aW X (Q 2) 625 kp, aW X (Q 3) 400 tx, aW X (Q 4) 8 wj, aW X (Q 5) 8 gj]) := by
  refine Ci.ofW (cc := cX6_leastCastIfFaster) (maxL := 2) (by decide) rfl (Nat.le_of_ble_eq_true rfl) ?_
  intro p_ e_ s_ m_ below meth c_ A Q_ S hA hAM hH hS hret ls hl
  have hl : lv_has ls 2 [(0, .ref (h)), (1, .int (iI (f)))] := hl
  have hk1 := hs.nr8
  have hk2 := hs.na20
  have hk3 := hs.ns10
  refine lv_iload_n S.1 S.2.1 dX6_leastCastIfFaster_0 rfl (lv_at hl 1 rfl) ?_
  refine lv_i2l (v := lI (f)) S.1 S.2.1 dX6_leastCastIfFaster_1 (lI_i (by omega)) ?_
  refine lv_lconst (v := lI (0)) S.1 S.2.1 dX6_leastCastIfFaster_2 (by decide) ?_
  refine lv_ldc2 (v := lI (120)) S.1 S.2.1 S.2.2.2.1 (zv_constL S mX6_leastCastIfFaster_1 (by decide)) dX6_leastCastIfFaster_3 ?_
  refine zc_Si (n := 3) (As := [.long (lI (f)), .long (lI (0)), .long (lI (120))]) (rest := []) S hAM hA (kX6_in l X f 0 120 (by omega) (by omega) (by omega)) rfl gX6_leastCastIfFaster_X6_in  (by decide +kernel) ⟨Nat.le_of_ble_eq_true rfl, Nat.le_of_ble_eq_true rfl⟩ hH hS [0, 1, 2, 3, 4, 5, 6] rfl 7 rfl (List.Perm.refl _)  rfl hl.1 rfl (Nat.le_of_ble_eq_true rfl) dX6_leastCastIfFaster_6 ⟨Nat.le_of_ble_eq_true rfl, Nat.le_of_ble_eq_true rfl⟩ (fun z2 _ H locs hp3 hH hS => ?_)
  have hH : Hold X A [mO h Q km ln sp rs, aW X (Q 0) 125 s, aW X (Q 1) 125 rd, aW X (Q 2) 625 kp, aW X (Q 3) 400 tx, aW X (Q 4) 8 wi, aW X (Q 5) 8 gi].flatten H := hH
  rcases hp3 with ⟨rfl, b_6⟩ | ⟨rfl, b_6⟩
  · refine zv_top (z := 1) (z2 := ((1 : Nat) : Int)) rfl ?_
    refine zv_if_eq (tgt := 20) S dX6_leastCastIfFaster_9 (by decide) (by decide) (fun c_9 => ?_) (fun c_9 => ?_)
    · exact (show False by omega).elim
    · skip
      refine lv_aload_n S.1 S.2.1 dX6_leastCastIfFaster_12 rfl (lv_at hl 0 rfl) ?_
      refine lv_iload_n S.1 S.2.1 dX6_leastCastIfFaster_13 rfl (lv_at hl 1 rfl) ?_
      refine zc_Vi (n := 1) (As := [.int (iI (f))]) (rest := []) S hAM hA (kX6_leastFor l X h Q s rd kp km tx ln sp rs wi gi f hs (by omega) hn1 hgi) rfl gX6_leastCastIfFaster_X6_leastFor  (by decide +kernel) ⟨Nat.le_of_ble_eq_true rfl, Nat.le_of_ble_eq_true rfl⟩ hH hS [0, 1, 2, 3, 4, 5, 6] rfl 7 rfl (List.Perm.refl _) 6 0 rfl rfl rfl hl.1 rfl (Nat.le_of_ble_eq_true rfl) dX6_leastCastIfFaster_14 ⟨Nat.le_of_ble_eq_true rfl, Nat.le_of_ble_eq_true rfl⟩ (fun z5 gj_4 H locs hp6 hH hS => ?_)
      have hH : Hold X A [mO h Q km ln sp rs, aW X (Q 0) 125 s, aW X (Q 1) 125 rd, aW X (Q 2) 625 kp, aW X (Q 3) 400 tx, aW X (Q 4) 8 (wiF s f wi), aW X (Q 5) 8 gj_4].flatten H := hH
      obtain ⟨rfl, okg, hfc, hlc⟩ := hp6
      refine lv_goto (tgt := 23) S.1 S.2.1 dX6_leastCastIfFaster_17 (by decide) ?_
      exact hret 23 ls _ _ (((lc (Mk s f) (nr s) : Nat) : Int)) ((wiF s f wi), gj_4) dX6_leastCastIfFaster_23 rfl ⟨(by rw [if_pos (by omega)]), okg⟩ hH hS
  · refine zv_top (z := 0) (z2 := ((0 : Nat) : Int)) rfl ?_
    refine zv_if_eq (tgt := 20) S dX6_leastCastIfFaster_9 (by decide) (by decide) (fun c_9 => ?_) (fun c_9 => ?_)
    · skip
      refine lv_sipush (v := iI (-1001)) S.1 S.2.1 dX6_leastCastIfFaster_20 (by decide) ?_
      exact hret 23 ls _ _ (-1001) (wi, gi) dX6_leastCastIfFaster_23 rfl ⟨(by rw [if_neg (by omega)]), hgi⟩ hH hS
    · exact (show False by omega).elim

theorem mX6_speedUpFor_1 : Cond.constantLong RX6 185 (8) ∈ wsX6_speedUpFor := List.mem_of_getElem? (i := 1) rfl
set_option maxHeartbeats 4000000 in
set_option maxRecDepth 100000 in
theorem kX6_speedUpFor (l : Launch) (X : XT) (h : Nat) (Q : Nat → Nat) (s : Nat → Int) (rd : Nat → Int) (kp : Nat → Int) (km : Int) (tx : Nat → Int) (ln : Int) (sp : Int) (rs : Int) (wi : Nat → Int) (gi : Nat → Int) (x : Int) (hs : okR s) (hx : inR x) (hn1 : 1 ≤ nr s) (hgi : okG gi) : Ci l yX6_speedUpFor wsX6_speedUpFor (rmD 6) X [.ref h, .int (iI (x))] [mO h Q km ln sp rs, aW X (Q 0) 125 s, aW X (Q 1) 125 rd, aW X (Q 2) 625 kp, aW X (Q 3) 400 tx, aW X (Q 4) 8 wi, aW X (Q 5) 8 gi] (fun (z : Int) (u : (Nat → Int) × (Nat → Int)) => match u with | (wj, gj) => z = suF s x ∧ okG gj) (fun (u : (Nat → Int) × (Nat → Int)) => match u with | (wj, gj) => [mO h Q km ln sp rs, aW X (Q 0) 125 s, aW X (Q 1) 125 rd, aW X (Q 2) 625 kp, aW X (Q 3) 400 tx, aW X (Q 4) 8 wj, aW X (Q 5) 8 gj]) := by
  refine Ci.ofW (cc := cX6_speedUpFor) (maxL := 3) (by decide) rfl (Nat.le_of_ble_eq_true rfl) ?_
  intro p_ e_ s_ m_ below meth c_ A Q_ S hA hAM hH hS hret ls hl
  have hl : lv_has ls 3 [(0, .ref (h)), (1, .int (iI (x)))] := hl
  have hk1 := hs.nr8
  have hk2 := hs.na20
  have hk3 := hs.ns10
  refine lv_iload_n S.1 S.2.1 dX6_speedUpFor_0 rfl (lv_at hl 1 rfl) ?_
  refine lv_i2l (v := lI (x)) S.1 S.2.1 dX6_speedUpFor_1 (lI_i (by omega)) ?_
  refine lv_lconst (v := lI (1)) S.1 S.2.1 dX6_speedUpFor_2 (by decide) ?_
  refine lv_ldc2 (v := lI (8)) S.1 S.2.1 S.2.2.2.1 (zv_constL S mX6_speedUpFor_1 (by decide)) dX6_speedUpFor_3 ?_
  refine zc_Si (n := 3) (As := [.long (lI (x)), .long (lI (1)), .long (lI (8))]) (rest := []) S hAM hA (kX6_in l X x 1 8 (by omega) (by omega) (by omega)) rfl gX6_speedUpFor_X6_in  (by decide +kernel) ⟨Nat.le_of_ble_eq_true rfl, Nat.le_of_ble_eq_true rfl⟩ hH hS [0, 1, 2, 3, 4, 5, 6] rfl 7 rfl (List.Perm.refl _)  rfl hl.1 rfl (Nat.le_of_ble_eq_true rfl) dX6_speedUpFor_6 ⟨Nat.le_of_ble_eq_true rfl, Nat.le_of_ble_eq_true rfl⟩ (fun z2 _ H locs hp3 hH hS => ?_)
  have hH : Hold X A [mO h Q km ln sp rs, aW X (Q 0) 125 s, aW X (Q 1) 125 rd, aW X (Q 2) 625 kp, aW X (Q 3) 400 tx, aW X (Q 4) 8 wi, aW X (Q 5) 8 gi].flatten H := hH
  rcases hp3 with ⟨rfl, b_6⟩ | ⟨rfl, b_6⟩
  · refine zv_top (z := 1) (z2 := ((1 : Nat) : Int)) rfl ?_
    obtain ⟨K, rfl⟩ : ∃ K : Nat, x = ((K : Nat) : Int) := ⟨x.toNat, by omega⟩
    refine zv_if_ne (tgt := 16) S dX6_speedUpFor_9 (by decide) (by decide) (fun c_9 => ?_) (fun c_9 => ?_)
    · skip
      refine lv_iconst (v := iI (((0 : Nat) : Int))) S.1 S.2.1 dX6_speedUpFor_16 (by decide) ?_
      refine lv_istore_n (lv' := [(2, .int (iI ((0 : Nat) : Int))), (0, .ref (h)), (1, .int (iI ((K : Nat) : Int)))]) S.1 S.2.1 dX6_speedUpFor_17 rfl hl (by decide) rfl (fun ls hl => ?_)
      have lp18 : ∀ (n : Nat) (L : Nat) (wv : Nat → Int) (gv : Nat → Int), 121 - L < n → (L ≤ 121) → (suS s K L (121 - L) = suS s K 0 121) → (okG gv) → ∀ (H : Heap) (locs : List Loc), Hold X A [mO h Q km ln sp rs, aW X (Q 0) 125 s, aW X (Q 1) 125 rd, aW X (Q 2) 625 kp, aW X (Q 3) 400 tx, aW X (Q 4) 8 wv, aW X (Q 5) 8 gv].flatten H → va_S A s_.heap H locs → ∀ ls : Array Slot, lv_has ls 3 [(2, .int (iI ((L : Nat) : Int))), (0, .ref (h)), (1, .int (iI ((K : Nat) : Int)))] → W p_ l e_ (rmD 6) s_ m_ (List.toArray [.ref (h), .int (iI (((K : Nat) : Int)))]) below meth c_ H locs 0 0 Q_ (F0 m_ 18 ls []) := by
        intro n
        induction n with
        | zero => intro L wv gv hmu hi hset hgv H locs hH hS ls hl; exact absurd hmu (Nat.not_lt_zero _)
        | succ n ih18 => 
          intro L wv gv hmu hi hset hgv H locs hH hS ls hl
          refine lv_iload_n S.1 S.2.1 dX6_speedUpFor_18 rfl (lv_at hl 0 rfl) ?_
          refine lv_bipush (v := iI (((120 : Nat) : Int))) S.1 S.2.1 dX6_speedUpFor_19 (by decide) ?_
          refine zv_icmp_gt (tgt := 45) S dX6_speedUpFor_21 (by decide) (by omega) (by decide) (fun c_21 => ?_) (fun c_21 => ?_)
          · skip
            refine lv_sipush (v := iI (-1004)) S.1 S.2.1 dX6_speedUpFor_45 (by decide) ?_
            exact hret 48 ls _ _ (-1004) (wv, gv) dX6_speedUpFor_48 rfl ⟨(by have e9 : L = 121 := (by omega); rw [e9] at hset; unfold suF; rw [if_pos (by omega), Int.toNat_natCast]; exact hset), hgv⟩ hH hS
          · skip
            refine lv_aload_n S.1 S.2.1 dX6_speedUpFor_24 rfl (lv_at hl 1 rfl) ?_
            refine lv_iload_n S.1 S.2.1 dX6_speedUpFor_25 rfl (lv_at hl 0 rfl) ?_
            refine zc_Vv (n := 1) (As := [.int (iI ((L : Nat) : Int))]) (rest := []) S hAM hA (kX6_layConflicts l X h Q s rd kp km tx ln sp rs wv gv ((L : Nat) : Int) hs (by omega)) rfl gX6_speedUpFor_X6_layConflicts  (by decide +kernel) ⟨Nat.le_of_ble_eq_true rfl, Nat.le_of_ble_eq_true rfl⟩ hH hS [0, 1, 2, 3, 4, 5, 6] rfl 7 rfl (List.Perm.refl _) 6 0 rfl rfl rfl hl.1 rfl (Nat.le_of_ble_eq_true rfl) dX6_speedUpFor_26 ⟨Nat.le_of_ble_eq_true rfl, Nat.le_of_ble_eq_true rfl⟩ (fun _ H locs hp6 hH hS => ?_)
            have hH : Hold X A [mO h Q km ln sp rs, aW X (Q 0) 125 s, aW X (Q 1) 125 rd, aW X (Q 2) 625 kp, aW X (Q 3) 400 tx, aW X (Q 4) 8 (wiF s ((L : Nat) : Int) wv), aW X (Q 5) 8 gv].flatten H := hH
            refine lv_aload_n S.1 S.2.1 dX6_speedUpFor_29 rfl (lv_at hl 1 rfl) ?_
            refine lv_iload_n S.1 S.2.1 dX6_speedUpFor_30 rfl (lv_at hl 2 rfl) ?_
            refine zc_Vi (n := 1) (As := [.int (iI ((K : Nat) : Int))]) (rest := []) S hAM hA (kX6_isGiven l X h Q s rd kp km tx ln sp rs (wiF s ((L : Nat) : Int) wv) gv K (Mk s ((L : Nat) : Int)) hs hn1 (by omega) (fun r hr => wiF_at hr) (fun r _ => Mk_lt hs _ r) hgv) rfl gX6_speedUpFor_X6_isGiven  (by decide +kernel) ⟨Nat.le_of_ble_eq_true rfl, Nat.le_of_ble_eq_true rfl⟩ hH hS [0, 1, 2, 3, 4, 5, 6] rfl 7 rfl (List.Perm.refl _) 6 0 rfl rfl rfl hl.1 rfl (Nat.le_of_ble_eq_true rfl) dX6_speedUpFor_31 ⟨Nat.le_of_ble_eq_true rfl, Nat.le_of_ble_eq_true rfl⟩ (fun z8 gj_7 H locs hp9 hH hS => ?_)
            have hH : Hold X A [mO h Q km ln sp rs, aW X (Q 0) 125 s, aW X (Q 1) 125 rd, aW X (Q 2) 625 kp, aW X (Q 3) 400 tx, aW X (Q 4) 8 (wiF s ((L : Nat) : Int) wv), aW X (Q 5) 8 gj_7].flatten H := hH
            rcases hp9 with ⟨rfl, b_31⟩ | ⟨rfl, b_31⟩
            · refine zv_top (z := 1) (z2 := ((1 : Nat) : Int)) rfl ?_
              obtain ⟨hg2, hf2⟩ := b_31
              obtain ⟨t, ht⟩ : ∃ t, 121 - L = t + 1 := ⟨120 - L, by omega⟩
              refine zv_if_eq (tgt := 39) S dX6_speedUpFor_34 (by decide) (by decide) (fun c_34 => ?_) (fun c_34 => ?_)
              · exact (show False by omega).elim
              · skip
                refine lv_iload_n S.1 S.2.1 dX6_speedUpFor_37 rfl (lv_at hl 0 rfl) ?_
                exact hret 38 ls _ _ (((L : Nat) : Int)) ((wiF s ((L : Nat) : Int) wv), gj_7) dX6_speedUpFor_38 rfl ⟨(by rw [ht, suS_hit (by rw [hf2]; simp)] at hset; unfold suF; rw [if_pos (by omega), Int.toNat_natCast]; exact hset), hg2⟩ hH hS
            · refine zv_top (z := 0) (z2 := ((0 : Nat) : Int)) rfl ?_
              obtain ⟨hg2, hf2⟩ := b_31
              obtain ⟨t, ht⟩ : ∃ t, 121 - L = t + 1 := ⟨120 - L, by omega⟩
              refine zv_if_eq (tgt := 39) S dX6_speedUpFor_34 (by decide) (by decide) (fun c_34 => ?_) (fun c_34 => ?_)
              · skip
                refine zv_iinc (z := (((L + 1) : Nat) : Int)) (lv' := [(2, .int (iI (((L + 1) : Nat) : Int))), (0, .ref (h)), (1, .int (iI ((K : Nat) : Int)))]) S dX6_speedUpFor_39 hl (k := 0) rfl (by omega) (by decide) rfl (fun ls hl => ?_)
                refine lv_goto (tgt := 18) S.1 S.2.1 dX6_speedUpFor_42 (by decide) ?_
                exact ih18  ((L + 1)) ((wiF s ((L : Nat) : Int) wv)) (gj_7) (by omega) (by omega) (by rw [← hset, ht, suS_miss hf2]; congr 1; omega) hg2 _ _ hH hS ls (lv_sub hl [0, 1, 2] rfl)
              · exact (show False by omega).elim
      exact lp18 (121 - (0) + 1) (0) (wi) (gi) (Nat.lt_succ_self _) (by omega) rfl hgi _ _ hH hS ls (lv_sub hl [0, 1, 2] rfl)
    · exact (show False by omega).elim
  · refine zv_top (z := 0) (z2 := ((0 : Nat) : Int)) rfl ?_
    refine zv_if_ne (tgt := 16) S dX6_speedUpFor_9 (by decide) (by decide) (fun c_9 => ?_) (fun c_9 => ?_)
    · exact (show False by omega).elim
    · skip
      refine lv_sipush (v := iI (-1001)) S.1 S.2.1 dX6_speedUpFor_12 (by decide) ?_
      exact hret 15 ls _ _ (-1001) (wi, gi) dX6_speedUpFor_15 rfl ⟨(by unfold suF; rw [if_neg (by omega)]), hgi⟩ hH hS

theorem mX6_greedyCast_1 : Cond.fieldLink RX6 7 "RoleDoublingPlannerModel" "s" "[I" ∈ wsX6_greedyCast := List.mem_of_getElem? (i := 1) rfl
theorem nX6_greedyCast_X6 : ∀ w ∈ wsX60, w ∈ wsX6_greedyCast := fun _ h => List.mem_cons_of_mem _ (List.mem_append_right _ h)
theorem mX6_greedyCast_2 : Cond.fieldLink RX6 25 "RoleDoublingPlannerModel" "given" "[I" ∈ wsX6_greedyCast := List.mem_of_getElem? (i := 2) rfl
set_option maxHeartbeats 4000000 in
set_option maxRecDepth 100000 in
theorem kX6_greedyCast (l : Launch) (X : XT) (h : Nat) (Q : Nat → Nat) (s : Nat → Int) (rd : Nat → Int) (kp : Nat → Int) (km : Int) (tx : Nat → Int) (ln : Int) (sp : Int) (rs : Int) (wi : Nat → Int) (gi : Nat → Int) (hs : okR s) (hn1 : 1 ≤ nr s) (hgi : okG gi) : Ci l yX6_greedyCast wsX6_greedyCast (rmD 6) X [.ref h] [mO h Q km ln sp rs, aW X (Q 0) 125 s, aW X (Q 1) 125 rd, aW X (Q 2) 625 kp, aW X (Q 3) 400 tx, aW X (Q 4) 8 wi, aW X (Q 5) 8 gi] (fun (z : Int) (u : (Nat → Int) × (Nat → Int)) => match u with | (wj, gj) => z = ((gm (Mk s 0) (nr s) : Nat) : Int) ∧ okG gj) (fun (u : (Nat → Int) × (Nat → Int)) => match u with | (wj, gj) => [mO h Q km ln sp rs, aW X (Q 0) 125 s, aW X (Q 1) 125 rd, aW X (Q 2) 625 kp, aW X (Q 3) 400 tx, aW X (Q 4) 8 wj, aW X (Q 5) 8 gj]) := by
  refine Ci.ofW (cc := cX6_greedyCast) (maxL := 3) (by decide) rfl (Nat.le_of_ble_eq_true rfl) ?_
  intro p_ e_ s_ m_ below meth c_ A Q_ S hA hAM hH hS hret ls hl
  have hl : lv_has ls 3 [(0, .ref (h))] := hl
  have hk1 := hs.nr8
  have hk2 := hs.na20
  have hk3 := hs.ns10
  refine lv_aload_n S.1 S.2.1 dX6_greedyCast_0 rfl (lv_at hl 0 rfl) ?_
  refine lv_iconst (v := iI (((0 : Nat) : Int))) S.1 S.2.1 dX6_greedyCast_1 (by decide) ?_
  refine zc_Vv (n := 1) (As := [.int (iI ((0 : Nat) : Int))]) (rest := []) S hAM hA (kX6_layConflicts l X h Q s rd kp km tx ln sp rs wi gi 0 hs (by omega)) rfl gX6_greedyCast_X6_layConflicts  (by decide +kernel) ⟨Nat.le_of_ble_eq_true rfl, Nat.le_of_ble_eq_true rfl⟩ hH hS [0, 1, 2, 3, 4, 5, 6] rfl 7 rfl (List.Perm.refl _) 6 0 rfl rfl rfl hl.1 rfl (Nat.le_of_ble_eq_true rfl) dX6_greedyCast_2 ⟨Nat.le_of_ble_eq_true rfl, Nat.le_of_ble_eq_true rfl⟩ (fun _ H locs hp3 hH hS => ?_)
  have hH : Hold X A [mO h Q km ln sp rs, aW X (Q 0) 125 s, aW X (Q 1) 125 rd, aW X (Q 2) 625 kp, aW X (Q 3) 400 tx, aW X (Q 4) 8 (wiF s 0 wi), aW X (Q 5) 8 gi].flatten H := hH
  refine lv_iconst (v := iI (((0 : Nat) : Int))) S.1 S.2.1 dX6_greedyCast_5 (by decide) ?_
  refine lv_istore_n (lv' := [(1, .int (iI ((0 : Nat) : Int))), (0, .ref (h))]) S.1 S.2.1 dX6_greedyCast_6 rfl hl (by decide) rfl (fun ls hl => ?_)
  refine lv_iconst (v := iI (((0 : Nat) : Int))) S.1 S.2.1 dX6_greedyCast_7 (by decide) ?_
  refine lv_istore_n (lv' := [(2, .int (iI ((0 : Nat) : Int))), (1, .int (iI ((0 : Nat) : Int))), (0, .ref (h))]) S.1 S.2.1 dX6_greedyCast_8 rfl hl (by decide) rfl (fun ls hl => ?_)
  have lp9 : ∀ (n : Nat) (r : Nat) (most : Nat) (gv : Nat → Int), nr s - r < n → (r ≤ nr s) → (most = gm (Mk s 0) r) → (okG gv) → (∀ p, p < r → 0 ≤ gv p ∧ gv p ≤ (p : Int)) → (cut r gv = gG (Mk s 0) r) → (most ≤ 9) → ∀ (H : Heap) (locs : List Loc), Hold X A [mO h Q km ln sp rs, aW X (Q 0) 125 s, aW X (Q 1) 125 rd, aW X (Q 2) 625 kp, aW X (Q 3) 400 tx, aW X (Q 4) 8 (wiF s 0 wi), aW X (Q 5) 8 gv].flatten H → va_S A s_.heap H locs → ∀ ls : Array Slot, lv_has ls 3 [(2, .int (iI ((r : Nat) : Int))), (1, .int (iI ((most : Nat) : Int))), (0, .ref (h))] → W p_ l e_ (rmD 6) s_ m_ (List.toArray [.ref (h)]) below meth c_ H locs 0 0 Q_ (F0 m_ 9 ls []) := by
    intro n
    induction n with
    | zero => intro r most gv hmu hi hset hgv hlo hcut hm9 H locs hH hS ls hl; exact absurd hmu (Nat.not_lt_zero _)
    | succ n ih9 => 
      intro r most gv hmu hi hset hgv hlo hcut hm9 H locs hH hS ls hl
      refine lv_iload_n S.1 S.2.1 dX6_greedyCast_9 rfl (lv_at hl 0 rfl) ?_
      refine lv_aload_n S.1 S.2.1 dX6_greedyCast_10 rfl (lv_at hl 2 rfl) ?_
      refine zv_get (v := .ref (Q 0)) S hAM hH nX6_greedyCast_X6 0 rfl rfl 0 (by decide) mX6_greedyCast_1 rfl rfl dX6_greedyCast_11 ?_
      refine lv_bipush (v := iI (((11 : Nat) : Int))) S.1 S.2.1 dX6_greedyCast_14 (by decide) ?_
      refine zv_iald S hAM hH 1 rfl (11) rfl (by decide) (by decide) dX6_greedyCast_16 ?_
      refine zv_top (z := s 11) (z2 := ((nr s : Nat) : Int)) hs.e11 ?_
      refine zv_icmp_ge (tgt := 85) S dX6_greedyCast_17 (by decide) (by omega) (by omega) (fun c_17 => ?_) (fun c_17 => ?_)
      · skip
        refine lv_iload_n S.1 S.2.1 dX6_greedyCast_85 rfl (lv_at hl 1 rfl) ?_
        exact hret 86 ls _ _ (((most : Nat) : Int)) ((wiF s 0 wi), gv) dX6_greedyCast_86 rfl ⟨(by have e9 : r = nr s := (by omega); rw [hset, e9]), hgv⟩ hH hS
      · skip
        refine lv_aload_n S.1 S.2.1 dX6_greedyCast_20 rfl (lv_at hl 2 rfl) ?_
        refine zv_get (v := .ref (Q 5)) S hAM hH nX6_greedyCast_X6 0 rfl rfl 9 (by decide) mX6_greedyCast_2 rfl rfl dX6_greedyCast_21 ?_
        refine lv_iload_n S.1 S.2.1 dX6_greedyCast_24 rfl (lv_at hl 0 rfl) ?_
        refine lv_iconst (v := iI (((0 : Nat) : Int))) S.1 S.2.1 dX6_greedyCast_25 (by decide) ?_
        refine zv_iast (z := ((0 : Nat) : Int)) (w2 := [mO h Q km ln sp rs, aW X (Q 0) 125 s, aW X (Q 1) 125 rd, aW X (Q 2) 625 kp, aW X (Q 3) 400 tx, aW X (Q 4) 8 (wiF s 0 wi), aW X (Q 5) 8 (uI gv r (((0 : Nat) : Int)))].flatten) S hAM hH hS 6 rfl (r) rfl (by omega) (by decide) rfl dX6_greedyCast_26 (fun H locs hH hS => ?_)
        have lp27 : ∀ (n : Nat) (x : Nat) (gu : Nat → Int), r - x < n → (x ≤ r) → (gu r = ((x : Nat) : Int)) → (∀ k, k < r → gu k = gv k) → (okG gu) → (lfS (Mk s 0) (gG (Mk s 0) r) r x (r - x) = gcol (Mk s 0) (gG (Mk s 0) r) r) → ∀ (H : Heap) (locs : List Loc), Hold X A [mO h Q km ln sp rs, aW X (Q 0) 125 s, aW X (Q 1) 125 rd, aW X (Q 2) 625 kp, aW X (Q 3) 400 tx, aW X (Q 4) 8 (wiF s 0 wi), aW X (Q 5) 8 gu].flatten H → va_S A s_.heap H locs → ∀ ls : Array Slot, lv_has ls 3 [(2, .int (iI ((r : Nat) : Int))), (1, .int (iI ((most : Nat) : Int))), (0, .ref (h))] → W p_ l e_ (rmD 6) s_ m_ (List.toArray [.ref (h)]) below meth c_ H locs 0 0 Q_ (F0 m_ 27 ls []) := by
          intro n
          induction n with
          | zero => intro x gu hmu hx hgx hlo2 hgu hset2 H locs hH hS ls hl; exact absurd hmu (Nat.not_lt_zero _)
          | succ n ih27 => 
            intro x gu hmu hx hgx hlo2 hgu hset2 H locs hH hS ls hl
            refine lv_aload_n S.1 S.2.1 dX6_greedyCast_27 rfl (lv_at hl 2 rfl) ?_
            refine lv_iload_n S.1 S.2.1 dX6_greedyCast_28 rfl (lv_at hl 0 rfl) ?_
            refine lv_aload_n S.1 S.2.1 dX6_greedyCast_29 rfl (lv_at hl 2 rfl) ?_
            refine zv_get (v := .ref (Q 5)) S hAM hH nX6_greedyCast_X6 0 rfl rfl 9 (by decide) mX6_greedyCast_2 rfl rfl dX6_greedyCast_30 ?_
            refine lv_iload_n S.1 S.2.1 dX6_greedyCast_33 rfl (lv_at hl 0 rfl) ?_
            refine zv_iald S hAM hH 6 rfl (r) rfl (by omega) (by decide) dX6_greedyCast_34 ?_
            refine zv_top (z := gu r) (z2 := ((x : Nat) : Int)) hgx ?_
            refine zc_Vi (n := 2) (As := [.int (iI ((r : Nat) : Int)), .int (iI ((x : Nat) : Int))]) (rest := []) S hAM hA (kX6_mayHave l X h Q s rd kp km tx ln sp rs (wiF s 0 wi) gu r ((x : Nat) : Int) (Mk s 0 r) (by omega) (by omega) (wiF_at (by omega)) (Mk_lt hs _ _) (fun k hk => hgu.inR k hk)) rfl gX6_greedyCast_X6_mayHave  (by decide +kernel) ⟨Nat.le_of_ble_eq_true rfl, Nat.le_of_ble_eq_true rfl⟩ hH hS [0, 1, 2, 3, 4, 5, 6] rfl 7 rfl (List.Perm.refl _) 6 0 rfl rfl rfl hl.1 rfl (Nat.le_of_ble_eq_true rfl) dX6_greedyCast_35 ⟨Nat.le_of_ble_eq_true rfl, Nat.le_of_ble_eq_true rfl⟩ (fun z5 _ H locs hp6 hH hS => ?_)
            have hH : Hold X A [mO h Q km ln sp rs, aW X (Q 0) 125 s, aW X (Q 1) 125 rd, aW X (Q 2) 625 kp, aW X (Q 3) 400 tx, aW X (Q 4) 8 (wiF s 0 wi), aW X (Q 5) 8 gu].flatten H := hH
            rcases hp6 with ⟨rfl, b_35⟩ | ⟨rfl, b_35⟩
            · refine zv_top (z := 1) (z2 := ((1 : Nat) : Int)) rfl ?_
              have hcol : gcol (Mk s 0) (gG (Mk s 0) r) r = x := by rw [← hset2]; exact lfS_hit (by rw [← hcut, mhI_cut, ← mhI_cong _ _ r (fun k hk => hlo2 k hk)]; exact b_35)
              refine zv_if_ne (tgt := 54) S dX6_greedyCast_38 (by decide) (by decide) (fun c_38 => ?_) (fun c_38 => ?_)
              · skip
                refine lv_aload_n S.1 S.2.1 dX6_greedyCast_54 rfl (lv_at hl 2 rfl) ?_
                refine zv_get (v := .ref (Q 5)) S hAM hH nX6_greedyCast_X6 0 rfl rfl 9 (by decide) mX6_greedyCast_2 rfl rfl dX6_greedyCast_55 ?_
                refine lv_iload_n S.1 S.2.1 dX6_greedyCast_58 rfl (lv_at hl 0 rfl) ?_
                refine zv_iald S hAM hH 6 rfl (r) rfl (by omega) (by decide) dX6_greedyCast_59 ?_
                refine zv_top (z := gu r) (z2 := ((x : Nat) : Int)) hgx ?_
                refine lv_iconst (v := iI (((1 : Nat) : Int))) S.1 S.2.1 dX6_greedyCast_60 (by decide) ?_
                refine zv_iadd (z := (((x + 1) : Nat) : Int)) S dX6_greedyCast_61 (by omega) ?_
                refine lv_iload_n S.1 S.2.1 dX6_greedyCast_62 rfl (lv_at hl 1 rfl) ?_
                refine zv_icmp_le (tgt := 77) S dX6_greedyCast_63 (by decide) (by omega) (by omega) (fun c_63 => ?_) (fun c_63 => ?_)
                · skip
                  refine lv_iload_n S.1 S.2.1 dX6_greedyCast_77 rfl (lv_at hl 1 rfl) ?_
                  refine lv_istore_n (lv' := [(1, .int (iI ((most : Nat) : Int))), (2, .int (iI ((r : Nat) : Int))), (0, .ref (h))]) S.1 S.2.1 dX6_greedyCast_78 rfl hl (by decide) rfl (fun ls hl => ?_)
                  refine zv_iinc (z := (((r + 1) : Nat) : Int)) (lv' := [(2, .int (iI (((r + 1) : Nat) : Int))), (1, .int (iI ((most : Nat) : Int))), (0, .ref (h))]) S dX6_greedyCast_79 hl (k := 1) rfl (by omega) (by decide) rfl (fun ls hl => ?_)
                  refine lv_goto (tgt := 9) S.1 S.2.1 dX6_greedyCast_82 (by decide) ?_
                  exact ih9  ((r + 1)) (most) (gu) (by omega) (by omega) (by rw [gm, hcol]; split <;> first | rfl | (rw [hset]; done) | (exfalso; omega)) hgu (fun p hp => by by_cases e7 : p = r; (rw [e7, hgx]; omega); (rw [hlo2 p (by omega)]; exact hlo p (by omega))) (by rw [gG, hcol, ← hcut]; exact cut_s (fun k hk => hlo2 k hk) hgx) (by omega) _ _ hH hS ls (lv_sub hl [0, 1, 2] rfl)
                · skip
                  refine lv_aload_n S.1 S.2.1 dX6_greedyCast_66 rfl (lv_at hl 2 rfl) ?_
                  refine zv_get (v := .ref (Q 5)) S hAM hH nX6_greedyCast_X6 0 rfl rfl 9 (by decide) mX6_greedyCast_2 rfl rfl dX6_greedyCast_67 ?_
                  refine lv_iload_n S.1 S.2.1 dX6_greedyCast_70 rfl (lv_at hl 0 rfl) ?_
                  refine zv_iald S hAM hH 6 rfl (r) rfl (by omega) (by decide) dX6_greedyCast_71 ?_
                  refine zv_top (z := gu r) (z2 := ((x : Nat) : Int)) hgx ?_
                  refine lv_iconst (v := iI (((1 : Nat) : Int))) S.1 S.2.1 dX6_greedyCast_72 (by decide) ?_
                  refine zv_iadd (z := (((x + 1) : Nat) : Int)) S dX6_greedyCast_73 (by omega) ?_
                  refine lv_goto (tgt := 78) S.1 S.2.1 dX6_greedyCast_74 (by decide) ?_
                  refine lv_istore_n (lv' := [(1, .int (iI (((x + 1) : Nat) : Int))), (2, .int (iI ((r : Nat) : Int))), (0, .ref (h))]) S.1 S.2.1 dX6_greedyCast_78 rfl hl (by decide) rfl (fun ls hl => ?_)
                  refine zv_iinc (z := (((r + 1) : Nat) : Int)) (lv' := [(2, .int (iI (((r + 1) : Nat) : Int))), (1, .int (iI (((x + 1) : Nat) : Int))), (0, .ref (h))]) S dX6_greedyCast_79 hl (k := 1) rfl (by omega) (by decide) rfl (fun ls hl => ?_)
                  refine lv_goto (tgt := 9) S.1 S.2.1 dX6_greedyCast_82 (by decide) ?_
                  exact ih9  ((r + 1)) ((x + 1)) (gu) (by omega) (by omega) (by rw [gm, hcol]; split <;> first | rfl | (rw [hset]; done) | (exfalso; omega)) hgu (fun p hp => by by_cases e7 : p = r; (rw [e7, hgx]; omega); (rw [hlo2 p (by omega)]; exact hlo p (by omega))) (by rw [gG, hcol, ← hcut]; exact cut_s (fun k hk => hlo2 k hk) hgx) (by omega) _ _ hH hS ls (lv_sub hl [0, 1, 2] rfl)
              · exact (show False by omega).elim
            · refine zv_top (z := 0) (z2 := ((0 : Nat) : Int)) rfl ?_
              have hz0 : mhI gu (Mk s 0 r) ((x : Nat) : Int) r = 0 := Classical.not_not.mp b_35
              have hxr : x ≠ r := fun e => mh_free (M := Mk s 0) (g := gu) (r := r) (fun p hp => by rw [hlo2 p hp]; have := hlo p hp; omega) (by rw [← e]; rw [e]; rw [e] at hz0; exact hz0)
              have hgx5 := hgu r (by omega)
              refine zv_if_ne (tgt := 54) S dX6_greedyCast_38 (by decide) (by decide) (fun c_38 => ?_) (fun c_38 => ?_)
              · exact (show False by omega).elim
              · skip
                refine lv_aload_n S.1 S.2.1 dX6_greedyCast_41 rfl (lv_at hl 2 rfl) ?_
                refine zv_get (v := .ref (Q 5)) S hAM hH nX6_greedyCast_X6 0 rfl rfl 9 (by decide) mX6_greedyCast_2 rfl rfl dX6_greedyCast_42 ?_
                refine lv_iload_n S.1 S.2.1 dX6_greedyCast_45 rfl (lv_at hl 0 rfl) ?_
                refine lv_dup2_11 S.1 S.2.1 dX6_greedyCast_46 rfl rfl ?_
                refine zv_iald S hAM hH 6 rfl (r) rfl (by omega) (by decide) dX6_greedyCast_47 ?_
                refine lv_iconst (v := iI (((1 : Nat) : Int))) S.1 S.2.1 dX6_greedyCast_48 (by decide) ?_
                refine zv_iadd (z := (gu r + ((1 : Nat) : Int))) S dX6_greedyCast_49 rfl ?_
                refine zv_iast (z := (gu r + ((1 : Nat) : Int))) (w2 := [mO h Q km ln sp rs, aW X (Q 0) 125 s, aW X (Q 1) 125 rd, aW X (Q 2) 625 kp, aW X (Q 3) 400 tx, aW X (Q 4) 8 (wiF s 0 wi), aW X (Q 5) 8 (uI gu r ((gu r + ((1 : Nat) : Int))))].flatten) S hAM hH hS 6 rfl (r) rfl (by omega) (by decide) rfl dX6_greedyCast_50 (fun H locs hH hS => ?_)
                refine lv_goto (tgt := 27) S.1 S.2.1 dX6_greedyCast_51 (by decide) ?_
                exact ih27  (x + 1) (uI gu r ((gu r + ((1 : Nat) : Int)))) (by omega) (by omega) (by rw [uI_s, hgx]; omega) (fun k hk => by rw [uI_n (by omega)]; exact hlo2 k hk) (hgu.up _ _ (by omega)) (by rw [← hset2]; exact (lfS_miss (x := x) (f := r - x) (by rw [← hcut, mhI_cut, ← mhI_cong _ _ r (fun k hk => hlo2 k hk)]; exact hz0) (by omega)).symm) _ _ hH hS ls (lv_sub hl [0, 1, 2] rfl)
        exact lp27 (r - (0) + 1) (0) (uI gv r (((0 : Nat) : Int))) (Nat.lt_succ_self _) (Nat.zero_le _) (uI_s _ _ _) (fun k hk => uI_n (by omega)) (hgv.up _ _ (by omega)) rfl _ _ hH hS ls (lv_sub hl [0, 1, 2] rfl)
  exact lp9 (nr s - (0) + 1) (0) (0) (gi) (Nat.lt_succ_self _) (Nat.zero_le _) rfl hgi (fun p hp => absurd hp (Nat.not_lt_zero p)) (cut_0 _) (by omega) _ _ hH hS ls (lv_sub hl [0, 1, 2] rfl)
