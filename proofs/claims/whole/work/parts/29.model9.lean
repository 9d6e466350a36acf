theorem mX6_voice_1 : Cond.fieldLink RX6 59 "RoleDoublingPlannerModel" "reason" "I" ∈ wsX6_voice := List.mem_of_getElem? (i := 1) rfl
theorem nX6_voice_X6 : ∀ w ∈ wsX60, w ∈ wsX6_voice := fun _ h => List.mem_cons_of_mem _ (List.mem_append_right _ h)
set_option maxHeartbeats 4000000 in
set_option maxRecDepth 100000 in
theorem kX6_voice (l : Launch) (X : XT) (h : Nat) (Q : Nat → Nat) (s : Nat → Int) (rd : Nat → Int) (kp : Nat → Int) (km : Int) (tx : Nat → Int) (lnn : Nat) (p : Nat) (wi : Nat → Int) (gi : Nat → Int) (ht : okT tx lnn) (hp : p ≤ lnn) : Ci l yX6_voice wsX6_voice (rmD 3) X [.ref h] [mO h Q km ((lnn : Nat) : Int) ((p : Nat) : Int) ((0 : Nat) : Int), aW X (Q 0) 125 s, aW X (Q 1) 125 rd, aW X (Q 2) 625 kp, aW X (Q 3) 400 tx, aW X (Q 4) 8 wi, aW X (Q 5) 8 gi] (fun (z : Int) (u : (Nat) × (Nat)) => match u with | (sj, rj) => (rj = 2 ∧ z = 0 ∧ sj ≤ lnn + 1 ∧ ¬ (p < lnn ∧ tx p = 32)) ∨ (rj = 0 ∧ z = 0 ∧ sj = we tx lnn (p + 1) ∧ (p < lnn ∧ tx p = 32) ∧ wdV tx (p + 1) (we tx lnn (p + 1) - (p + 1)) = nmd 108 111 119 0 0) ∨ (rj = 0 ∧ z = 1 ∧ sj = we tx lnn (p + 1) ∧ (p < lnn ∧ tx p = 32) ∧ ¬ wdV tx (p + 1) (we tx lnn (p + 1) - (p + 1)) = nmd 108 111 119 0 0 ∧ wdV tx (p + 1) (we tx lnn (p + 1) - (p + 1)) = nmd 104 105 103 104 0) ∨ (rj = 0 ∧ z = 2 ∧ sj = we tx lnn (p + 1) ∧ (p < lnn ∧ tx p = 32) ∧ ¬ wdV tx (p + 1) (we tx lnn (p + 1) - (p + 1)) = nmd 108 111 119 0 0 ∧ ¬ wdV tx (p + 1) (we tx lnn (p + 1) - (p + 1)) = nmd 104 105 103 104 0 ∧ wdV tx (p + 1) (we tx lnn (p + 1) - (p + 1)) = nmd 99 104 105 108 100) ∨ (rj = 1 ∧ z = -1 ∧ sj = we tx lnn (p + 1) ∧ (p < lnn ∧ tx p = 32) ∧ ¬ wdV tx (p + 1) (we tx lnn (p + 1) - (p + 1)) = nmd 108 111 119 0 0 ∧ ¬ wdV tx (p + 1) (we tx lnn (p + 1) - (p + 1)) = nmd 104 105 103 104 0 ∧ ¬ wdV tx (p + 1) (we tx lnn (p + 1) - (p + 1)) = nmd 99 104 105 108 100)) (fun (u : (Nat) × (Nat)) => match u with | (sj, rj) => [mO h Q km ((lnn : Nat) : Int) ((sj : Nat) : Int) ((rj : Nat) : Int), aW X (Q 0) 125 s, aW X (Q 1) 125 rd, aW X (Q 2) 625 kp, aW X (Q 3) 400 tx, aW X (Q 4) 8 wi, aW X (Q 5) 8 gi]) := by
  refine Ci.ofW (cc := cX6_voice) (maxL := 3) (by decide) rfl (Nat.le_of_ble_eq_true rfl) ?_
  intro p_ e_ s_ m_ below meth c_ A Q_ S hA hAM hH hS hret ls hl
  have hl : lv_has ls 3 [(0, .ref (h))] := hl
  have hL := ht.1
  refine lv_aload_n S.1 S.2.1 dX6_voice_0 rfl (lv_at hl 0 rfl) ?_
  refine lv_bipush (v := iI (((32 : Nat) : Int))) S.1 S.2.1 dX6_voice_1 (by decide) ?_
  refine zc_Vv (n := 1) (As := [.int (iI ((32 : Nat) : Int))]) (rest := []) S hAM hA (kX6_wants l X h Q s rd kp km tx lnn p 0 wi gi 32 ht (by decide) (by omega) (by omega)) rfl gX6_voice_X6_wants  (by decide +kernel) ⟨Nat.le_of_ble_eq_true rfl, Nat.le_of_ble_eq_true rfl⟩ hH hS [0, 1, 2, 3, 4, 5, 6] rfl 7 rfl (List.Perm.refl _) 6 0 rfl rfl rfl hl.1 rfl (Nat.le_of_ble_eq_true rfl) dX6_voice_3 ⟨Nat.le_of_ble_eq_true rfl, Nat.le_of_ble_eq_true rfl⟩ (fun u3 H locs hp5 hH hS => ?_)
  obtain ⟨sj_1, rj_2⟩ := u3
  have hH : Hold X A [mO h Q km ((lnn : Nat) : Int) ((sj_1 : Nat) : Int) ((rj_2 : Nat) : Int), aW X (Q 0) 125 s, aW X (Q 1) 125 rd, aW X (Q 2) 625 kp, aW X (Q 3) 400 tx, aW X (Q 4) 8 wi, aW X (Q 5) 8 gi].flatten H := hH
  have hw_3 := hp5
  rcases hw_3 with ⟨q1, -⟩ | ⟨-, rfl, rfl, q2⟩ | ⟨-, rfl, rfl, q2⟩
  · exact absurd rfl q1
  · skip
    refine lv_aload_n S.1 S.2.1 dX6_voice_6 rfl (lv_at hl 0 rfl) ?_
    refine zv_get (v := .int (iI ((0 : Nat) : Int))) S hAM hH nX6_voice_X6 0 rfl rfl 7 (by decide) mX6_voice_1 rfl rfl dX6_voice_7 ?_
    refine zv_if_eq (tgt := 15) S dX6_voice_10 (by decide) (by decide) (fun c_10 => ?_) (fun c_10 => ?_)
    · skip
      refine lv_aload_n S.1 S.2.1 dX6_voice_15 rfl (lv_at hl 0 rfl) ?_
      refine zc_Vi (n := 0) (As := []) (rest := []) S hAM hA (kX6_word l X h Q s rd kp km tx lnn (p + 1) 0 wi gi ht (by omega)) rfl gX6_voice_X6_word  (by decide +kernel) ⟨Nat.le_of_ble_eq_true rfl, Nat.le_of_ble_eq_true rfl⟩ hH hS [0, 1, 2, 3, 4, 5, 6] rfl 7 rfl (List.Perm.refl _) 6 0 rfl rfl rfl hl.1 rfl (Nat.le_of_ble_eq_true rfl) dX6_voice_16 ⟨Nat.le_of_ble_eq_true rfl, Nat.le_of_ble_eq_true rfl⟩ (fun z7 _ H locs hp8 hH hS => ?_)
      have hH : Hold X A [mO h Q km ((lnn : Nat) : Int) (((we tx lnn (p + 1)) : Nat) : Int) ((0 : Nat) : Int), aW X (Q 0) 125 s, aW X (Q 1) 125 rd, aW X (Q 2) 625 kp, aW X (Q 3) 400 tx, aW X (Q 4) 8 wi, aW X (Q 5) 8 gi].flatten H := hH
      obtain rfl := hp8
      refine lv_istore_n (lv' := [(1, .int (iI (wdV tx (p + 1) (we tx lnn (p + 1) - (p + 1))))), (0, .ref (h))]) S.1 S.2.1 dX6_voice_19 rfl hl (by decide) rfl (fun ls hl => ?_)
      refine lv_iload_n S.1 S.2.1 dX6_voice_20 rfl (lv_at hl 0 rfl) ?_
      refine lv_bipush (v := iI (((108 : Nat) : Int))) S.1 S.2.1 dX6_voice_21 (by decide) ?_
      refine lv_bipush (v := iI (((111 : Nat) : Int))) S.1 S.2.1 dX6_voice_23 (by decide) ?_
      refine lv_bipush (v := iI (((119 : Nat) : Int))) S.1 S.2.1 dX6_voice_25 (by decide) ?_
      refine lv_iconst (v := iI (((0 : Nat) : Int))) S.1 S.2.1 dX6_voice_27 (by decide) ?_
      refine lv_iconst (v := iI (((0 : Nat) : Int))) S.1 S.2.1 dX6_voice_28 (by decide) ?_
      refine zc_Si (n := 5) (As := [.int (iI ((108 : Nat) : Int)), .int (iI ((111 : Nat) : Int)), .int (iI ((119 : Nat) : Int)), .int (iI ((0 : Nat) : Int)), .int (iI ((0 : Nat) : Int))]) (rest := [.int (iI (wdV tx (p + 1) (we tx lnn (p + 1) - (p + 1))))]) S hAM hA (kX6_named l X 108 111 119 0 0 (by decide) (by decide)) rfl gX6_voice_X6_named  (by decide +kernel) ⟨Nat.le_of_ble_eq_true rfl, Nat.le_of_ble_eq_true rfl⟩ hH hS [0, 1, 2, 3, 4, 5, 6] rfl 7 rfl (List.Perm.refl _)  rfl hl.1 rfl (Nat.le_of_ble_eq_true rfl) dX6_voice_29 ⟨Nat.le_of_ble_eq_true rfl, Nat.le_of_ble_eq_true rfl⟩ (fun z10 _ H locs hp11 hH hS => ?_)
      have hH : Hold X A [mO h Q km ((lnn : Nat) : Int) (((we tx lnn (p + 1)) : Nat) : Int) ((0 : Nat) : Int), aW X (Q 0) 125 s, aW X (Q 1) 125 rd, aW X (Q 2) 625 kp, aW X (Q 3) 400 tx, aW X (Q 4) 8 wi, aW X (Q 5) 8 gi].flatten H := hH
      obtain rfl := hp11
      refine zv_icmp_ne (tgt := 39) S dX6_voice_32 (by decide) (wdV_R _ _ _) (by decide) (fun c_32 => ?_) (fun c_32 => ?_)
      · skip
        refine lv_iload_n S.1 S.2.1 dX6_voice_39 rfl (lv_at hl 0 rfl) ?_
        refine lv_bipush (v := iI (((104 : Nat) : Int))) S.1 S.2.1 dX6_voice_40 (by decide) ?_
        refine lv_bipush (v := iI (((105 : Nat) : Int))) S.1 S.2.1 dX6_voice_42 (by decide) ?_
        refine lv_bipush (v := iI (((103 : Nat) : Int))) S.1 S.2.1 dX6_voice_44 (by decide) ?_
        refine lv_bipush (v := iI (((104 : Nat) : Int))) S.1 S.2.1 dX6_voice_46 (by decide) ?_
        refine lv_iconst (v := iI (((0 : Nat) : Int))) S.1 S.2.1 dX6_voice_48 (by decide) ?_
        refine zc_Si (n := 5) (As := [.int (iI ((104 : Nat) : Int)), .int (iI ((105 : Nat) : Int)), .int (iI ((103 : Nat) : Int)), .int (iI ((104 : Nat) : Int)), .int (iI ((0 : Nat) : Int))]) (rest := [.int (iI (wdV tx (p + 1) (we tx lnn (p + 1) - (p + 1))))]) S hAM hA (kX6_named l X 104 105 103 104 0 (by decide) (by decide)) rfl gX6_voice_X6_named  (by decide +kernel) ⟨Nat.le_of_ble_eq_true rfl, Nat.le_of_ble_eq_true rfl⟩ hH hS [0, 1, 2, 3, 4, 5, 6] rfl 7 rfl (List.Perm.refl _)  rfl hl.1 rfl (Nat.le_of_ble_eq_true rfl) dX6_voice_49 ⟨Nat.le_of_ble_eq_true rfl, Nat.le_of_ble_eq_true rfl⟩ (fun z13 _ H locs hp14 hH hS => ?_)
        have hH : Hold X A [mO h Q km ((lnn : Nat) : Int) (((we tx lnn (p + 1)) : Nat) : Int) ((0 : Nat) : Int), aW X (Q 0) 125 s, aW X (Q 1) 125 rd, aW X (Q 2) 625 kp, aW X (Q 3) 400 tx, aW X (Q 4) 8 wi, aW X (Q 5) 8 gi].flatten H := hH
        obtain rfl := hp14
        refine zv_icmp_ne (tgt := 59) S dX6_voice_52 (by decide) (wdV_R _ _ _) (by decide) (fun c_52 => ?_) (fun c_52 => ?_)
        · skip
          refine lv_iload_n S.1 S.2.1 dX6_voice_59 rfl (lv_at hl 0 rfl) ?_
          refine lv_bipush (v := iI (((99 : Nat) : Int))) S.1 S.2.1 dX6_voice_60 (by decide) ?_
          refine lv_bipush (v := iI (((104 : Nat) : Int))) S.1 S.2.1 dX6_voice_62 (by decide) ?_
          refine lv_bipush (v := iI (((105 : Nat) : Int))) S.1 S.2.1 dX6_voice_64 (by decide) ?_
          refine lv_bipush (v := iI (((108 : Nat) : Int))) S.1 S.2.1 dX6_voice_66 (by decide) ?_
          refine lv_bipush (v := iI (((100 : Nat) : Int))) S.1 S.2.1 dX6_voice_68 (by decide) ?_
          refine zc_Si (n := 5) (As := [.int (iI ((99 : Nat) : Int)), .int (iI ((104 : Nat) : Int)), .int (iI ((105 : Nat) : Int)), .int (iI ((108 : Nat) : Int)), .int (iI ((100 : Nat) : Int))]) (rest := [.int (iI (wdV tx (p + 1) (we tx lnn (p + 1) - (p + 1))))]) S hAM hA (kX6_named l X 99 104 105 108 100 (by decide) (by decide)) rfl gX6_voice_X6_named  (by decide +kernel) ⟨Nat.le_of_ble_eq_true rfl, Nat.le_of_ble_eq_true rfl⟩ hH hS [0, 1, 2, 3, 4, 5, 6] rfl 7 rfl (List.Perm.refl _)  rfl hl.1 rfl (Nat.le_of_ble_eq_true rfl) dX6_voice_70 ⟨Nat.le_of_ble_eq_true rfl, Nat.le_of_ble_eq_true rfl⟩ (fun z16 _ H locs hp17 hH hS => ?_)
          have hH : Hold X A [mO h Q km ((lnn : Nat) : Int) (((we tx lnn (p + 1)) : Nat) : Int) ((0 : Nat) : Int), aW X (Q 0) 125 s, aW X (Q 1) 125 rd, aW X (Q 2) 625 kp, aW X (Q 3) 400 tx, aW X (Q 4) 8 wi, aW X (Q 5) 8 gi].flatten H := hH
          obtain rfl := hp17
          refine zv_icmp_ne (tgt := 80) S dX6_voice_73 (by decide) (wdV_R _ _ _) (by decide) (fun c_73 => ?_) (fun c_73 => ?_)
          · skip
            refine lv_iconst (v := iI (-1)) S.1 S.2.1 dX6_voice_80 (by decide) ?_
            refine lv_istore_n (lv' := [(2, .int (iI (-1))), (1, .int (iI (wdV tx (p + 1) (we tx lnn (p + 1) - (p + 1))))), (0, .ref (h))]) S.1 S.2.1 dX6_voice_81 rfl hl (by decide) rfl (fun ls hl => ?_)
            refine lv_aload_n S.1 S.2.1 dX6_voice_82 rfl (lv_at hl 2 rfl) ?_
            refine lv_iload_n S.1 S.2.1 dX6_voice_83 rfl (lv_at hl 0 rfl) ?_
            refine lv_iconst (v := iI (-1)) S.1 S.2.1 dX6_voice_84 (by decide) ?_
            refine zv_icmp_ne (tgt := 92) S dX6_voice_85 (by decide) (by decide) (by decide) (fun c_85 => ?_) (fun c_85 => ?_)
            · exact (show False by omega).elim
            · skip
              refine lv_iconst (v := iI (((1 : Nat) : Int))) S.1 S.2.1 dX6_voice_88 (by decide) ?_
              refine lv_goto (tgt := 93) S.1 S.2.1 dX6_voice_89 (by decide) ?_
              refine zv_put (v := .int (iI ((1 : Nat) : Int))) (w2 := [mO h Q km ((lnn : Nat) : Int) (((we tx lnn (p + 1)) : Nat) : Int) ((1 : Nat) : Int), aW X (Q 0) 125 s, aW X (Q 1) 125 rd, aW X (Q 2) 625 kp, aW X (Q 3) 400 tx, aW X (Q 4) 8 wi, aW X (Q 5) 8 gi].flatten) S hAM hH hS nX6_voice_X6 tyX6 tyX6_ok nmX6 0 rfl rfl 7 (by decide) mX6_voice_1 rfl rfl rfl rfl (Nat.le_of_ble_eq_true rfl) rfl dX6_voice_93 (fun H locs hH hS => ?_)
              refine lv_iload_n S.1 S.2.1 dX6_voice_96 rfl (lv_at hl 0 rfl) ?_
              exact hret 97 ls _ _ (-1) ((we tx lnn (p + 1)), 1) dX6_voice_97 rfl (Or.inr (Or.inr (Or.inr (Or.inr ⟨rfl, rfl, rfl, q2, c_32, c_52, c_73⟩)))) hH hS
          · skip
            refine lv_iconst (v := iI (((2 : Nat) : Int))) S.1 S.2.1 dX6_voice_76 (by decide) ?_
            refine lv_goto (tgt := 81) S.1 S.2.1 dX6_voice_77 (by decide) ?_
            refine lv_istore_n (lv' := [(2, .int (iI ((2 : Nat) : Int))), (1, .int (iI (wdV tx (p + 1) (we tx lnn (p + 1) - (p + 1))))), (0, .ref (h))]) S.1 S.2.1 dX6_voice_81 rfl hl (by decide) rfl (fun ls hl => ?_)
            refine lv_aload_n S.1 S.2.1 dX6_voice_82 rfl (lv_at hl 2 rfl) ?_
            refine lv_iload_n S.1 S.2.1 dX6_voice_83 rfl (lv_at hl 0 rfl) ?_
            refine lv_iconst (v := iI (-1)) S.1 S.2.1 dX6_voice_84 (by decide) ?_
            refine zv_icmp_ne (tgt := 92) S dX6_voice_85 (by decide) (by decide) (by decide) (fun c_85 => ?_) (fun c_85 => ?_)
            · skip
              refine lv_iconst (v := iI (((0 : Nat) : Int))) S.1 S.2.1 dX6_voice_92 (by decide) ?_
              refine zv_put (v := .int (iI ((0 : Nat) : Int))) (w2 := [mO h Q km ((lnn : Nat) : Int) (((we tx lnn (p + 1)) : Nat) : Int) ((0 : Nat) : Int), aW X (Q 0) 125 s, aW X (Q 1) 125 rd, aW X (Q 2) 625 kp, aW X (Q 3) 400 tx, aW X (Q 4) 8 wi, aW X (Q 5) 8 gi].flatten) S hAM hH hS nX6_voice_X6 tyX6 tyX6_ok nmX6 0 rfl rfl 7 (by decide) mX6_voice_1 rfl rfl rfl rfl (Nat.le_of_ble_eq_true rfl) rfl dX6_voice_93 (fun H locs hH hS => ?_)
              refine lv_iload_n S.1 S.2.1 dX6_voice_96 rfl (lv_at hl 0 rfl) ?_
              exact hret 97 ls _ _ (((2 : Nat) : Int)) ((we tx lnn (p + 1)), 0) dX6_voice_97 rfl (Or.inr (Or.inr (Or.inr (Or.inl ⟨rfl, rfl, rfl, q2, c_32, c_52, c_73⟩)))) hH hS
            · exact (show False by omega).elim
        · skip
          refine lv_iconst (v := iI (((1 : Nat) : Int))) S.1 S.2.1 dX6_voice_55 (by decide) ?_
          refine lv_goto (tgt := 81) S.1 S.2.1 dX6_voice_56 (by decide) ?_
          refine lv_istore_n (lv' := [(2, .int (iI ((1 : Nat) : Int))), (1, .int (iI (wdV tx (p + 1) (we tx lnn (p + 1) - (p + 1))))), (0, .ref (h))]) S.1 S.2.1 dX6_voice_81 rfl hl (by decide) rfl (fun ls hl => ?_)
          refine lv_aload_n S.1 S.2.1 dX6_voice_82 rfl (lv_at hl 2 rfl) ?_
          refine lv_iload_n S.1 S.2.1 dX6_voice_83 rfl (lv_at hl 0 rfl) ?_
          refine lv_iconst (v := iI (-1)) S.1 S.2.1 dX6_voice_84 (by decide) ?_
          refine zv_icmp_ne (tgt := 92) S dX6_voice_85 (by decide) (by decide) (by decide) (fun c_85 => ?_) (fun c_85 => ?_)
          · skip
            refine lv_iconst (v := iI (((0 : Nat) : Int))) S.1 S.2.1 dX6_voice_92 (by decide) ?_
            refine zv_put (v := .int (iI ((0 : Nat) : Int))) (w2 := [mO h Q km ((lnn : Nat) : Int) (((we tx lnn (p + 1)) : Nat) : Int) ((0 : Nat) : Int), aW X (Q 0) 125 s, aW X (Q 1) 125 rd, aW X (Q 2) 625 kp, aW X (Q 3) 400 tx, aW X (Q 4) 8 wi, aW X (Q 5) 8 gi].flatten) S hAM hH hS nX6_voice_X6 tyX6 tyX6_ok nmX6 0 rfl rfl 7 (by decide) mX6_voice_1 rfl rfl rfl rfl (Nat.le_of_ble_eq_true rfl) rfl dX6_voice_93 (fun H locs hH hS => ?_)
            refine lv_iload_n S.1 S.2.1 dX6_voice_96 rfl (lv_at hl 0 rfl) ?_
            exact hret 97 ls _ _ (((1 : Nat) : Int)) ((we tx lnn (p + 1)), 0) dX6_voice_97 rfl (Or.inr (Or.inr (Or.inl ⟨rfl, rfl, rfl, q2, c_32, c_52⟩))) hH hS
          · exact (show False by omega).elim
      · skip
        refine lv_iconst (v := iI (((0 : Nat) : Int))) S.1 S.2.1 dX6_voice_35 (by decide) ?_
        refine lv_goto (tgt := 81) S.1 S.2.1 dX6_voice_36 (by decide) ?_
        refine lv_istore_n (lv' := [(2, .int (iI ((0 : Nat) : Int))), (1, .int (iI (wdV tx (p + 1) (we tx lnn (p + 1) - (p + 1))))), (0, .ref (h))]) S.1 S.2.1 dX6_voice_81 rfl hl (by decide) rfl (fun ls hl => ?_)
        refine lv_aload_n S.1 S.2.1 dX6_voice_82 rfl (lv_at hl 2 rfl) ?_
        refine lv_iload_n S.1 S.2.1 dX6_voice_83 rfl (lv_at hl 0 rfl) ?_
        refine lv_iconst (v := iI (-1)) S.1 S.2.1 dX6_voice_84 (by decide) ?_
        refine zv_icmp_ne (tgt := 92) S dX6_voice_85 (by decide) (by decide) (by decide) (fun c_85 => ?_) (fun c_85 => ?_)
        · skip
          refine lv_iconst (v := iI (((0 : Nat) : Int))) S.1 S.2.1 dX6_voice_92 (by decide) ?_
          refine zv_put (v := .int (iI ((0 : Nat) : Int))) (w2 := [mO h Q km ((lnn : Nat) : Int) (((we tx lnn (p + 1)) : Nat) : Int) ((0 : Nat) : Int), aW X (Q 0) 125 s, aW X (Q 1) 125 rd, aW X (Q 2) 625 kp, aW X (Q 3) 400 tx, aW X (Q 4) 8 wi, aW X (Q 5) 8 gi].flatten) S hAM hH hS nX6_voice_X6 tyX6 tyX6_ok nmX6 0 rfl rfl 7 (by decide) mX6_voice_1 rfl rfl rfl rfl (Nat.le_of_ble_eq_true rfl) rfl dX6_voice_93 (fun H locs hH hS => ?_)
          refine lv_iload_n S.1 S.2.1 dX6_voice_96 rfl (lv_at hl 0 rfl) ?_
          exact hret 97 ls _ _ (((0 : Nat) : Int)) ((we tx lnn (p + 1)), 0) dX6_voice_97 rfl (Or.inr (Or.inl ⟨rfl, rfl, rfl, q2, c_32⟩)) hH hS
        · exact (show False by omega).elim
    · exact (show False by omega).elim
  · skip
    refine lv_aload_n S.1 S.2.1 dX6_voice_6 rfl (lv_at hl 0 rfl) ?_
    refine zv_get (v := .int (iI ((2 : Nat) : Int))) S hAM hH nX6_voice_X6 0 rfl rfl 7 (by decide) mX6_voice_1 rfl rfl dX6_voice_7 ?_
    refine zv_if_eq (tgt := 15) S dX6_voice_10 (by decide) (by decide) (fun c_10 => ?_) (fun c_10 => ?_)
    · exact (show False by omega).elim
    · skip
      refine lv_iconst (v := iI (((0 : Nat) : Int))) S.1 S.2.1 dX6_voice_13 (by decide) ?_
      exact hret 14 ls _ _ (((0 : Nat) : Int)) ((p + 1), 2) dX6_voice_14 rfl (Or.inl ⟨rfl, rfl, (by omega), q2⟩) hH hS

theorem mX6_checked_1 : Cond.fieldLink RX6 59 "RoleDoublingPlannerModel" "reason" "I" ∈ wsX6_checked := List.mem_of_getElem? (i := 1) rfl
theorem nX6_checked_X6 : ∀ w ∈ wsX60, w ∈ wsX6_checked := fun _ h => List.mem_cons_of_mem _ (List.mem_append_right _ h)
set_option maxHeartbeats 4000000 in
set_option maxRecDepth 100000 in
theorem kX6_checked (l : Launch) (X : XT) (h : Nat) (Q : Nat → Nat) (s : Nat → Int) (rd : Nat → Int) (kp : Nat → Int) (km : Int) (tx : Nat → Int) (lnn : Nat) (p : Nat) (r0 : Nat) (wi : Nat → Int) (gi : Nat → Int) (b1 : Nat) (b2 : Nat) (ht : okT tx lnn) (h1 : b1 ≤ 1) (h2 : b2 ≤ 1) (hr4 : r0 ≤ 4) : Cv l yX6_checked wsX6_checked (rmD 1) X [.ref h, .int (iI ((b1 : Nat) : Int)), .int (iI ((b2 : Nat) : Int))] [mO h Q km ((lnn : Nat) : Int) ((p : Nat) : Int) ((r0 : Nat) : Int), aW X (Q 0) 125 s, aW X (Q 1) 125 rd, aW X (Q 2) 625 kp, aW X (Q 3) 400 tx, aW X (Q 4) 8 wi, aW X (Q 5) 8 gi] (fun (rj : Nat) => rj = (if r0 ≠ 0 then r0 else if b1 = 0 then 3 else if b2 = 0 then 4 else 0)) (fun (rj : Nat) => [mO h Q km ((lnn : Nat) : Int) ((p : Nat) : Int) ((rj : Nat) : Int), aW X (Q 0) 125 s, aW X (Q 1) 125 rd, aW X (Q 2) 625 kp, aW X (Q 3) 400 tx, aW X (Q 4) 8 wi, aW X (Q 5) 8 gi]) := by
  refine Cv.ofW (cc := cX6_checked) (maxL := 3) (by decide) rfl (Nat.le_of_ble_eq_true rfl) ?_
  intro p_ e_ s_ m_ below meth c_ A Q_ S hA hAM hH hS hmn hret ls hl
  have hl : lv_has ls 3 [(0, .ref (h)), (1, .int (iI ((b1 : Nat) : Int))), (2, .int (iI ((b2 : Nat) : Int)))] := hl
  have hL := ht.1
  refine lv_aload_n S.1 S.2.1 dX6_checked_0 rfl (lv_at hl 0 rfl) ?_
  refine zv_get (v := .int (iI ((r0 : Nat) : Int))) S hAM hH nX6_checked_X6 0 rfl rfl 7 (by decide) mX6_checked_1 rfl rfl dX6_checked_1 ?_
  refine zv_if_ne (tgt := 28) S dX6_checked_4 (by decide) (by omega) (fun c_4 => ?_) (fun c_4 => ?_)
  · skip
    exact hret 28 ls _ _ (r0) dX6_checked_28 (by (repeat' split) <;> first | rfl | omega) hH hS
  · skip
    refine lv_aload_n S.1 S.2.1 dX6_checked_7 rfl (lv_at hl 0 rfl) ?_
    refine lv_iload_n S.1 S.2.1 dX6_checked_8 rfl (lv_at hl 1 rfl) ?_
    refine zv_if_ne (tgt := 16) S dX6_checked_9 (by decide) (by omega) (fun c_9 => ?_) (fun c_9 => ?_)
    · skip
      refine lv_iload_n S.1 S.2.1 dX6_checked_16 rfl (lv_at hl 2 rfl) ?_
      refine zv_if_ne (tgt := 24) S dX6_checked_17 (by decide) (by omega) (fun c_17 => ?_) (fun c_17 => ?_)
      · skip
        refine lv_iconst (v := iI (((0 : Nat) : Int))) S.1 S.2.1 dX6_checked_24 (by decide) ?_
        refine zv_put (v := .int (iI ((0 : Nat) : Int))) (w2 := [mO h Q km ((lnn : Nat) : Int) ((p : Nat) : Int) ((0 : Nat) : Int), aW X (Q 0) 125 s, aW X (Q 1) 125 rd, aW X (Q 2) 625 kp, aW X (Q 3) 400 tx, aW X (Q 4) 8 wi, aW X (Q 5) 8 gi].flatten) S hAM hH hS nX6_checked_X6 tyX6 tyX6_ok nmX6 0 rfl rfl 7 (by decide) mX6_checked_1 rfl rfl rfl rfl (Nat.le_of_ble_eq_true rfl) rfl dX6_checked_25 (fun H locs hH hS => ?_)
        exact hret 28 ls _ _ (0) dX6_checked_28 (by (repeat' split) <;> first | rfl | omega) hH hS
      · skip
        refine lv_iconst (v := iI (((4 : Nat) : Int))) S.1 S.2.1 dX6_checked_20 (by decide) ?_
        refine lv_goto (tgt := 25) S.1 S.2.1 dX6_checked_21 (by decide) ?_
        refine zv_put (v := .int (iI ((4 : Nat) : Int))) (w2 := [mO h Q km ((lnn : Nat) : Int) ((p : Nat) : Int) ((4 : Nat) : Int), aW X (Q 0) 125 s, aW X (Q 1) 125 rd, aW X (Q 2) 625 kp, aW X (Q 3) 400 tx, aW X (Q 4) 8 wi, aW X (Q 5) 8 gi].flatten) S hAM hH hS nX6_checked_X6 tyX6 tyX6_ok nmX6 0 rfl rfl 7 (by decide) mX6_checked_1 rfl rfl rfl rfl (Nat.le_of_ble_eq_true rfl) rfl dX6_checked_25 (fun H locs hH hS => ?_)
        exact hret 28 ls _ _ (4) dX6_checked_28 (by (repeat' split) <;> first | rfl | omega) hH hS
    · skip
      refine lv_iconst (v := iI (((3 : Nat) : Int))) S.1 S.2.1 dX6_checked_12 (by decide) ?_
      refine lv_goto (tgt := 25) S.1 S.2.1 dX6_checked_13 (by decide) ?_
      refine zv_put (v := .int (iI ((3 : Nat) : Int))) (w2 := [mO h Q km ((lnn : Nat) : Int) ((p : Nat) : Int) ((3 : Nat) : Int), aW X (Q 0) 125 s, aW X (Q 1) 125 rd, aW X (Q 2) 625 kp, aW X (Q 3) 400 tx, aW X (Q 4) 8 wi, aW X (Q 5) 8 gi].flatten) S hAM hH hS nX6_checked_X6 tyX6 tyX6_ok nmX6 0 rfl rfl 7 (by decide) mX6_checked_1 rfl rfl rfl rfl (Nat.le_of_ble_eq_true rfl) rfl dX6_checked_25 (fun H locs hH hS => ?_)
      exact hret 28 ls _ _ (3) dX6_checked_28 (by (repeat' split) <;> first | rfl | omega) hH hS

theorem mX6_statement_3 : Cond.fieldLink RX6 59 "RoleDoublingPlannerModel" "reason" "I" ∈ wsX6_statement := List.mem_of_getElem? (i := 3) rfl
theorem nX6_statement_X6 : ∀ w ∈ wsX60, w ∈ wsX6_statement := fun _ h => List.mem_cons_of_mem _ (List.mem_append_right _ h)
theorem mX6_statement_2 : Cond.fieldLink RX6 13 "RoleDoublingPlannerModel" "read" "[I" ∈ wsX6_statement := List.mem_of_getElem? (i := 2) rfl
theorem mX6_statement_1 : Cond.constantLong RX6 86 (99) ∈ wsX6_statement := List.mem_of_getElem? (i := 1) rfl
set_option maxHeartbeats 8000000 in
set_option maxRecDepth 100000 in
theorem kX6_statement (l : Launch) (X : XT) (h : Nat) (Q : Nat → Nat) (s : Nat → Int) (rd : Nat → Int) (kp : Nat → Int) (km : Int) (tx : Nat → Int) (lnn : Nat) (p : Nat) (wi : Nat → Int) (gi : Nat → Int) (ht : okT tx lnn) (hrd : okR rd) (hp : p < lnn) : Cv l yX6_statement wsX6_statement (rmD 4) X [.ref h] [mO h Q km ((lnn : Nat) : Int) ((p : Nat) : Int) ((0 : Nat) : Int), aW X (Q 0) 125 s, aW X (Q 1) 125 rd, aW X (Q 2) 625 kp, aW X (Q 3) 400 tx, aW X (Q 4) 8 wi, aW X (Q 5) 8 gi] (fun (u : (Nat) × (Nat)) => match u with | (sj, rj) => rj = (stm tx lnn p rd).1 ∧ (rj = 0 → sj = (stm tx lnn p rd).2.1) ∧ sj ≤ lnn + 1) (fun (u : (Nat) × (Nat)) => match u with | (sj, rj) => [mO h Q km ((lnn : Nat) : Int) ((sj : Nat) : Int) ((rj : Nat) : Int), aW X (Q 0) 125 s, aW X (Q 1) 125 ((stm tx lnn p rd).2.2), aW X (Q 2) 625 kp, aW X (Q 3) 400 tx, aW X (Q 4) 8 wi, aW X (Q 5) 8 gi]) := by
  refine Cv.ofW (cc := cX6_statement) (maxL := 6) (by decide) rfl (Nat.le_of_ble_eq_true rfl) ?_
  intro p_ e_ s_ m_ below meth c_ A Q_ S hA hAM hH hS hmn hret ls hl
  have hl : lv_has ls 6 [(0, .ref (h))] := hl
  have hL := ht.1
  have hw1 := we_le tx lnn _ p rfl (by omega)
  have hw2 := we_ge tx lnn _ p rfl
  have hk1 := hrd.nr8
  have hk2 := hrd.na20
  have hk3 := hrd.ns10
  refine lv_aload_n S.1 S.2.1 dX6_statement_0 rfl (lv_at hl 0 rfl) ?_
  refine zc_Vi (n := 0) (As := []) (rest := []) S hAM hA (kX6_word l X h Q s rd kp km tx lnn p 0 wi gi ht (by omega)) rfl gX6_statement_X6_word  (by decide +kernel) ⟨Nat.le_of_ble_eq_true rfl, Nat.le_of_ble_eq_true rfl⟩ hH hS [0, 1, 2, 3, 4, 5, 6] rfl 7 rfl (List.Perm.refl _) 6 0 rfl rfl rfl hl.1 rfl (Nat.le_of_ble_eq_true rfl) dX6_statement_1 ⟨Nat.le_of_ble_eq_true rfl, Nat.le_of_ble_eq_true rfl⟩ (fun z2 _ H locs hp3 hH hS => ?_)
  have hH : Hold X A [mO h Q km ((lnn : Nat) : Int) (((we tx lnn p) : Nat) : Int) ((0 : Nat) : Int), aW X (Q 0) 125 s, aW X (Q 1) 125 rd, aW X (Q 2) 625 kp, aW X (Q 3) 400 tx, aW X (Q 4) 8 wi, aW X (Q 5) 8 gi].flatten H := hH
  obtain rfl := hp3
  refine lv_istore_n (lv' := [(1, .int (iI (wdV tx p (we tx lnn p - p)))), (0, .ref (h))]) S.1 S.2.1 dX6_statement_4 rfl hl (by decide) rfl (fun ls hl => ?_)
  refine lv_iload_n S.1 S.2.1 dX6_statement_5 rfl (lv_at hl 0 rfl) ?_
  refine lv_bipush (v := iI (((115 : Nat) : Int))) S.1 S.2.1 dX6_statement_6 (by decide) ?_
  refine lv_bipush (v := iI (((99 : Nat) : Int))) S.1 S.2.1 dX6_statement_8 (by decide) ?_
  refine lv_bipush (v := iI (((101 : Nat) : Int))) S.1 S.2.1 dX6_statement_10 (by decide) ?_
  refine lv_bipush (v := iI (((110 : Nat) : Int))) S.1 S.2.1 dX6_statement_12 (by decide) ?_
  refine lv_bipush (v := iI (((101 : Nat) : Int))) S.1 S.2.1 dX6_statement_14 (by decide) ?_
  refine zc_Si (n := 5) (As := [.int (iI ((115 : Nat) : Int)), .int (iI ((99 : Nat) : Int)), .int (iI ((101 : Nat) : Int)), .int (iI ((110 : Nat) : Int)), .int (iI ((101 : Nat) : Int))]) (rest := [.int (iI (wdV tx p (we tx lnn p - p)))]) S hAM hA (kX6_named l X 115 99 101 110 101 (by decide) (by decide)) rfl gX6_statement_X6_named  (by decide +kernel) ⟨Nat.le_of_ble_eq_true rfl, Nat.le_of_ble_eq_true rfl⟩ hH hS [0, 1, 2, 3, 4, 5, 6] rfl 7 rfl (List.Perm.refl _)  rfl hl.1 rfl (Nat.le_of_ble_eq_true rfl) dX6_statement_16 ⟨Nat.le_of_ble_eq_true rfl, Nat.le_of_ble_eq_true rfl⟩ (fun z5 _ H locs hp6 hH hS => ?_)
  have hH : Hold X A [mO h Q km ((lnn : Nat) : Int) (((we tx lnn p) : Nat) : Int) ((0 : Nat) : Int), aW X (Q 0) 125 s, aW X (Q 1) 125 rd, aW X (Q 2) 625 kp, aW X (Q 3) 400 tx, aW X (Q 4) 8 wi, aW X (Q 5) 8 gi].flatten H := hH
  obtain rfl := hp6
  refine zv_icmp_ne (tgt := 96) S dX6_statement_19 (by decide) (wdV_R _ _ _) (by decide) (fun c_19 => ?_) (fun c_19 => ?_)
  · skip
    refine lv_iload_n S.1 S.2.1 dX6_statement_96 rfl (lv_at hl 0 rfl) ?_
    refine lv_bipush (v := iI (((114 : Nat) : Int))) S.1 S.2.1 dX6_statement_97 (by decide) ?_
    refine lv_bipush (v := iI (((111 : Nat) : Int))) S.1 S.2.1 dX6_statement_99 (by decide) ?_
    refine lv_bipush (v := iI (((108 : Nat) : Int))) S.1 S.2.1 dX6_statement_101 (by decide) ?_
    refine lv_bipush (v := iI (((101 : Nat) : Int))) S.1 S.2.1 dX6_statement_103 (by decide) ?_
    refine lv_iconst (v := iI (((0 : Nat) : Int))) S.1 S.2.1 dX6_statement_105 (by decide) ?_
    refine zc_Si (n := 5) (As := [.int (iI ((114 : Nat) : Int)), .int (iI ((111 : Nat) : Int)), .int (iI ((108 : Nat) : Int)), .int (iI ((101 : Nat) : Int)), .int (iI ((0 : Nat) : Int))]) (rest := [.int (iI (wdV tx p (we tx lnn p - p)))]) S hAM hA (kX6_named l X 114 111 108 101 0 (by decide) (by decide)) rfl gX6_statement_X6_named  (by decide +kernel) ⟨Nat.le_of_ble_eq_true rfl, Nat.le_of_ble_eq_true rfl⟩ hH hS [0, 1, 2, 3, 4, 5, 6] rfl 7 rfl (List.Perm.refl _)  rfl hl.1 rfl (Nat.le_of_ble_eq_true rfl) dX6_statement_106 ⟨Nat.le_of_ble_eq_true rfl, Nat.le_of_ble_eq_true rfl⟩ (fun z8 _ H locs hp9 hH hS => ?_)
    have hH : Hold X A [mO h Q km ((lnn : Nat) : Int) (((we tx lnn p) : Nat) : Int) ((0 : Nat) : Int), aW X (Q 0) 125 s, aW X (Q 1) 125 rd, aW X (Q 2) 625 kp, aW X (Q 3) 400 tx, aW X (Q 4) 8 wi, aW X (Q 5) 8 gi].flatten H := hH
    obtain rfl := hp9
    refine zv_icmp_ne (tgt := 194) S dX6_statement_109 (by decide) (wdV_R _ _ _) (by decide) (fun c_109 => ?_) (fun c_109 => ?_)
    · skip
      refine lv_iload_n S.1 S.2.1 dX6_statement_194 rfl (lv_at hl 0 rfl) ?_
      refine lv_bipush (v := iI (((101 : Nat) : Int))) S.1 S.2.1 dX6_statement_195 (by decide) ?_
      refine lv_bipush (v := iI (((110 : Nat) : Int))) S.1 S.2.1 dX6_statement_197 (by decide) ?_
      refine lv_bipush (v := iI (((116 : Nat) : Int))) S.1 S.2.1 dX6_statement_199 (by decide) ?_
      refine lv_bipush (v := iI (((101 : Nat) : Int))) S.1 S.2.1 dX6_statement_201 (by decide) ?_
      refine lv_bipush (v := iI (((114 : Nat) : Int))) S.1 S.2.1 dX6_statement_203 (by decide) ?_
      refine zc_Si (n := 5) (As := [.int (iI ((101 : Nat) : Int)), .int (iI ((110 : Nat) : Int)), .int (iI ((116 : Nat) : Int)), .int (iI ((101 : Nat) : Int)), .int (iI ((114 : Nat) : Int))]) (rest := [.int (iI (wdV tx p (we tx lnn p - p)))]) S hAM hA (kX6_named l X 101 110 116 101 114 (by decide) (by decide)) rfl gX6_statement_X6_named  (by decide +kernel) ⟨Nat.le_of_ble_eq_true rfl, Nat.le_of_ble_eq_true rfl⟩ hH hS [0, 1, 2, 3, 4, 5, 6] rfl 7 rfl (List.Perm.refl _)  rfl hl.1 rfl (Nat.le_of_ble_eq_true rfl) dX6_statement_205 ⟨Nat.le_of_ble_eq_true rfl, Nat.le_of_ble_eq_true rfl⟩ (fun z11 _ H locs hp12 hH hS => ?_)
      have hH : Hold X A [mO h Q km ((lnn : Nat) : Int) (((we tx lnn p) : Nat) : Int) ((0 : Nat) : Int), aW X (Q 0) 125 s, aW X (Q 1) 125 rd, aW X (Q 2) 625 kp, aW X (Q 3) 400 tx, aW X (Q 4) 8 wi, aW X (Q 5) 8 gi].flatten H := hH
      obtain rfl := hp12
      refine zv_icmp_ne (tgt := 339) S dX6_statement_208 (by decide) (wdV_R _ _ _) (by decide) (fun c_208 => ?_) (fun c_208 => ?_)
      · skip
        refine lv_aload_n S.1 S.2.1 dX6_statement_339 rfl (lv_at hl 1 rfl) ?_
        refine lv_iconst (v := iI (((1 : Nat) : Int))) S.1 S.2.1 dX6_statement_340 (by decide) ?_
        refine zv_put (v := .int (iI ((1 : Nat) : Int))) (w2 := [mO h Q km ((lnn : Nat) : Int) (((we tx lnn p) : Nat) : Int) ((1 : Nat) : Int), aW X (Q 0) 125 s, aW X (Q 1) 125 rd, aW X (Q 2) 625 kp, aW X (Q 3) 400 tx, aW X (Q 4) 8 wi, aW X (Q 5) 8 gi].flatten) S hAM hH hS nX6_statement_X6 tyX6 tyX6_ok nmX6 0 rfl rfl 7 (by decide) mX6_statement_3 rfl rfl rfl rfl (Nat.le_of_ble_eq_true rfl) rfl dX6_statement_341 (fun H locs hH hS => ?_)
        have eS : stm tx lnn p rd = (1, 0, rd) := by rw [stm, if_neg c_19, if_neg c_109, if_neg c_208]
        rw [eS] at hret
        exact hret 344 ls _ _ ((we tx lnn p), 1) dX6_statement_344 ⟨rfl, (fun z => absurd z (by decide)), (by omega)⟩ hH hS
      · skip
        refine lv_aload_n S.1 S.2.1 dX6_statement_211 rfl (lv_at hl 1 rfl) ?_
        refine zc_Vi (n := 0) (As := []) (rest := []) S hAM hA (kX6_number l X h Q s rd kp km tx lnn (we tx lnn p) 0 wi gi ht (by omega) (by omega) (by omega)) rfl gX6_statement_X6_number  (by decide +kernel) ⟨Nat.le_of_ble_eq_true rfl, Nat.le_of_ble_eq_true rfl⟩ hH hS [0, 1, 2, 3, 4, 5, 6] rfl 7 rfl (List.Perm.refl _) 6 0 rfl rfl rfl hl.1 rfl (Nat.le_of_ble_eq_true rfl) dX6_statement_212 ⟨Nat.le_of_ble_eq_true rfl, Nat.le_of_ble_eq_true rfl⟩ (fun z17 u16 H locs hp18 hH hS => ?_)
        obtain ⟨zz_13, sj_14, rj_15⟩ := u16
        have hH : Hold X A [mO h Q km ((lnn : Nat) : Int) ((sj_14 : Nat) : Int) ((rj_15 : Nat) : Int), aW X (Q 0) 125 s, aW X (Q 1) 125 rd, aW X (Q 2) 625 kp, aW X (Q 3) 400 tx, aW X (Q 4) 8 wi, aW X (Q 5) 8 gi].flatten H := hH
        obtain ⟨rfl, hz_212, hn_212⟩ := hp18
        rcases hn_212 with ⟨q1, -⟩ | ⟨-, rfl, hm_212, hb_212⟩ | ⟨-, rfl, hm_212, hb_212⟩
        · exact absurd rfl q1
        · skip
          refine lv_istore_n (lv' := [(2, .int (iI ((zz_13 : Nat) : Int))), (1, .int (iI (wdV tx p (we tx lnn p - p)))), (0, .ref (h))]) S.1 S.2.1 dX6_statement_215 rfl hl (by decide) rfl (fun ls hl => ?_)
          refine lv_aload_n S.1 S.2.1 dX6_statement_216 rfl (lv_at hl 2 rfl) ?_
          refine zc_Vi (n := 0) (As := []) (rest := []) S hAM hA (kX6_number l X h Q s rd kp km tx lnn sj_14 2 wi gi ht (by omega) (by omega) (by omega)) rfl gX6_statement_X6_number  (by decide +kernel) ⟨Nat.le_of_ble_eq_true rfl, Nat.le_of_ble_eq_true rfl⟩ hH hS [0, 1, 2, 3, 4, 5, 6] rfl 7 rfl (List.Perm.refl _) 6 0 rfl rfl rfl hl.1 rfl (Nat.le_of_ble_eq_true rfl) dX6_statement_217 ⟨Nat.le_of_ble_eq_true rfl, Nat.le_of_ble_eq_true rfl⟩ (fun z23 u22 H locs hp24 hH hS => ?_)
          obtain ⟨zz_19, sj_20, rj_21⟩ := u22
          have hH : Hold X A [mO h Q km ((lnn : Nat) : Int) ((sj_20 : Nat) : Int) ((rj_21 : Nat) : Int), aW X (Q 0) 125 s, aW X (Q 1) 125 rd, aW X (Q 2) 625 kp, aW X (Q 3) 400 tx, aW X (Q 4) 8 wi, aW X (Q 5) 8 gi].flatten H := hH
          obtain ⟨rfl, hz_217, hn_217⟩ := hp24
          rcases hn_217 with ⟨-, rfl, rfl⟩ | ⟨q1, -⟩ | ⟨q1, -⟩
          · skip
            refine lv_istore_n (lv' := [(3, .int (iI ((zz_19 : Nat) : Int))), (2, .int (iI ((zz_13 : Nat) : Int))), (1, .int (iI (wdV tx p (we tx lnn p - p)))), (0, .ref (h))]) S.1 S.2.1 dX6_statement_220 rfl hl (by decide) rfl (fun ls hl => ?_)
            refine lv_aload_n S.1 S.2.1 dX6_statement_221 rfl (lv_at hl 3 rfl) ?_
            refine zc_Vi (n := 0) (As := []) (rest := []) S hAM hA (kX6_number l X h Q s rd kp km tx lnn sj_14 2 wi gi ht (by omega) (by omega) (by omega)) rfl gX6_statement_X6_number  (by decide +kernel) ⟨Nat.le_of_ble_eq_true rfl, Nat.le_of_ble_eq_true rfl⟩ hH hS [0, 1, 2, 3, 4, 5, 6] rfl 7 rfl (List.Perm.refl _) 6 0 rfl rfl rfl hl.1 rfl (Nat.le_of_ble_eq_true rfl) dX6_statement_222 ⟨Nat.le_of_ble_eq_true rfl, Nat.le_of_ble_eq_true rfl⟩ (fun z29 u28 H locs hp30 hH hS => ?_)
            obtain ⟨zz_25, sj_26, rj_27⟩ := u28
            have hH : Hold X A [mO h Q km ((lnn : Nat) : Int) ((sj_26 : Nat) : Int) ((rj_27 : Nat) : Int), aW X (Q 0) 125 s, aW X (Q 1) 125 rd, aW X (Q 2) 625 kp, aW X (Q 3) 400 tx, aW X (Q 4) 8 wi, aW X (Q 5) 8 gi].flatten H := hH
            obtain ⟨rfl, hz_222, hn_222⟩ := hp30
            rcases hn_222 with ⟨-, rfl, rfl⟩ | ⟨q1, -⟩ | ⟨q1, -⟩
            · skip
              refine lv_istore (lv' := [(4, .int (iI ((zz_25 : Nat) : Int))), (3, .int (iI ((zz_19 : Nat) : Int))), (2, .int (iI ((zz_13 : Nat) : Int))), (1, .int (iI (wdV tx p (we tx lnn p - p)))), (0, .ref (h))]) S.1 S.2.1 dX6_statement_225 hl (by decide) rfl (fun ls hl => ?_)
              refine lv_aload_n S.1 S.2.1 dX6_statement_227 rfl (lv_at hl 4 rfl) ?_
              refine zc_Vi (n := 0) (As := []) (rest := []) S hAM hA (kX6_number l X h Q s rd kp km tx lnn sj_14 2 wi gi ht (by omega) (by omega) (by omega)) rfl gX6_statement_X6_number  (by decide +kernel) ⟨Nat.le_of_ble_eq_true rfl, Nat.le_of_ble_eq_true rfl⟩ hH hS [0, 1, 2, 3, 4, 5, 6] rfl 7 rfl (List.Perm.refl _) 6 0 rfl rfl rfl hl.1 rfl (Nat.le_of_ble_eq_true rfl) dX6_statement_228 ⟨Nat.le_of_ble_eq_true rfl, Nat.le_of_ble_eq_true rfl⟩ (fun z35 u34 H locs hp36 hH hS => ?_)
              obtain ⟨zz_31, sj_32, rj_33⟩ := u34
              have hH : Hold X A [mO h Q km ((lnn : Nat) : Int) ((sj_32 : Nat) : Int) ((rj_33 : Nat) : Int), aW X (Q 0) 125 s, aW X (Q 1) 125 rd, aW X (Q 2) 625 kp, aW X (Q 3) 400 tx, aW X (Q 4) 8 wi, aW X (Q 5) 8 gi].flatten H := hH
              obtain ⟨rfl, hz_228, hn_228⟩ := hp36
              rcases hn_228 with ⟨-, rfl, rfl⟩ | ⟨q1, -⟩ | ⟨q1, -⟩
              · skip
                refine lv_istore (lv' := [(5, .int (iI ((zz_31 : Nat) : Int))), (4, .int (iI ((zz_25 : Nat) : Int))), (3, .int (iI ((zz_19 : Nat) : Int))), (2, .int (iI ((zz_13 : Nat) : Int))), (1, .int (iI (wdV tx p (we tx lnn p - p)))), (0, .ref (h))]) S.1 S.2.1 dX6_statement_231 hl (by decide) rfl (fun ls hl => ?_)
                refine lv_aload_n S.1 S.2.1 dX6_statement_233 rfl (lv_at hl 5 rfl) ?_
                refine lv_bipush (v := iI (((59 : Nat) : Int))) S.1 S.2.1 dX6_statement_234 (by decide) ?_
                refine zc_Vv (n := 1) (As := [.int (iI ((59 : Nat) : Int))]) (rest := []) S hAM hA (kX6_wants l X h Q s rd kp km tx lnn sj_14 2 wi gi 59 ht (by decide) (by omega) (by omega)) rfl gX6_statement_X6_wants  (by decide +kernel) ⟨Nat.le_of_ble_eq_true rfl, Nat.le_of_ble_eq_true rfl⟩ hH hS [0, 1, 2, 3, 4, 5, 6] rfl 7 rfl (List.Perm.refl _) 6 0 rfl rfl rfl hl.1 rfl (Nat.le_of_ble_eq_true rfl) dX6_statement_236 ⟨Nat.le_of_ble_eq_true rfl, Nat.le_of_ble_eq_true rfl⟩ (fun u39 H locs hp41 hH hS => ?_)
                obtain ⟨sj_37, rj_38⟩ := u39
                have hH : Hold X A [mO h Q km ((lnn : Nat) : Int) ((sj_37 : Nat) : Int) ((rj_38 : Nat) : Int), aW X (Q 0) 125 s, aW X (Q 1) 125 rd, aW X (Q 2) 625 kp, aW X (Q 3) 400 tx, aW X (Q 4) 8 wi, aW X (Q 5) 8 gi].flatten H := hH
                have hw_236 := hp41
                rcases hw_236 with ⟨-, rfl, rfl⟩ | ⟨q1, -⟩ | ⟨q1, -⟩
                · skip
                  refine lv_aload_n S.1 S.2.1 dX6_statement_239 rfl (lv_at hl 5 rfl) ?_
                  refine lv_iload_n S.1 S.2.1 dX6_statement_240 rfl (lv_at hl 3 rfl) ?_
                  refine lv_aload_n S.1 S.2.1 dX6_statement_241 rfl (lv_at hl 5 rfl) ?_
                  refine zv_get (v := .ref (Q 1)) S hAM hH nX6_statement_X6 0 rfl rfl 1 (by decide) mX6_statement_2 rfl rfl dX6_statement_242 ?_
                  refine lv_bipush (v := iI (((11 : Nat) : Int))) S.1 S.2.1 dX6_statement_245 (by decide) ?_
                  refine zv_iald S hAM hH 2 rfl (11) rfl (by decide) (by decide) dX6_statement_247 ?_
                  refine zv_top (z := rd 11) (z2 := ((nr rd : Nat) : Int)) hrd.e11 ?_
                  refine zv_icmp_ge (tgt := 295) S dX6_statement_248 (by decide) (by omega) (by omega) (fun c_248 => ?_) (fun c_248 => ?_)
                  · skip
                    refine lv_iconst (v := iI (((0 : Nat) : Int))) S.1 S.2.1 dX6_statement_295 (by decide) ?_
                    refine lv_aload_n S.1 S.2.1 dX6_statement_296 rfl (lv_at hl 5 rfl) ?_
                    refine zv_get (v := .ref (Q 1)) S hAM hH nX6_statement_X6 0 rfl rfl 1 (by decide) mX6_statement_2 rfl rfl dX6_statement_297 ?_
                    refine lv_bipush (v := iI (((44 : Nat) : Int))) S.1 S.2.1 dX6_statement_300 (by decide) ?_
                    refine zv_iald S hAM hH 2 rfl (44) rfl (by decide) (by decide) dX6_statement_302 ?_
                    refine zv_top (z := rd 44) (z2 := ((na rd : Nat) : Int)) hrd.e44 ?_
                    refine lv_bipush (v := iI (((20 : Nat) : Int))) S.1 S.2.1 dX6_statement_303 (by decide) ?_
                    refine zv_icmp_ge (tgt := 312) S dX6_statement_305 (by decide) (by omega) (by decide) (fun c_305 => ?_) (fun c_305 => ?_)
                    · skip
                      refine lv_iconst (v := iI (((0 : Nat) : Int))) S.1 S.2.1 dX6_statement_312 (by decide) ?_
                      refine zc_Vv (n := 2) (As := [.int (iI ((0 : Nat) : Int)), .int (iI ((0 : Nat) : Int))]) (rest := []) S hAM hA (kX6_checked l X h Q s rd kp km tx lnn sj_14 2 wi gi 0 0 ht (by decide) (by decide) (by decide)) rfl gX6_statement_X6_checked  (by decide +kernel) ⟨Nat.le_of_ble_eq_true rfl, Nat.le_of_ble_eq_true rfl⟩ hH hS [0, 1, 2, 3, 4, 5, 6] rfl 7 rfl (List.Perm.refl _) 6 0 rfl rfl rfl hl.1 rfl (Nat.le_of_ble_eq_true rfl) dX6_statement_313 ⟨Nat.le_of_ble_eq_true rfl, Nat.le_of_ble_eq_true rfl⟩ (fun rj_42 H locs hp44 hH hS => ?_)
                      have hH : Hold X A [mO h Q km ((lnn : Nat) : Int) ((sj_14 : Nat) : Int) ((rj_42 : Nat) : Int), aW X (Q 0) 125 s, aW X (Q 1) 125 rd, aW X (Q 2) 625 kp, aW X (Q 3) 400 tx, aW X (Q 4) 8 wi, aW X (Q 5) 8 gi].flatten H := hH
                      have hc_313 := hp44
                      obtain rfl : rj_42 = 2 := hc_313.trans (by decide)
                      refine lv_aload_n S.1 S.2.1 dX6_statement_316 rfl (lv_at hl 5 rfl) ?_
                      refine zv_get (v := .int (iI ((2 : Nat) : Int))) S hAM hH nX6_statement_X6 0 rfl rfl 7 (by decide) mX6_statement_3 rfl rfl dX6_statement_317 ?_
                      refine zv_if_ne (tgt := 336) S dX6_statement_320 (by decide) (by decide) (fun c_320 => ?_) (fun c_320 => ?_)
                      · skip
                        refine lv_goto (tgt := 344) S.1 S.2.1 dX6_statement_336 (by decide) ?_
                        have eS : stm tx lnn p rd = (2, 0, rd) := by rw [stm, if_neg c_19, if_neg c_109, if_pos c_208, stEnter, hm_212, bnd_none]
                        rw [eS] at hret
                        exact hret 344 ls _ _ (sj_14, 2) dX6_statement_344 ⟨rfl, (fun z => absurd z (by decide)), (by omega)⟩ hH hS
                      · exact (show False by omega).elim
                    · skip
                      refine lv_iconst (v := iI (((1 : Nat) : Int))) S.1 S.2.1 dX6_statement_308 (by decide) ?_
                      refine lv_goto (tgt := 313) S.1 S.2.1 dX6_statement_309 (by decide) ?_
                      refine zc_Vv (n := 2) (As := [.int (iI ((0 : Nat) : Int)), .int (iI ((1 : Nat) : Int))]) (rest := []) S hAM hA (kX6_checked l X h Q s rd kp km tx lnn sj_14 2 wi gi 0 1 ht (by decide) (by decide) (by decide)) rfl gX6_statement_X6_checked  (by decide +kernel) ⟨Nat.le_of_ble_eq_true rfl, Nat.le_of_ble_eq_true rfl⟩ hH hS [0, 1, 2, 3, 4, 5, 6] rfl 7 rfl (List.Perm.refl _) 6 0 rfl rfl rfl hl.1 rfl (Nat.le_of_ble_eq_true rfl) dX6_statement_313 ⟨Nat.le_of_ble_eq_true rfl, Nat.le_of_ble_eq_true rfl⟩ (fun rj_45 H locs hp47 hH hS => ?_)
                      have hH : Hold X A [mO h Q km ((lnn : Nat) : Int) ((sj_14 : Nat) : Int) ((rj_45 : Nat) : Int), aW X (Q 0) 125 s, aW X (Q 1) 125 rd, aW X (Q 2) 625 kp, aW X (Q 3) 400 tx, aW X (Q 4) 8 wi, aW X (Q 5) 8 gi].flatten H := hH
                      have hc_313 := hp47
                      obtain rfl : rj_45 = 2 := hc_313.trans (by decide)
                      refine lv_aload_n S.1 S.2.1 dX6_statement_316 rfl (lv_at hl 5 rfl) ?_
                      refine zv_get (v := .int (iI ((2 : Nat) : Int))) S hAM hH nX6_statement_X6 0 rfl rfl 7 (by decide) mX6_statement_3 rfl rfl dX6_statement_317 ?_
                      refine zv_if_ne (tgt := 336) S dX6_statement_320 (by decide) (by decide) (fun c_320 => ?_) (fun c_320 => ?_)
                      · skip
                        refine lv_goto (tgt := 344) S.1 S.2.1 dX6_statement_336 (by decide) ?_
                        have eS : stm tx lnn p rd = (2, 0, rd) := by rw [stm, if_neg c_19, if_neg c_109, if_pos c_208, stEnter, hm_212, bnd_none]
                        rw [eS] at hret
                        exact hret 344 ls _ _ (sj_14, 2) dX6_statement_344 ⟨rfl, (fun z => absurd z (by decide)), (by omega)⟩ hH hS
                      · exact (show False by omega).elim
                  · skip
                    refine lv_iload_n S.1 S.2.1 dX6_statement_251 rfl (lv_at hl 2 rfl) ?_
                    refine lv_aload_n S.1 S.2.1 dX6_statement_252 rfl (lv_at hl 5 rfl) ?_
                    refine zv_get (v := .ref (Q 1)) S hAM hH nX6_statement_X6 0 rfl rfl 1 (by decide) mX6_statement_2 rfl rfl dX6_statement_253 ?_
                    refine lv_iconst (v := iI (((0 : Nat) : Int))) S.1 S.2.1 dX6_statement_256 (by decide) ?_
                    refine zv_iald S hAM hH 2 rfl (0) rfl (by decide) (by decide) dX6_statement_257 ?_
                    refine zv_top (z := rd 0) (z2 := ((ns rd : Nat) : Int)) hrd.e0 ?_
                    refine zv_icmp_ge (tgt := 295) S dX6_statement_258 (by decide) (by omega) (by omega) (fun c_258 => ?_) (fun c_258 => ?_)
                    · skip
                      refine lv_iconst (v := iI (((0 : Nat) : Int))) S.1 S.2.1 dX6_statement_295 (by decide) ?_
                      refine lv_aload_n S.1 S.2.1 dX6_statement_296 rfl (lv_at hl 5 rfl) ?_
                      refine zv_get (v := .ref (Q 1)) S hAM hH nX6_statement_X6 0 rfl rfl 1 (by decide) mX6_statement_2 rfl rfl dX6_statement_297 ?_
                      refine lv_bipush (v := iI (((44 : Nat) : Int))) S.1 S.2.1 dX6_statement_300 (by decide) ?_
                      refine zv_iald S hAM hH 2 rfl (44) rfl (by decide) (by decide) dX6_statement_302 ?_
                      refine zv_top (z := rd 44) (z2 := ((na rd : Nat) : Int)) hrd.e44 ?_
                      refine lv_bipush (v := iI (((20 : Nat) : Int))) S.1 S.2.1 dX6_statement_303 (by decide) ?_
                      refine zv_icmp_ge (tgt := 312) S dX6_statement_305 (by decide) (by omega) (by decide) (fun c_305 => ?_) (fun c_305 => ?_)
                      · skip
                        refine lv_iconst (v := iI (((0 : Nat) : Int))) S.1 S.2.1 dX6_statement_312 (by decide) ?_
                        refine zc_Vv (n := 2) (As := [.int (iI ((0 : Nat) : Int)), .int (iI ((0 : Nat) : Int))]) (rest := []) S hAM hA (kX6_checked l X h Q s rd kp km tx lnn sj_14 2 wi gi 0 0 ht (by decide) (by decide) (by decide)) rfl gX6_statement_X6_checked  (by decide +kernel) ⟨Nat.le_of_ble_eq_true rfl, Nat.le_of_ble_eq_true rfl⟩ hH hS [0, 1, 2, 3, 4, 5, 6] rfl 7 rfl (List.Perm.refl _) 6 0 rfl rfl rfl hl.1 rfl (Nat.le_of_ble_eq_true rfl) dX6_statement_313 ⟨Nat.le_of_ble_eq_true rfl, Nat.le_of_ble_eq_true rfl⟩ (fun rj_48 H locs hp50 hH hS => ?_)
                        have hH : Hold X A [mO h Q km ((lnn : Nat) : Int) ((sj_14 : Nat) : Int) ((rj_48 : Nat) : Int), aW X (Q 0) 125 s, aW X (Q 1) 125 rd, aW X (Q 2) 625 kp, aW X (Q 3) 400 tx, aW X (Q 4) 8 wi, aW X (Q 5) 8 gi].flatten H := hH
                        have hc_313 := hp50
                        obtain rfl : rj_48 = 2 := hc_313.trans (by decide)
                        refine lv_aload_n S.1 S.2.1 dX6_statement_316 rfl (lv_at hl 5 rfl) ?_
                        refine zv_get (v := .int (iI ((2 : Nat) : Int))) S hAM hH nX6_statement_X6 0 rfl rfl 7 (by decide) mX6_statement_3 rfl rfl dX6_statement_317 ?_
                        refine zv_if_ne (tgt := 336) S dX6_statement_320 (by decide) (by decide) (fun c_320 => ?_) (fun c_320 => ?_)
                        · skip
                          refine lv_goto (tgt := 344) S.1 S.2.1 dX6_statement_336 (by decide) ?_
                          have eS : stm tx lnn p rd = (2, 0, rd) := by rw [stm, if_neg c_19, if_neg c_109, if_pos c_208, stEnter, hm_212, bnd_none]
                          rw [eS] at hret
                          exact hret 344 ls _ _ (sj_14, 2) dX6_statement_344 ⟨rfl, (fun z => absurd z (by decide)), (by omega)⟩ hH hS
                        · exact (show False by omega).elim
                      · skip
                        refine lv_iconst (v := iI (((1 : Nat) : Int))) S.1 S.2.1 dX6_statement_308 (by decide) ?_
                        refine lv_goto (tgt := 313) S.1 S.2.1 dX6_statement_309 (by decide) ?_
                        refine zc_Vv (n := 2) (As := [.int (iI ((0 : Nat) : Int)), .int (iI ((1 : Nat) : Int))]) (rest := []) S hAM hA (kX6_checked l X h Q s rd kp km tx lnn sj_14 2 wi gi 0 1 ht (by decide) (by decide) (by decide)) rfl gX6_statement_X6_checked  (by decide +kernel) ⟨Nat.le_of_ble_eq_true rfl, Nat.le_of_ble_eq_true rfl⟩ hH hS [0, 1, 2, 3, 4, 5, 6] rfl 7 rfl (List.Perm.refl _) 6 0 rfl rfl rfl hl.1 rfl (Nat.le_of_ble_eq_true rfl) dX6_statement_313 ⟨Nat.le_of_ble_eq_true rfl, Nat.le_of_ble_eq_true rfl⟩ (fun rj_51 H locs hp53 hH hS => ?_)
                        have hH : Hold X A [mO h Q km ((lnn : Nat) : Int) ((sj_14 : Nat) : Int) ((rj_51 : Nat) : Int), aW X (Q 0) 125 s, aW X (Q 1) 125 rd, aW X (Q 2) 625 kp, aW X (Q 3) 400 tx, aW X (Q 4) 8 wi, aW X (Q 5) 8 gi].flatten H := hH
                        have hc_313 := hp53
                        obtain rfl : rj_51 = 2 := hc_313.trans (by decide)
                        refine lv_aload_n S.1 S.2.1 dX6_statement_316 rfl (lv_at hl 5 rfl) ?_
                        refine zv_get (v := .int (iI ((2 : Nat) : Int))) S hAM hH nX6_statement_X6 0 rfl rfl 7 (by decide) mX6_statement_3 rfl rfl dX6_statement_317 ?_
                        refine zv_if_ne (tgt := 336) S dX6_statement_320 (by decide) (by decide) (fun c_320 => ?_) (fun c_320 => ?_)
                        · skip
                          refine lv_goto (tgt := 344) S.1 S.2.1 dX6_statement_336 (by decide) ?_
                          have eS : stm tx lnn p rd = (2, 0, rd) := by rw [stm, if_neg c_19, if_neg c_109, if_pos c_208, stEnter, hm_212, bnd_none]
                          rw [eS] at hret
                          exact hret 344 ls _ _ (sj_14, 2) dX6_statement_344 ⟨rfl, (fun z => absurd z (by decide)), (by omega)⟩ hH hS
                        · exact (show False by omega).elim
                    · skip
                      refine lv_iload S.1 S.2.1 dX6_statement_261 (lv_at hl 1 rfl) ?_
                      refine lv_iload S.1 S.2.1 dX6_statement_263 (lv_at hl 0 rfl) ?_
                      refine zv_icmp_ge (tgt := 295) S dX6_statement_265 (by decide) (by omega) (by omega) (fun c_265 => ?_) (fun c_265 => ?_)
                      · skip
                        refine lv_iconst (v := iI (((0 : Nat) : Int))) S.1 S.2.1 dX6_statement_295 (by decide) ?_
                        refine lv_aload_n S.1 S.2.1 dX6_statement_296 rfl (lv_at hl 5 rfl) ?_
                        refine zv_get (v := .ref (Q 1)) S hAM hH nX6_statement_X6 0 rfl rfl 1 (by decide) mX6_statement_2 rfl rfl dX6_statement_297 ?_
                        refine lv_bipush (v := iI (((44 : Nat) : Int))) S.1 S.2.1 dX6_statement_300 (by decide) ?_
                        refine zv_iald S hAM hH 2 rfl (44) rfl (by decide) (by decide) dX6_statement_302 ?_
                        refine zv_top (z := rd 44) (z2 := ((na rd : Nat) : Int)) hrd.e44 ?_
                        refine lv_bipush (v := iI (((20 : Nat) : Int))) S.1 S.2.1 dX6_statement_303 (by decide) ?_
                        refine zv_icmp_ge (tgt := 312) S dX6_statement_305 (by decide) (by omega) (by decide) (fun c_305 => ?_) (fun c_305 => ?_)
                        · skip
                          refine lv_iconst (v := iI (((0 : Nat) : Int))) S.1 S.2.1 dX6_statement_312 (by decide) ?_
                          refine zc_Vv (n := 2) (As := [.int (iI ((0 : Nat) : Int)), .int (iI ((0 : Nat) : Int))]) (rest := []) S hAM hA (kX6_checked l X h Q s rd kp km tx lnn sj_14 2 wi gi 0 0 ht (by decide) (by decide) (by decide)) rfl gX6_statement_X6_checked  (by decide +kernel) ⟨Nat.le_of_ble_eq_true rfl, Nat.le_of_ble_eq_true rfl⟩ hH hS [0, 1, 2, 3, 4, 5, 6] rfl 7 rfl (List.Perm.refl _) 6 0 rfl rfl rfl hl.1 rfl (Nat.le_of_ble_eq_true rfl) dX6_statement_313 ⟨Nat.le_of_ble_eq_true rfl, Nat.le_of_ble_eq_true rfl⟩ (fun rj_54 H locs hp56 hH hS => ?_)
                          have hH : Hold X A [mO h Q km ((lnn : Nat) : Int) ((sj_14 : Nat) : Int) ((rj_54 : Nat) : Int), aW X (Q 0) 125 s, aW X (Q 1) 125 rd, aW X (Q 2) 625 kp, aW X (Q 3) 400 tx, aW X (Q 4) 8 wi, aW X (Q 5) 8 gi].flatten H := hH
                          have hc_313 := hp56
                          obtain rfl : rj_54 = 2 := hc_313.trans (by decide)
                          refine lv_aload_n S.1 S.2.1 dX6_statement_316 rfl (lv_at hl 5 rfl) ?_
                          refine zv_get (v := .int (iI ((2 : Nat) : Int))) S hAM hH nX6_statement_X6 0 rfl rfl 7 (by decide) mX6_statement_3 rfl rfl dX6_statement_317 ?_
                          refine zv_if_ne (tgt := 336) S dX6_statement_320 (by decide) (by decide) (fun c_320 => ?_) (fun c_320 => ?_)
                          · skip
                            refine lv_goto (tgt := 344) S.1 S.2.1 dX6_statement_336 (by decide) ?_
                            have eS : stm tx lnn p rd = (2, 0, rd) := by rw [stm, if_neg c_19, if_neg c_109, if_pos c_208, stEnter, hm_212, bnd_none]
                            rw [eS] at hret
                            exact hret 344 ls _ _ (sj_14, 2) dX6_statement_344 ⟨rfl, (fun z => absurd z (by decide)), (by omega)⟩ hH hS
                          · exact (show False by omega).elim
                        · skip
                          refine lv_iconst (v := iI (((1 : Nat) : Int))) S.1 S.2.1 dX6_statement_308 (by decide) ?_
                          refine lv_goto (tgt := 313) S.1 S.2.1 dX6_statement_309 (by decide) ?_
                          refine zc_Vv (n := 2) (As := [.int (iI ((0 : Nat) : Int)), .int (iI ((1 : Nat) : Int))]) (rest := []) S hAM hA (kX6_checked l X h Q s rd kp km tx lnn sj_14 2 wi gi 0 1 ht (by decide) (by decide) (by decide)) rfl gX6_statement_X6_checked  (by decide +kernel) ⟨Nat.le_of_ble_eq_true rfl, Nat.le_of_ble_eq_true rfl⟩ hH hS [0, 1, 2, 3, 4, 5, 6] rfl 7 rfl (List.Perm.refl _) 6 0 rfl rfl rfl hl.1 rfl (Nat.le_of_ble_eq_true rfl) dX6_statement_313 ⟨Nat.le_of_ble_eq_true rfl, Nat.le_of_ble_eq_true rfl⟩ (fun rj_57 H locs hp59 hH hS => ?_)
                          have hH : Hold X A [mO h Q km ((lnn : Nat) : Int) ((sj_14 : Nat) : Int) ((rj_57 : Nat) : Int), aW X (Q 0) 125 s, aW X (Q 1) 125 rd, aW X (Q 2) 625 kp, aW X (Q 3) 400 tx, aW X (Q 4) 8 wi, aW X (Q 5) 8 gi].flatten H := hH
                          have hc_313 := hp59
                          obtain rfl : rj_57 = 2 := hc_313.trans (by decide)
                          refine lv_aload_n S.1 S.2.1 dX6_statement_316 rfl (lv_at hl 5 rfl) ?_
                          refine zv_get (v := .int (iI ((2 : Nat) : Int))) S hAM hH nX6_statement_X6 0 rfl rfl 7 (by decide) mX6_statement_3 rfl rfl dX6_statement_317 ?_
                          refine zv_if_ne (tgt := 336) S dX6_statement_320 (by decide) (by decide) (fun c_320 => ?_) (fun c_320 => ?_)
                          · skip
                            refine lv_goto (tgt := 344) S.1 S.2.1 dX6_statement_336 (by decide) ?_
                            have eS : stm tx lnn p rd = (2, 0, rd) := by rw [stm, if_neg c_19, if_neg c_109, if_pos c_208, stEnter, hm_212, bnd_none]
                            rw [eS] at hret
                            exact hret 344 ls _ _ (sj_14, 2) dX6_statement_344 ⟨rfl, (fun z => absurd z (by decide)), (by omega)⟩ hH hS
                          · exact (show False by omega).elim
                      · skip
                        refine lv_iload S.1 S.2.1 dX6_statement_268 (lv_at hl 0 rfl) ?_
                        refine lv_aload_n S.1 S.2.1 dX6_statement_270 rfl (lv_at hl 5 rfl) ?_
                        refine zv_get (v := .ref (Q 1)) S hAM hH nX6_statement_X6 0 rfl rfl 1 (by decide) mX6_statement_2 rfl rfl dX6_statement_271 ?_
                        refine lv_iconst (v := iI (((1 : Nat) : Int))) S.1 S.2.1 dX6_statement_274 (by decide) ?_
                        refine lv_iload_n S.1 S.2.1 dX6_statement_275 rfl (lv_at hl 2 rfl) ?_
                        refine lv_bipush (v := iI (((10 : Nat) : Int))) S.1 S.2.1 dX6_statement_276 (by decide) ?_
                        refine zv_icmp_ge (tgt := 285) S dX6_statement_278 (by decide) (by omega) (by decide) (fun c_278 => ?_) (fun c_278 => ?_)
                        · exact (show False by omega).elim
                        · skip
                          refine lv_iload_n S.1 S.2.1 dX6_statement_281 rfl (lv_at hl 2 rfl) ?_
                          refine lv_goto (tgt := 286) S.1 S.2.1 dX6_statement_282 (by decide) ?_
                          refine zv_iadd (z := (((1 + zz_19) : Nat) : Int)) S dX6_statement_286 (by omega) ?_
                          refine zv_iald S hAM hH 2 rfl ((1 + zz_19)) rfl (by omega) (by decide) dX6_statement_287 ?_
                          refine zv_icmp_gt (tgt := 295) S dX6_statement_288 (by decide) (by omega) (hrd.inRk _ (by omega)) (fun c_288 => ?_) (fun c_288 => ?_)
                          · skip
                            refine lv_iconst (v := iI (((0 : Nat) : Int))) S.1 S.2.1 dX6_statement_295 (by decide) ?_
                            refine lv_aload_n S.1 S.2.1 dX6_statement_296 rfl (lv_at hl 5 rfl) ?_
                            refine zv_get (v := .ref (Q 1)) S hAM hH nX6_statement_X6 0 rfl rfl 1 (by decide) mX6_statement_2 rfl rfl dX6_statement_297 ?_
                            refine lv_bipush (v := iI (((44 : Nat) : Int))) S.1 S.2.1 dX6_statement_300 (by decide) ?_
                            refine zv_iald S hAM hH 2 rfl (44) rfl (by decide) (by decide) dX6_statement_302 ?_
                            refine zv_top (z := rd 44) (z2 := ((na rd : Nat) : Int)) hrd.e44 ?_
                            refine lv_bipush (v := iI (((20 : Nat) : Int))) S.1 S.2.1 dX6_statement_303 (by decide) ?_
                            refine zv_icmp_ge (tgt := 312) S dX6_statement_305 (by decide) (by omega) (by decide) (fun c_305 => ?_) (fun c_305 => ?_)
                            · skip
                              refine lv_iconst (v := iI (((0 : Nat) : Int))) S.1 S.2.1 dX6_statement_312 (by decide) ?_
                              refine zc_Vv (n := 2) (As := [.int (iI ((0 : Nat) : Int)), .int (iI ((0 : Nat) : Int))]) (rest := []) S hAM hA (kX6_checked l X h Q s rd kp km tx lnn sj_14 2 wi gi 0 0 ht (by decide) (by decide) (by decide)) rfl gX6_statement_X6_checked  (by decide +kernel) ⟨Nat.le_of_ble_eq_true rfl, Nat.le_of_ble_eq_true rfl⟩ hH hS [0, 1, 2, 3, 4, 5, 6] rfl 7 rfl (List.Perm.refl _) 6 0 rfl rfl rfl hl.1 rfl (Nat.le_of_ble_eq_true rfl) dX6_statement_313 ⟨Nat.le_of_ble_eq_true rfl, Nat.le_of_ble_eq_true rfl⟩ (fun rj_60 H locs hp62 hH hS => ?_)
                              have hH : Hold X A [mO h Q km ((lnn : Nat) : Int) ((sj_14 : Nat) : Int) ((rj_60 : Nat) : Int), aW X (Q 0) 125 s, aW X (Q 1) 125 rd, aW X (Q 2) 625 kp, aW X (Q 3) 400 tx, aW X (Q 4) 8 wi, aW X (Q 5) 8 gi].flatten H := hH
                              have hc_313 := hp62
                              obtain rfl : rj_60 = 2 := hc_313.trans (by decide)
                              refine lv_aload_n S.1 S.2.1 dX6_statement_316 rfl (lv_at hl 5 rfl) ?_
                              refine zv_get (v := .int (iI ((2 : Nat) : Int))) S hAM hH nX6_statement_X6 0 rfl rfl 7 (by decide) mX6_statement_3 rfl rfl dX6_statement_317 ?_
                              refine zv_if_ne (tgt := 336) S dX6_statement_320 (by decide) (by decide) (fun c_320 => ?_) (fun c_320 => ?_)
                              · skip
                                refine lv_goto (tgt := 344) S.1 S.2.1 dX6_statement_336 (by decide) ?_
                                have eS : stm tx lnn p rd = (2, 0, rd) := by rw [stm, if_neg c_19, if_neg c_109, if_pos c_208, stEnter, hm_212, bnd_none]
                                rw [eS] at hret
                                exact hret 344 ls _ _ (sj_14, 2) dX6_statement_344 ⟨rfl, (fun z => absurd z (by decide)), (by omega)⟩ hH hS
                              · exact (show False by omega).elim
                            · skip
                              refine lv_iconst (v := iI (((1 : Nat) : Int))) S.1 S.2.1 dX6_statement_308 (by decide) ?_
                              refine lv_goto (tgt := 313) S.1 S.2.1 dX6_statement_309 (by decide) ?_
                              refine zc_Vv (n := 2) (As := [.int (iI ((0 : Nat) : Int)), .int (iI ((1 : Nat) : Int))]) (rest := []) S hAM hA (kX6_checked l X h Q s rd kp km tx lnn sj_14 2 wi gi 0 1 ht (by decide) (by decide) (by decide)) rfl gX6_statement_X6_checked  (by decide +kernel) ⟨Nat.le_of_ble_eq_true rfl, Nat.le_of_ble_eq_true rfl⟩ hH hS [0, 1, 2, 3, 4, 5, 6] rfl 7 rfl (List.Perm.refl _) 6 0 rfl rfl rfl hl.1 rfl (Nat.le_of_ble_eq_true rfl) dX6_statement_313 ⟨Nat.le_of_ble_eq_true rfl, Nat.le_of_ble_eq_true rfl⟩ (fun rj_63 H locs hp65 hH hS => ?_)
                              have hH : Hold X A [mO h Q km ((lnn : Nat) : Int) ((sj_14 : Nat) : Int) ((rj_63 : Nat) : Int), aW X (Q 0) 125 s, aW X (Q 1) 125 rd, aW X (Q 2) 625 kp, aW X (Q 3) 400 tx, aW X (Q 4) 8 wi, aW X (Q 5) 8 gi].flatten H := hH
                              have hc_313 := hp65
                              obtain rfl : rj_63 = 2 := hc_313.trans (by decide)
                              refine lv_aload_n S.1 S.2.1 dX6_statement_316 rfl (lv_at hl 5 rfl) ?_
                              refine zv_get (v := .int (iI ((2 : Nat) : Int))) S hAM hH nX6_statement_X6 0 rfl rfl 7 (by decide) mX6_statement_3 rfl rfl dX6_statement_317 ?_
                              refine zv_if_ne (tgt := 336) S dX6_statement_320 (by decide) (by decide) (fun c_320 => ?_) (fun c_320 => ?_)
                              · skip
                                refine lv_goto (tgt := 344) S.1 S.2.1 dX6_statement_336 (by decide) ?_
                                have eS : stm tx lnn p rd = (2, 0, rd) := by rw [stm, if_neg c_19, if_neg c_109, if_pos c_208, stEnter, hm_212, bnd_none]
                                rw [eS] at hret
                                exact hret 344 ls _ _ (sj_14, 2) dX6_statement_344 ⟨rfl, (fun z => absurd z (by decide)), (by omega)⟩ hH hS
                              · exact (show False by omega).elim
                          · skip
                            refine lv_iconst (v := iI (((1 : Nat) : Int))) S.1 S.2.1 dX6_statement_291 (by decide) ?_
                            refine lv_goto (tgt := 296) S.1 S.2.1 dX6_statement_292 (by decide) ?_
                            refine lv_aload_n S.1 S.2.1 dX6_statement_296 rfl (lv_at hl 5 rfl) ?_
                            refine zv_get (v := .ref (Q 1)) S hAM hH nX6_statement_X6 0 rfl rfl 1 (by decide) mX6_statement_2 rfl rfl dX6_statement_297 ?_
                            refine lv_bipush (v := iI (((44 : Nat) : Int))) S.1 S.2.1 dX6_statement_300 (by decide) ?_
                            refine zv_iald S hAM hH 2 rfl (44) rfl (by decide) (by decide) dX6_statement_302 ?_
                            refine zv_top (z := rd 44) (z2 := ((na rd : Nat) : Int)) hrd.e44 ?_
                            refine lv_bipush (v := iI (((20 : Nat) : Int))) S.1 S.2.1 dX6_statement_303 (by decide) ?_
                            refine zv_icmp_ge (tgt := 312) S dX6_statement_305 (by decide) (by omega) (by decide) (fun c_305 => ?_) (fun c_305 => ?_)
                            · skip
                              refine lv_iconst (v := iI (((0 : Nat) : Int))) S.1 S.2.1 dX6_statement_312 (by decide) ?_
                              refine zc_Vv (n := 2) (As := [.int (iI ((1 : Nat) : Int)), .int (iI ((0 : Nat) : Int))]) (rest := []) S hAM hA (kX6_checked l X h Q s rd kp km tx lnn sj_14 2 wi gi 1 0 ht (by decide) (by decide) (by decide)) rfl gX6_statement_X6_checked  (by decide +kernel) ⟨Nat.le_of_ble_eq_true rfl, Nat.le_of_ble_eq_true rfl⟩ hH hS [0, 1, 2, 3, 4, 5, 6] rfl 7 rfl (List.Perm.refl _) 6 0 rfl rfl rfl hl.1 rfl (Nat.le_of_ble_eq_true rfl) dX6_statement_313 ⟨Nat.le_of_ble_eq_true rfl, Nat.le_of_ble_eq_true rfl⟩ (fun rj_66 H locs hp68 hH hS => ?_)
                              have hH : Hold X A [mO h Q km ((lnn : Nat) : Int) ((sj_14 : Nat) : Int) ((rj_66 : Nat) : Int), aW X (Q 0) 125 s, aW X (Q 1) 125 rd, aW X (Q 2) 625 kp, aW X (Q 3) 400 tx, aW X (Q 4) 8 wi, aW X (Q 5) 8 gi].flatten H := hH
                              have hc_313 := hp68
                              obtain rfl : rj_66 = 2 := hc_313.trans (by decide)
                              refine lv_aload_n S.1 S.2.1 dX6_statement_316 rfl (lv_at hl 5 rfl) ?_
                              refine zv_get (v := .int (iI ((2 : Nat) : Int))) S hAM hH nX6_statement_X6 0 rfl rfl 7 (by decide) mX6_statement_3 rfl rfl dX6_statement_317 ?_
                              refine zv_if_ne (tgt := 336) S dX6_statement_320 (by decide) (by decide) (fun c_320 => ?_) (fun c_320 => ?_)
                              · skip
                                refine lv_goto (tgt := 344) S.1 S.2.1 dX6_statement_336 (by decide) ?_
                                have eS : stm tx lnn p rd = (2, 0, rd) := by rw [stm, if_neg c_19, if_neg c_109, if_pos c_208, stEnter, hm_212, bnd_none]
                                rw [eS] at hret
                                exact hret 344 ls _ _ (sj_14, 2) dX6_statement_344 ⟨rfl, (fun z => absurd z (by decide)), (by omega)⟩ hH hS
                              · exact (show False by omega).elim
                            · skip
                              refine lv_iconst (v := iI (((1 : Nat) : Int))) S.1 S.2.1 dX6_statement_308 (by decide) ?_
                              refine lv_goto (tgt := 313) S.1 S.2.1 dX6_statement_309 (by decide) ?_
                              refine zc_Vv (n := 2) (As := [.int (iI ((1 : Nat) : Int)), .int (iI ((1 : Nat) : Int))]) (rest := []) S hAM hA (kX6_checked l X h Q s rd kp km tx lnn sj_14 2 wi gi 1 1 ht (by decide) (by decide) (by decide)) rfl gX6_statement_X6_checked  (by decide +kernel) ⟨Nat.le_of_ble_eq_true rfl, Nat.le_of_ble_eq_true rfl⟩ hH hS [0, 1, 2, 3, 4, 5, 6] rfl 7 rfl (List.Perm.refl _) 6 0 rfl rfl rfl hl.1 rfl (Nat.le_of_ble_eq_true rfl) dX6_statement_313 ⟨Nat.le_of_ble_eq_true rfl, Nat.le_of_ble_eq_true rfl⟩ (fun rj_69 H locs hp71 hH hS => ?_)
                              have hH : Hold X A [mO h Q km ((lnn : Nat) : Int) ((sj_14 : Nat) : Int) ((rj_69 : Nat) : Int), aW X (Q 0) 125 s, aW X (Q 1) 125 rd, aW X (Q 2) 625 kp, aW X (Q 3) 400 tx, aW X (Q 4) 8 wi, aW X (Q 5) 8 gi].flatten H := hH
                              have hc_313 := hp71
                              obtain rfl : rj_69 = 2 := hc_313.trans (by decide)
                              refine lv_aload_n S.1 S.2.1 dX6_statement_316 rfl (lv_at hl 5 rfl) ?_
                              refine zv_get (v := .int (iI ((2 : Nat) : Int))) S hAM hH nX6_statement_X6 0 rfl rfl 7 (by decide) mX6_statement_3 rfl rfl dX6_statement_317 ?_
                              refine zv_if_ne (tgt := 336) S dX6_statement_320 (by decide) (by decide) (fun c_320 => ?_) (fun c_320 => ?_)
                              · skip
                                refine lv_goto (tgt := 344) S.1 S.2.1 dX6_statement_336 (by decide) ?_
                                have eS : stm tx lnn p rd = (2, 0, rd) := by rw [stm, if_neg c_19, if_neg c_109, if_pos c_208, stEnter, hm_212, bnd_none]
                                rw [eS] at hret
                                exact hret 344 ls _ _ (sj_14, 2) dX6_statement_344 ⟨rfl, (fun z => absurd z (by decide)), (by omega)⟩ hH hS
                              · exact (show False by omega).elim
                · exact absurd q1 (by decide)
                · exact absurd q1 (by decide)
              · exact absurd q1 (by decide)
              · exact absurd q1 (by decide)
            · exact absurd q1 (by decide)
            · exact absurd q1 (by decide)
          · exact absurd q1 (by decide)
          · exact absurd q1 (by decide)
        · skip
          refine lv_istore_n (lv' := [(2, .int (iI ((zz_13 : Nat) : Int))), (1, .int (iI (wdV tx p (we tx lnn p - p)))), (0, .ref (h))]) S.1 S.2.1 dX6_statement_215 rfl hl (by decide) rfl (fun ls hl => ?_)
          refine lv_aload_n S.1 S.2.1 dX6_statement_216 rfl (lv_at hl 2 rfl) ?_
          refine zc_Vi (n := 0) (As := []) (rest := []) S hAM hA (kX6_number l X h Q s rd kp km tx lnn sj_14 0 wi gi ht (by omega) (by omega) (by omega)) rfl gX6_statement_X6_number  (by decide +kernel) ⟨Nat.le_of_ble_eq_true rfl, Nat.le_of_ble_eq_true rfl⟩ hH hS [0, 1, 2, 3, 4, 5, 6] rfl 7 rfl (List.Perm.refl _) 6 0 rfl rfl rfl hl.1 rfl (Nat.le_of_ble_eq_true rfl) dX6_statement_217 ⟨Nat.le_of_ble_eq_true rfl, Nat.le_of_ble_eq_true rfl⟩ (fun z76 u75 H locs hp77 hH hS => ?_)
          obtain ⟨zz_72, sj_73, rj_74⟩ := u75
          have hH : Hold X A [mO h Q km ((lnn : Nat) : Int) ((sj_73 : Nat) : Int) ((rj_74 : Nat) : Int), aW X (Q 0) 125 s, aW X (Q 1) 125 rd, aW X (Q 2) 625 kp, aW X (Q 3) 400 tx, aW X (Q 4) 8 wi, aW X (Q 5) 8 gi].flatten H := hH
          obtain ⟨rfl, hz_217, hn_217⟩ := hp77
          rcases hn_217 with ⟨q1, -⟩ | ⟨-, rfl, hm_217, hb_217⟩ | ⟨-, rfl, hm_217, hb_217⟩
          · exact absurd rfl q1
          · skip
            refine lv_istore_n (lv' := [(3, .int (iI ((zz_72 : Nat) : Int))), (2, .int (iI ((zz_13 : Nat) : Int))), (1, .int (iI (wdV tx p (we tx lnn p - p)))), (0, .ref (h))]) S.1 S.2.1 dX6_statement_220 rfl hl (by decide) rfl (fun ls hl => ?_)
            refine lv_aload_n S.1 S.2.1 dX6_statement_221 rfl (lv_at hl 3 rfl) ?_
            refine zc_Vi (n := 0) (As := []) (rest := []) S hAM hA (kX6_number l X h Q s rd kp km tx lnn sj_73 2 wi gi ht (by omega) (by omega) (by omega)) rfl gX6_statement_X6_number  (by decide +kernel) ⟨Nat.le_of_ble_eq_true rfl, Nat.le_of_ble_eq_true rfl⟩ hH hS [0, 1, 2, 3, 4, 5, 6] rfl 7 rfl (List.Perm.refl _) 6 0 rfl rfl rfl hl.1 rfl (Nat.le_of_ble_eq_true rfl) dX6_statement_222 ⟨Nat.le_of_ble_eq_true rfl, Nat.le_of_ble_eq_true rfl⟩ (fun z82 u81 H locs hp83 hH hS => ?_)
            obtain ⟨zz_78, sj_79, rj_80⟩ := u81
            have hH : Hold X A [mO h Q km ((lnn : Nat) : Int) ((sj_79 : Nat) : Int) ((rj_80 : Nat) : Int), aW X (Q 0) 125 s, aW X (Q 1) 125 rd, aW X (Q 2) 625 kp, aW X (Q 3) 400 tx, aW X (Q 4) 8 wi, aW X (Q 5) 8 gi].flatten H := hH
            obtain ⟨rfl, hz_222, hn_222⟩ := hp83
            rcases hn_222 with ⟨-, rfl, rfl⟩ | ⟨q1, -⟩ | ⟨q1, -⟩
            · skip
              refine lv_istore (lv' := [(4, .int (iI ((zz_78 : Nat) : Int))), (3, .int (iI ((zz_72 : Nat) : Int))), (2, .int (iI ((zz_13 : Nat) : Int))), (1, .int (iI (wdV tx p (we tx lnn p - p)))), (0, .ref (h))]) S.1 S.2.1 dX6_statement_225 hl (by decide) rfl (fun ls hl => ?_)
              refine lv_aload_n S.1 S.2.1 dX6_statement_227 rfl (lv_at hl 4 rfl) ?_
              refine zc_Vi (n := 0) (As := []) (rest := []) S hAM hA (kX6_number l X h Q s rd kp km tx lnn sj_73 2 wi gi ht (by omega) (by omega) (by omega)) rfl gX6_statement_X6_number  (by decide +kernel) ⟨Nat.le_of_ble_eq_true rfl, Nat.le_of_ble_eq_true rfl⟩ hH hS [0, 1, 2, 3, 4, 5, 6] rfl 7 rfl (List.Perm.refl _) 6 0 rfl rfl rfl hl.1 rfl (Nat.le_of_ble_eq_true rfl) dX6_statement_228 ⟨Nat.le_of_ble_eq_true rfl, Nat.le_of_ble_eq_true rfl⟩ (fun z88 u87 H locs hp89 hH hS => ?_)
              obtain ⟨zz_84, sj_85, rj_86⟩ := u87
              have hH : Hold X A [mO h Q km ((lnn : Nat) : Int) ((sj_85 : Nat) : Int) ((rj_86 : Nat) : Int), aW X (Q 0) 125 s, aW X (Q 1) 125 rd, aW X (Q 2) 625 kp, aW X (Q 3) 400 tx, aW X (Q 4) 8 wi, aW X (Q 5) 8 gi].flatten H := hH
              obtain ⟨rfl, hz_228, hn_228⟩ := hp89
              rcases hn_228 with ⟨-, rfl, rfl⟩ | ⟨q1, -⟩ | ⟨q1, -⟩
              · skip
                refine lv_istore (lv' := [(5, .int (iI ((zz_84 : Nat) : Int))), (4, .int (iI ((zz_78 : Nat) : Int))), (3, .int (iI ((zz_72 : Nat) : Int))), (2, .int (iI ((zz_13 : Nat) : Int))), (1, .int (iI (wdV tx p (we tx lnn p - p)))), (0, .ref (h))]) S.1 S.2.1 dX6_statement_231 hl (by decide) rfl (fun ls hl => ?_)
                refine lv_aload_n S.1 S.2.1 dX6_statement_233 rfl (lv_at hl 5 rfl) ?_
                refine lv_bipush (v := iI (((59 : Nat) : Int))) S.1 S.2.1 dX6_statement_234 (by decide) ?_
                refine zc_Vv (n := 1) (As := [.int (iI ((59 : Nat) : Int))]) (rest := []) S hAM hA (kX6_wants l X h Q s rd kp km tx lnn sj_73 2 wi gi 59 ht (by decide) (by omega) (by omega)) rfl gX6_statement_X6_wants  (by decide +kernel) ⟨Nat.le_of_ble_eq_true rfl, Nat.le_of_ble_eq_true rfl⟩ hH hS [0, 1, 2, 3, 4, 5, 6] rfl 7 rfl (List.Perm.refl _) 6 0 rfl rfl rfl hl.1 rfl (Nat.le_of_ble_eq_true rfl) dX6_statement_236 ⟨Nat.le_of_ble_eq_true rfl, Nat.le_of_ble_eq_true rfl⟩ (fun u92 H locs hp94 hH hS => ?_)
                obtain ⟨sj_90, rj_91⟩ := u92
                have hH : Hold X A [mO h Q km ((lnn : Nat) : Int) ((sj_90 : Nat) : Int) ((rj_91 : Nat) : Int), aW X (Q 0) 125 s, aW X (Q 1) 125 rd, aW X (Q 2) 625 kp, aW X (Q 3) 400 tx, aW X (Q 4) 8 wi, aW X (Q 5) 8 gi].flatten H := hH
                have hw_236 := hp94
                rcases hw_236 with ⟨-, rfl, rfl⟩ | ⟨q1, -⟩ | ⟨q1, -⟩
                · skip
                  refine lv_aload_n S.1 S.2.1 dX6_statement_239 rfl (lv_at hl 5 rfl) ?_
                  refine lv_iload_n S.1 S.2.1 dX6_statement_240 rfl (lv_at hl 3 rfl) ?_
                  refine lv_aload_n S.1 S.2.1 dX6_statement_241 rfl (lv_at hl 5 rfl) ?_
                  refine zv_get (v := .ref (Q 1)) S hAM hH nX6_statement_X6 0 rfl rfl 1 (by decide) mX6_statement_2 rfl rfl dX6_statement_242 ?_
                  refine lv_bipush (v := iI (((11 : Nat) : Int))) S.1 S.2.1 dX6_statement_245 (by decide) ?_
                  refine zv_iald S hAM hH 2 rfl (11) rfl (by decide) (by decide) dX6_statement_247 ?_
                  refine zv_top (z := rd 11) (z2 := ((nr rd : Nat) : Int)) hrd.e11 ?_
                  refine zv_icmp_ge (tgt := 295) S dX6_statement_248 (by decide) (by omega) (by omega) (fun c_248 => ?_) (fun c_248 => ?_)
                  · skip
                    refine lv_iconst (v := iI (((0 : Nat) : Int))) S.1 S.2.1 dX6_statement_295 (by decide) ?_
                    refine lv_aload_n S.1 S.2.1 dX6_statement_296 rfl (lv_at hl 5 rfl) ?_
                    refine zv_get (v := .ref (Q 1)) S hAM hH nX6_statement_X6 0 rfl rfl 1 (by decide) mX6_statement_2 rfl rfl dX6_statement_297 ?_
                    refine lv_bipush (v := iI (((44 : Nat) : Int))) S.1 S.2.1 dX6_statement_300 (by decide) ?_
                    refine zv_iald S hAM hH 2 rfl (44) rfl (by decide) (by decide) dX6_statement_302 ?_
                    refine zv_top (z := rd 44) (z2 := ((na rd : Nat) : Int)) hrd.e44 ?_
                    refine lv_bipush (v := iI (((20 : Nat) : Int))) S.1 S.2.1 dX6_statement_303 (by decide) ?_
                    refine zv_icmp_ge (tgt := 312) S dX6_statement_305 (by decide) (by omega) (by decide) (fun c_305 => ?_) (fun c_305 => ?_)
                    · skip
                      refine lv_iconst (v := iI (((0 : Nat) : Int))) S.1 S.2.1 dX6_statement_312 (by decide) ?_
                      refine zc_Vv (n := 2) (As := [.int (iI ((0 : Nat) : Int)), .int (iI ((0 : Nat) : Int))]) (rest := []) S hAM hA (kX6_checked l X h Q s rd kp km tx lnn sj_73 2 wi gi 0 0 ht (by decide) (by decide) (by decide)) rfl gX6_statement_X6_checked  (by decide +kernel) ⟨Nat.le_of_ble_eq_true rfl, Nat.le_of_ble_eq_true rfl⟩ hH hS [0, 1, 2, 3, 4, 5, 6] rfl 7 rfl (List.Perm.refl _) 6 0 rfl rfl rfl hl.1 rfl (Nat.le_of_ble_eq_true rfl) dX6_statement_313 ⟨Nat.le_of_ble_eq_true rfl, Nat.le_of_ble_eq_true rfl⟩ (fun rj_95 H locs hp97 hH hS => ?_)
                      have hH : Hold X A [mO h Q km ((lnn : Nat) : Int) ((sj_73 : Nat) : Int) ((rj_95 : Nat) : Int), aW X (Q 0) 125 s, aW X (Q 1) 125 rd, aW X (Q 2) 625 kp, aW X (Q 3) 400 tx, aW X (Q 4) 8 wi, aW X (Q 5) 8 gi].flatten H := hH
                      have hc_313 := hp97
                      obtain rfl : rj_95 = 2 := hc_313.trans (by decide)
                      refine lv_aload_n S.1 S.2.1 dX6_statement_316 rfl (lv_at hl 5 rfl) ?_
                      refine zv_get (v := .int (iI ((2 : Nat) : Int))) S hAM hH nX6_statement_X6 0 rfl rfl 7 (by decide) mX6_statement_3 rfl rfl dX6_statement_317 ?_
                      refine zv_if_ne (tgt := 336) S dX6_statement_320 (by decide) (by decide) (fun c_320 => ?_) (fun c_320 => ?_)
                      · skip
                        refine lv_goto (tgt := 344) S.1 S.2.1 dX6_statement_336 (by decide) ?_
                        have eS : stm tx lnn p rd = (2, 0, rd) := by rw [stm, if_neg c_19, if_neg c_109, if_pos c_208, stEnter, hm_212, bnd_some, hm_217, bnd_none]
                        rw [eS] at hret
                        exact hret 344 ls _ _ (sj_73, 2) dX6_statement_344 ⟨rfl, (fun z => absurd z (by decide)), (by omega)⟩ hH hS
                      · exact (show False by omega).elim
                    · skip
                      refine lv_iconst (v := iI (((1 : Nat) : Int))) S.1 S.2.1 dX6_statement_308 (by decide) ?_
                      refine lv_goto (tgt := 313) S.1 S.2.1 dX6_statement_309 (by decide) ?_
                      refine zc_Vv (n := 2) (As := [.int (iI ((0 : Nat) : Int)), .int (iI ((1 : Nat) : Int))]) (rest := []) S hAM hA (kX6_checked l X h Q s rd kp km tx lnn sj_73 2 wi gi 0 1 ht (by decide) (by decide) (by decide)) rfl gX6_statement_X6_checked  (by decide +kernel) ⟨Nat.le_of_ble_eq_true rfl, Nat.le_of_ble_eq_true rfl⟩ hH hS [0, 1, 2, 3, 4, 5, 6] rfl 7 rfl (List.Perm.refl _) 6 0 rfl rfl rfl hl.1 rfl (Nat.le_of_ble_eq_true rfl) dX6_statement_313 ⟨Nat.le_of_ble_eq_true rfl, Nat.le_of_ble_eq_true rfl⟩ (fun rj_98 H locs hp100 hH hS => ?_)
                      have hH : Hold X A [mO h Q km ((lnn : Nat) : Int) ((sj_73 : Nat) : Int) ((rj_98 : Nat) : Int), aW X (Q 0) 125 s, aW X (Q 1) 125 rd, aW X (Q 2) 625 kp, aW X (Q 3) 400 tx, aW X (Q 4) 8 wi, aW X (Q 5) 8 gi].flatten H := hH
                      have hc_313 := hp100
                      obtain rfl : rj_98 = 2 := hc_313.trans (by decide)
                      refine lv_aload_n S.1 S.2.1 dX6_statement_316 rfl (lv_at hl 5 rfl) ?_
                      refine zv_get (v := .int (iI ((2 : Nat) : Int))) S hAM hH nX6_statement_X6 0 rfl rfl 7 (by decide) mX6_statement_3 rfl rfl dX6_statement_317 ?_
                      refine zv_if_ne (tgt := 336) S dX6_statement_320 (by decide) (by decide) (fun c_320 => ?_) (fun c_320 => ?_)
                      · skip
                        refine lv_goto (tgt := 344) S.1 S.2.1 dX6_statement_336 (by decide) ?_
                        have eS : stm tx lnn p rd = (2, 0, rd) := by rw [stm, if_neg c_19, if_neg c_109, if_pos c_208, stEnter, hm_212, bnd_some, hm_217, bnd_none]
                        rw [eS] at hret
                        exact hret 344 ls _ _ (sj_73, 2) dX6_statement_344 ⟨rfl, (fun z => absurd z (by decide)), (by omega)⟩ hH hS
                      · exact (show False by omega).elim
                  · skip
                    refine lv_iload_n S.1 S.2.1 dX6_statement_251 rfl (lv_at hl 2 rfl) ?_
                    refine lv_aload_n S.1 S.2.1 dX6_statement_252 rfl (lv_at hl 5 rfl) ?_
                    refine zv_get (v := .ref (Q 1)) S hAM hH nX6_statement_X6 0 rfl rfl 1 (by decide) mX6_statement_2 rfl rfl dX6_statement_253 ?_
                    refine lv_iconst (v := iI (((0 : Nat) : Int))) S.1 S.2.1 dX6_statement_256 (by decide) ?_
                    refine zv_iald S hAM hH 2 rfl (0) rfl (by decide) (by decide) dX6_statement_257 ?_
                    refine zv_top (z := rd 0) (z2 := ((ns rd : Nat) : Int)) hrd.e0 ?_
                    refine zv_icmp_ge (tgt := 295) S dX6_statement_258 (by decide) (by omega) (by omega) (fun c_258 => ?_) (fun c_258 => ?_)
                    · skip
                      refine lv_iconst (v := iI (((0 : Nat) : Int))) S.1 S.2.1 dX6_statement_295 (by decide) ?_
                      refine lv_aload_n S.1 S.2.1 dX6_statement_296 rfl (lv_at hl 5 rfl) ?_
                      refine zv_get (v := .ref (Q 1)) S hAM hH nX6_statement_X6 0 rfl rfl 1 (by decide) mX6_statement_2 rfl rfl dX6_statement_297 ?_
                      refine lv_bipush (v := iI (((44 : Nat) : Int))) S.1 S.2.1 dX6_statement_300 (by decide) ?_
                      refine zv_iald S hAM hH 2 rfl (44) rfl (by decide) (by decide) dX6_statement_302 ?_
                      refine zv_top (z := rd 44) (z2 := ((na rd : Nat) : Int)) hrd.e44 ?_
                      refine lv_bipush (v := iI (((20 : Nat) : Int))) S.1 S.2.1 dX6_statement_303 (by decide) ?_
                      refine zv_icmp_ge (tgt := 312) S dX6_statement_305 (by decide) (by omega) (by decide) (fun c_305 => ?_) (fun c_305 => ?_)
                      · skip
                        refine lv_iconst (v := iI (((0 : Nat) : Int))) S.1 S.2.1 dX6_statement_312 (by decide) ?_
                        refine zc_Vv (n := 2) (As := [.int (iI ((0 : Nat) : Int)), .int (iI ((0 : Nat) : Int))]) (rest := []) S hAM hA (kX6_checked l X h Q s rd kp km tx lnn sj_73 2 wi gi 0 0 ht (by decide) (by decide) (by decide)) rfl gX6_statement_X6_checked  (by decide +kernel) ⟨Nat.le_of_ble_eq_true rfl, Nat.le_of_ble_eq_true rfl⟩ hH hS [0, 1, 2, 3, 4, 5, 6] rfl 7 rfl (List.Perm.refl _) 6 0 rfl rfl rfl hl.1 rfl (Nat.le_of_ble_eq_true rfl) dX6_statement_313 ⟨Nat.le_of_ble_eq_true rfl, Nat.le_of_ble_eq_true rfl⟩ (fun rj_101 H locs hp103 hH hS => ?_)
                        have hH : Hold X A [mO h Q km ((lnn : Nat) : Int) ((sj_73 : Nat) : Int) ((rj_101 : Nat) : Int), aW X (Q 0) 125 s, aW X (Q 1) 125 rd, aW X (Q 2) 625 kp, aW X (Q 3) 400 tx, aW X (Q 4) 8 wi, aW X (Q 5) 8 gi].flatten H := hH
                        have hc_313 := hp103
                        obtain rfl : rj_101 = 2 := hc_313.trans (by decide)
                        refine lv_aload_n S.1 S.2.1 dX6_statement_316 rfl (lv_at hl 5 rfl) ?_
                        refine zv_get (v := .int (iI ((2 : Nat) : Int))) S hAM hH nX6_statement_X6 0 rfl rfl 7 (by decide) mX6_statement_3 rfl rfl dX6_statement_317 ?_
                        refine zv_if_ne (tgt := 336) S dX6_statement_320 (by decide) (by decide) (fun c_320 => ?_) (fun c_320 => ?_)
                        · skip
                          refine lv_goto (tgt := 344) S.1 S.2.1 dX6_statement_336 (by decide) ?_
                          have eS : stm tx lnn p rd = (2, 0, rd) := by rw [stm, if_neg c_19, if_neg c_109, if_pos c_208, stEnter, hm_212, bnd_some, hm_217, bnd_none]
                          rw [eS] at hret
                          exact hret 344 ls _ _ (sj_73, 2) dX6_statement_344 ⟨rfl, (fun z => absurd z (by decide)), (by omega)⟩ hH hS
                        · exact (show False by omega).elim
                      · skip
                        refine lv_iconst (v := iI (((1 : Nat) : Int))) S.1 S.2.1 dX6_statement_308 (by decide) ?_
                        refine lv_goto (tgt := 313) S.1 S.2.1 dX6_statement_309 (by decide) ?_
                        refine zc_Vv (n := 2) (As := [.int (iI ((0 : Nat) : Int)), .int (iI ((1 : Nat) : Int))]) (rest := []) S hAM hA (kX6_checked l X h Q s rd kp km tx lnn sj_73 2 wi gi 0 1 ht (by decide) (by decide) (by decide)) rfl gX6_statement_X6_checked  (by decide +kernel) ⟨Nat.le_of_ble_eq_true rfl, Nat.le_of_ble_eq_true rfl⟩ hH hS [0, 1, 2, 3, 4, 5, 6] rfl 7 rfl (List.Perm.refl _) 6 0 rfl rfl rfl hl.1 rfl (Nat.le_of_ble_eq_true rfl) dX6_statement_313 ⟨Nat.le_of_ble_eq_true rfl, Nat.le_of_ble_eq_true rfl⟩ (fun rj_104 H locs hp106 hH hS => ?_)
                        have hH : Hold X A [mO h Q km ((lnn : Nat) : Int) ((sj_73 : Nat) : Int) ((rj_104 : Nat) : Int), aW X (Q 0) 125 s, aW X (Q 1) 125 rd, aW X (Q 2) 625 kp, aW X (Q 3) 400 tx, aW X (Q 4) 8 wi, aW X (Q 5) 8 gi].flatten H := hH
                        have hc_313 := hp106
                        obtain rfl : rj_104 = 2 := hc_313.trans (by decide)
                        refine lv_aload_n S.1 S.2.1 dX6_statement_316 rfl (lv_at hl 5 rfl) ?_
                        refine zv_get (v := .int (iI ((2 : Nat) : Int))) S hAM hH nX6_statement_X6 0 rfl rfl 7 (by decide) mX6_statement_3 rfl rfl dX6_statement_317 ?_
                        refine zv_if_ne (tgt := 336) S dX6_statement_320 (by decide) (by decide) (fun c_320 => ?_) (fun c_320 => ?_)
                        · skip
                          refine lv_goto (tgt := 344) S.1 S.2.1 dX6_statement_336 (by decide) ?_
                          have eS : stm tx lnn p rd = (2, 0, rd) := by rw [stm, if_neg c_19, if_neg c_109, if_pos c_208, stEnter, hm_212, bnd_some, hm_217, bnd_none]
                          rw [eS] at hret
                          exact hret 344 ls _ _ (sj_73, 2) dX6_statement_344 ⟨rfl, (fun z => absurd z (by decide)), (by omega)⟩ hH hS
                        · exact (show False by omega).elim
                    · skip
                      refine lv_iload S.1 S.2.1 dX6_statement_261 (lv_at hl 1 rfl) ?_
                      refine lv_iload S.1 S.2.1 dX6_statement_263 (lv_at hl 0 rfl) ?_
                      refine zv_icmp_ge (tgt := 295) S dX6_statement_265 (by decide) (by omega) (by omega) (fun c_265 => ?_) (fun c_265 => ?_)
                      · skip
                        refine lv_iconst (v := iI (((0 : Nat) : Int))) S.1 S.2.1 dX6_statement_295 (by decide) ?_
                        refine lv_aload_n S.1 S.2.1 dX6_statement_296 rfl (lv_at hl 5 rfl) ?_
                        refine zv_get (v := .ref (Q 1)) S hAM hH nX6_statement_X6 0 rfl rfl 1 (by decide) mX6_statement_2 rfl rfl dX6_statement_297 ?_
                        refine lv_bipush (v := iI (((44 : Nat) : Int))) S.1 S.2.1 dX6_statement_300 (by decide) ?_
                        refine zv_iald S hAM hH 2 rfl (44) rfl (by decide) (by decide) dX6_statement_302 ?_
                        refine zv_top (z := rd 44) (z2 := ((na rd : Nat) : Int)) hrd.e44 ?_
                        refine lv_bipush (v := iI (((20 : Nat) : Int))) S.1 S.2.1 dX6_statement_303 (by decide) ?_
                        refine zv_icmp_ge (tgt := 312) S dX6_statement_305 (by decide) (by omega) (by decide) (fun c_305 => ?_) (fun c_305 => ?_)
                        · skip
                          refine lv_iconst (v := iI (((0 : Nat) : Int))) S.1 S.2.1 dX6_statement_312 (by decide) ?_
                          refine zc_Vv (n := 2) (As := [.int (iI ((0 : Nat) : Int)), .int (iI ((0 : Nat) : Int))]) (rest := []) S hAM hA (kX6_checked l X h Q s rd kp km tx lnn sj_73 2 wi gi 0 0 ht (by decide) (by decide) (by decide)) rfl gX6_statement_X6_checked  (by decide +kernel) ⟨Nat.le_of_ble_eq_true rfl, Nat.le_of_ble_eq_true rfl⟩ hH hS [0, 1, 2, 3, 4, 5, 6] rfl 7 rfl (List.Perm.refl _) 6 0 rfl rfl rfl hl.1 rfl (Nat.le_of_ble_eq_true rfl) dX6_statement_313 ⟨Nat.le_of_ble_eq_true rfl, Nat.le_of_ble_eq_true rfl⟩ (fun rj_107 H locs hp109 hH hS => ?_)
                          have hH : Hold X A [mO h Q km ((lnn : Nat) : Int) ((sj_73 : Nat) : Int) ((rj_107 : Nat) : Int), aW X (Q 0) 125 s, aW X (Q 1) 125 rd, aW X (Q 2) 625 kp, aW X (Q 3) 400 tx, aW X (Q 4) 8 wi, aW X (Q 5) 8 gi].flatten H := hH
                          have hc_313 := hp109
                          obtain rfl : rj_107 = 2 := hc_313.trans (by decide)
                          refine lv_aload_n S.1 S.2.1 dX6_statement_316 rfl (lv_at hl 5 rfl) ?_
                          refine zv_get (v := .int (iI ((2 : Nat) : Int))) S hAM hH nX6_statement_X6 0 rfl rfl 7 (by decide) mX6_statement_3 rfl rfl dX6_statement_317 ?_
                          refine zv_if_ne (tgt := 336) S dX6_statement_320 (by decide) (by decide) (fun c_320 => ?_) (fun c_320 => ?_)
                          · skip
                            refine lv_goto (tgt := 344) S.1 S.2.1 dX6_statement_336 (by decide) ?_
                            have eS : stm tx lnn p rd = (2, 0, rd) := by rw [stm, if_neg c_19, if_neg c_109, if_pos c_208, stEnter, hm_212, bnd_some, hm_217, bnd_none]
                            rw [eS] at hret
                            exact hret 344 ls _ _ (sj_73, 2) dX6_statement_344 ⟨rfl, (fun z => absurd z (by decide)), (by omega)⟩ hH hS
                          · exact (show False by omega).elim
                        · skip
                          refine lv_iconst (v := iI (((1 : Nat) : Int))) S.1 S.2.1 dX6_statement_308 (by decide) ?_
                          refine lv_goto (tgt := 313) S.1 S.2.1 dX6_statement_309 (by decide) ?_
                          refine zc_Vv (n := 2) (As := [.int (iI ((0 : Nat) : Int)), .int (iI ((1 : Nat) : Int))]) (rest := []) S hAM hA (kX6_checked l X h Q s rd kp km tx lnn sj_73 2 wi gi 0 1 ht (by decide) (by decide) (by decide)) rfl gX6_statement_X6_checked  (by decide +kernel) ⟨Nat.le_of_ble_eq_true rfl, Nat.le_of_ble_eq_true rfl⟩ hH hS [0, 1, 2, 3, 4, 5, 6] rfl 7 rfl (List.Perm.refl _) 6 0 rfl rfl rfl hl.1 rfl (Nat.le_of_ble_eq_true rfl) dX6_statement_313 ⟨Nat.le_of_ble_eq_true rfl, Nat.le_of_ble_eq_true rfl⟩ (fun rj_110 H locs hp112 hH hS => ?_)
                          have hH : Hold X A [mO h Q km ((lnn : Nat) : Int) ((sj_73 : Nat) : Int) ((rj_110 : Nat) : Int), aW X (Q 0) 125 s, aW X (Q 1) 125 rd, aW X (Q 2) 625 kp, aW X (Q 3) 400 tx, aW X (Q 4) 8 wi, aW X (Q 5) 8 gi].flatten H := hH
                          have hc_313 := hp112
                          obtain rfl : rj_110 = 2 := hc_313.trans (by decide)
                          refine lv_aload_n S.1 S.2.1 dX6_statement_316 rfl (lv_at hl 5 rfl) ?_
                          refine zv_get (v := .int (iI ((2 : Nat) : Int))) S hAM hH nX6_statement_X6 0 rfl rfl 7 (by decide) mX6_statement_3 rfl rfl dX6_statement_317 ?_
                          refine zv_if_ne (tgt := 336) S dX6_statement_320 (by decide) (by decide) (fun c_320 => ?_) (fun c_320 => ?_)
                          · skip
                            refine lv_goto (tgt := 344) S.1 S.2.1 dX6_statement_336 (by decide) ?_
                            have eS : stm tx lnn p rd = (2, 0, rd) := by rw [stm, if_neg c_19, if_neg c_109, if_pos c_208, stEnter, hm_212, bnd_some, hm_217, bnd_none]
                            rw [eS] at hret
                            exact hret 344 ls _ _ (sj_73, 2) dX6_statement_344 ⟨rfl, (fun z => absurd z (by decide)), (by omega)⟩ hH hS
                          · exact (show False by omega).elim
                      · skip
                        refine lv_iload S.1 S.2.1 dX6_statement_268 (lv_at hl 0 rfl) ?_
                        refine lv_aload_n S.1 S.2.1 dX6_statement_270 rfl (lv_at hl 5 rfl) ?_
                        refine zv_get (v := .ref (Q 1)) S hAM hH nX6_statement_X6 0 rfl rfl 1 (by decide) mX6_statement_2 rfl rfl dX6_statement_271 ?_
                        refine lv_iconst (v := iI (((1 : Nat) : Int))) S.1 S.2.1 dX6_statement_274 (by decide) ?_
                        refine lv_iload_n S.1 S.2.1 dX6_statement_275 rfl (lv_at hl 2 rfl) ?_
                        refine lv_bipush (v := iI (((10 : Nat) : Int))) S.1 S.2.1 dX6_statement_276 (by decide) ?_
                        refine zv_icmp_ge (tgt := 285) S dX6_statement_278 (by decide) (by omega) (by decide) (fun c_278 => ?_) (fun c_278 => ?_)
                        · exact (show False by omega).elim
                        · skip
                          refine lv_iload_n S.1 S.2.1 dX6_statement_281 rfl (lv_at hl 2 rfl) ?_
                          refine lv_goto (tgt := 286) S.1 S.2.1 dX6_statement_282 (by decide) ?_
                          refine zv_iadd (z := (((1 + zz_72) : Nat) : Int)) S dX6_statement_286 (by omega) ?_
                          refine zv_iald S hAM hH 2 rfl ((1 + zz_72)) rfl (by omega) (by decide) dX6_statement_287 ?_
                          refine zv_icmp_gt (tgt := 295) S dX6_statement_288 (by decide) (by omega) (hrd.inRk _ (by omega)) (fun c_288 => ?_) (fun c_288 => ?_)
                          · skip
                            refine lv_iconst (v := iI (((0 : Nat) : Int))) S.1 S.2.1 dX6_statement_295 (by decide) ?_
                            refine lv_aload_n S.1 S.2.1 dX6_statement_296 rfl (lv_at hl 5 rfl) ?_
                            refine zv_get (v := .ref (Q 1)) S hAM hH nX6_statement_X6 0 rfl rfl 1 (by decide) mX6_statement_2 rfl rfl dX6_statement_297 ?_
                            refine lv_bipush (v := iI (((44 : Nat) : Int))) S.1 S.2.1 dX6_statement_300 (by decide) ?_
                            refine zv_iald S hAM hH 2 rfl (44) rfl (by decide) (by decide) dX6_statement_302 ?_
                            refine zv_top (z := rd 44) (z2 := ((na rd : Nat) : Int)) hrd.e44 ?_
                            refine lv_bipush (v := iI (((20 : Nat) : Int))) S.1 S.2.1 dX6_statement_303 (by decide) ?_
                            refine zv_icmp_ge (tgt := 312) S dX6_statement_305 (by decide) (by omega) (by decide) (fun c_305 => ?_) (fun c_305 => ?_)
                            · skip
                              refine lv_iconst (v := iI (((0 : Nat) : Int))) S.1 S.2.1 dX6_statement_312 (by decide) ?_
                              refine zc_Vv (n := 2) (As := [.int (iI ((0 : Nat) : Int)), .int (iI ((0 : Nat) : Int))]) (rest := []) S hAM hA (kX6_checked l X h Q s rd kp km tx lnn sj_73 2 wi gi 0 0 ht (by decide) (by decide) (by decide)) rfl gX6_statement_X6_checked  (by decide +kernel) ⟨Nat.le_of_ble_eq_true rfl, Nat.le_of_ble_eq_true rfl⟩ hH hS [0, 1, 2, 3, 4, 5, 6] rfl 7 rfl (List.Perm.refl _) 6 0 rfl rfl rfl hl.1 rfl (Nat.le_of_ble_eq_true rfl) dX6_statement_313 ⟨Nat.le_of_ble_eq_true rfl, Nat.le_of_ble_eq_true rfl⟩ (fun rj_113 H locs hp115 hH hS => ?_)
                              have hH : Hold X A [mO h Q km ((lnn : Nat) : Int) ((sj_73 : Nat) : Int) ((rj_113 : Nat) : Int), aW X (Q 0) 125 s, aW X (Q 1) 125 rd, aW X (Q 2) 625 kp, aW X (Q 3) 400 tx, aW X (Q 4) 8 wi, aW X (Q 5) 8 gi].flatten H := hH
                              have hc_313 := hp115
                              obtain rfl : rj_113 = 2 := hc_313.trans (by decide)
                              refine lv_aload_n S.1 S.2.1 dX6_statement_316 rfl (lv_at hl 5 rfl) ?_
                              refine zv_get (v := .int (iI ((2 : Nat) : Int))) S hAM hH nX6_statement_X6 0 rfl rfl 7 (by decide) mX6_statement_3 rfl rfl dX6_statement_317 ?_
                              refine zv_if_ne (tgt := 336) S dX6_statement_320 (by decide) (by decide) (fun c_320 => ?_) (fun c_320 => ?_)
                              · skip
                                refine lv_goto (tgt := 344) S.1 S.2.1 dX6_statement_336 (by decide) ?_
                                have eS : stm tx lnn p rd = (2, 0, rd) := by rw [stm, if_neg c_19, if_neg c_109, if_pos c_208, stEnter, hm_212, bnd_some, hm_217, bnd_none]
                                rw [eS] at hret
                                exact hret 344 ls _ _ (sj_73, 2) dX6_statement_344 ⟨rfl, (fun z => absurd z (by decide)), (by omega)⟩ hH hS
                              · exact (show False by omega).elim
                            · skip
                              refine lv_iconst (v := iI (((1 : Nat) : Int))) S.1 S.2.1 dX6_statement_308 (by decide) ?_
                              refine lv_goto (tgt := 313) S.1 S.2.1 dX6_statement_309 (by decide) ?_
                              refine zc_Vv (n := 2) (As := [.int (iI ((0 : Nat) : Int)), .int (iI ((1 : Nat) : Int))]) (rest := []) S hAM hA (kX6_checked l X h Q s rd kp km tx lnn sj_73 2 wi gi 0 1 ht (by decide) (by decide) (by decide)) rfl gX6_statement_X6_checked  (by decide +kernel) ⟨Nat.le_of_ble_eq_true rfl, Nat.le_of_ble_eq_true rfl⟩ hH hS [0, 1, 2, 3, 4, 5, 6] rfl 7 rfl (List.Perm.refl _) 6 0 rfl rfl rfl hl.1 rfl (Nat.le_of_ble_eq_true rfl) dX6_statement_313 ⟨Nat.le_of_ble_eq_true rfl, Nat.le_of_ble_eq_true rfl⟩ (fun rj_116 H locs hp118 hH hS => ?_)
                              have hH : Hold X A [mO h Q km ((lnn : Nat) : Int) ((sj_73 : Nat) : Int) ((rj_116 : Nat) : Int), aW X (Q 0) 125 s, aW X (Q 1) 125 rd, aW X (Q 2) 625 kp, aW X (Q 3) 400 tx, aW X (Q 4) 8 wi, aW X (Q 5) 8 gi].flatten H := hH
                              have hc_313 := hp118
                              obtain rfl : rj_116 = 2 := hc_313.trans (by decide)
                              refine lv_aload_n S.1 S.2.1 dX6_statement_316 rfl (lv_at hl 5 rfl) ?_
                              refine zv_get (v := .int (iI ((2 : Nat) : Int))) S hAM hH nX6_statement_X6 0 rfl rfl 7 (by decide) mX6_statement_3 rfl rfl dX6_statement_317 ?_
                              refine zv_if_ne (tgt := 336) S dX6_statement_320 (by decide) (by decide) (fun c_320 => ?_) (fun c_320 => ?_)
                              · skip
                                refine lv_goto (tgt := 344) S.1 S.2.1 dX6_statement_336 (by decide) ?_
                                have eS : stm tx lnn p rd = (2, 0, rd) := by rw [stm, if_neg c_19, if_neg c_109, if_pos c_208, stEnter, hm_212, bnd_some, hm_217, bnd_none]
                                rw [eS] at hret
                                exact hret 344 ls _ _ (sj_73, 2) dX6_statement_344 ⟨rfl, (fun z => absurd z (by decide)), (by omega)⟩ hH hS
                              · exact (show False by omega).elim
                          · skip
                            refine lv_iconst (v := iI (((1 : Nat) : Int))) S.1 S.2.1 dX6_statement_291 (by decide) ?_
                            refine lv_goto (tgt := 296) S.1 S.2.1 dX6_statement_292 (by decide) ?_
                            refine lv_aload_n S.1 S.2.1 dX6_statement_296 rfl (lv_at hl 5 rfl) ?_
                            refine zv_get (v := .ref (Q 1)) S hAM hH nX6_statement_X6 0 rfl rfl 1 (by decide) mX6_statement_2 rfl rfl dX6_statement_297 ?_
                            refine lv_bipush (v := iI (((44 : Nat) : Int))) S.1 S.2.1 dX6_statement_300 (by decide) ?_
                            refine zv_iald S hAM hH 2 rfl (44) rfl (by decide) (by decide) dX6_statement_302 ?_
                            refine zv_top (z := rd 44) (z2 := ((na rd : Nat) : Int)) hrd.e44 ?_
                            refine lv_bipush (v := iI (((20 : Nat) : Int))) S.1 S.2.1 dX6_statement_303 (by decide) ?_
                            refine zv_icmp_ge (tgt := 312) S dX6_statement_305 (by decide) (by omega) (by decide) (fun c_305 => ?_) (fun c_305 => ?_)
                            · skip
                              refine lv_iconst (v := iI (((0 : Nat) : Int))) S.1 S.2.1 dX6_statement_312 (by decide) ?_
                              refine zc_Vv (n := 2) (As := [.int (iI ((1 : Nat) : Int)), .int (iI ((0 : Nat) : Int))]) (rest := []) S hAM hA (kX6_checked l X h Q s rd kp km tx lnn sj_73 2 wi gi 1 0 ht (by decide) (by decide) (by decide)) rfl gX6_statement_X6_checked  (by decide +kernel) ⟨Nat.le_of_ble_eq_true rfl, Nat.le_of_ble_eq_true rfl⟩ hH hS [0, 1, 2, 3, 4, 5, 6] rfl 7 rfl (List.Perm.refl _) 6 0 rfl rfl rfl hl.1 rfl (Nat.le_of_ble_eq_true rfl) dX6_statement_313 ⟨Nat.le_of_ble_eq_true rfl, Nat.le_of_ble_eq_true rfl⟩ (fun rj_119 H locs hp121 hH hS => ?_)
                              have hH : Hold X A [mO h Q km ((lnn : Nat) : Int) ((sj_73 : Nat) : Int) ((rj_119 : Nat) : Int), aW X (Q 0) 125 s, aW X (Q 1) 125 rd, aW X (Q 2) 625 kp, aW X (Q 3) 400 tx, aW X (Q 4) 8 wi, aW X (Q 5) 8 gi].flatten H := hH
                              have hc_313 := hp121
                              obtain rfl : rj_119 = 2 := hc_313.trans (by decide)
                              refine lv_aload_n S.1 S.2.1 dX6_statement_316 rfl (lv_at hl 5 rfl) ?_
                              refine zv_get (v := .int (iI ((2 : Nat) : Int))) S hAM hH nX6_statement_X6 0 rfl rfl 7 (by decide) mX6_statement_3 rfl rfl dX6_statement_317 ?_
                              refine zv_if_ne (tgt := 336) S dX6_statement_320 (by decide) (by decide) (fun c_320 => ?_) (fun c_320 => ?_)
                              · skip
                                refine lv_goto (tgt := 344) S.1 S.2.1 dX6_statement_336 (by decide) ?_
                                have eS : stm tx lnn p rd = (2, 0, rd) := by rw [stm, if_neg c_19, if_neg c_109, if_pos c_208, stEnter, hm_212, bnd_some, hm_217, bnd_none]
                                rw [eS] at hret
                                exact hret 344 ls _ _ (sj_73, 2) dX6_statement_344 ⟨rfl, (fun z => absurd z (by decide)), (by omega)⟩ hH hS
                              · exact (show False by omega).elim
                            · skip
                              refine lv_iconst (v := iI (((1 : Nat) : Int))) S.1 S.2.1 dX6_statement_308 (by decide) ?_
                              refine lv_goto (tgt := 313) S.1 S.2.1 dX6_statement_309 (by decide) ?_
                              refine zc_Vv (n := 2) (As := [.int (iI ((1 : Nat) : Int)), .int (iI ((1 : Nat) : Int))]) (rest := []) S hAM hA (kX6_checked l X h Q s rd kp km tx lnn sj_73 2 wi gi 1 1 ht (by decide) (by decide) (by decide)) rfl gX6_statement_X6_checked  (by decide +kernel) ⟨Nat.le_of_ble_eq_true rfl, Nat.le_of_ble_eq_true rfl⟩ hH hS [0, 1, 2, 3, 4, 5, 6] rfl 7 rfl (List.Perm.refl _) 6 0 rfl rfl rfl hl.1 rfl (Nat.le_of_ble_eq_true rfl) dX6_statement_313 ⟨Nat.le_of_ble_eq_true rfl, Nat.le_of_ble_eq_true rfl⟩ (fun rj_122 H locs hp124 hH hS => ?_)
                              have hH : Hold X A [mO h Q km ((lnn : Nat) : Int) ((sj_73 : Nat) : Int) ((rj_122 : Nat) : Int), aW X (Q 0) 125 s, aW X (Q 1) 125 rd, aW X (Q 2) 625 kp, aW X (Q 3) 400 tx, aW X (Q 4) 8 wi, aW X (Q 5) 8 gi].flatten H := hH
                              have hc_313 := hp124
                              obtain rfl : rj_122 = 2 := hc_313.trans (by decide)
                              refine lv_aload_n S.1 S.2.1 dX6_statement_316 rfl (lv_at hl 5 rfl) ?_
                              refine zv_get (v := .int (iI ((2 : Nat) : Int))) S hAM hH nX6_statement_X6 0 rfl rfl 7 (by decide) mX6_statement_3 rfl rfl dX6_statement_317 ?_
                              refine zv_if_ne (tgt := 336) S dX6_statement_320 (by decide) (by decide) (fun c_320 => ?_) (fun c_320 => ?_)
                              · skip
                                refine lv_goto (tgt := 344) S.1 S.2.1 dX6_statement_336 (by decide) ?_
                                have eS : stm tx lnn p rd = (2, 0, rd) := by rw [stm, if_neg c_19, if_neg c_109, if_pos c_208, stEnter, hm_212, bnd_some, hm_217, bnd_none]
                                rw [eS] at hret
                                exact hret 344 ls _ _ (sj_73, 2) dX6_statement_344 ⟨rfl, (fun z => absurd z (by decide)), (by omega)⟩ hH hS
                              · exact (show False by omega).elim
                · exact absurd q1 (by decide)
                · exact absurd q1 (by decide)
              · exact absurd q1 (by decide)
              · exact absurd q1 (by decide)
            · exact absurd q1 (by decide)
            · exact absurd q1 (by decide)
          · skip
            refine lv_istore_n (lv' := [(3, .int (iI ((zz_72 : Nat) : Int))), (2, .int (iI ((zz_13 : Nat) : Int))), (1, .int (iI (wdV tx p (we tx lnn p - p)))), (0, .ref (h))]) S.1 S.2.1 dX6_statement_220 rfl hl (by decide) rfl (fun ls hl => ?_)
            refine lv_aload_n S.1 S.2.1 dX6_statement_221 rfl (lv_at hl 3 rfl) ?_
            refine zc_Vi (n := 0) (As := []) (rest := []) S hAM hA (kX6_number l X h Q s rd kp km tx lnn sj_73 0 wi gi ht (by omega) (by omega) (by omega)) rfl gX6_statement_X6_number  (by decide +kernel) ⟨Nat.le_of_ble_eq_true rfl, Nat.le_of_ble_eq_true rfl⟩ hH hS [0, 1, 2, 3, 4, 5, 6] rfl 7 rfl (List.Perm.refl _) 6 0 rfl rfl rfl hl.1 rfl (Nat.le_of_ble_eq_true rfl) dX6_statement_222 ⟨Nat.le_of_ble_eq_true rfl, Nat.le_of_ble_eq_true rfl⟩ (fun z129 u128 H locs hp130 hH hS => ?_)
            obtain ⟨zz_125, sj_126, rj_127⟩ := u128
            have hH : Hold X A [mO h Q km ((lnn : Nat) : Int) ((sj_126 : Nat) : Int) ((rj_127 : Nat) : Int), aW X (Q 0) 125 s, aW X (Q 1) 125 rd, aW X (Q 2) 625 kp, aW X (Q 3) 400 tx, aW X (Q 4) 8 wi, aW X (Q 5) 8 gi].flatten H := hH
            obtain ⟨rfl, hz_222, hn_222⟩ := hp130
            rcases hn_222 with ⟨q1, -⟩ | ⟨-, rfl, hm_222, hb_222⟩ | ⟨-, rfl, hm_222, hb_222⟩
            · exact absurd rfl q1
            · skip
              refine lv_istore (lv' := [(4, .int (iI ((zz_125 : Nat) : Int))), (3, .int (iI ((zz_72 : Nat) : Int))), (2, .int (iI ((zz_13 : Nat) : Int))), (1, .int (iI (wdV tx p (we tx lnn p - p)))), (0, .ref (h))]) S.1 S.2.1 dX6_statement_225 hl (by decide) rfl (fun ls hl => ?_)
              refine lv_aload_n S.1 S.2.1 dX6_statement_227 rfl (lv_at hl 4 rfl) ?_
              refine zc_Vi (n := 0) (As := []) (rest := []) S hAM hA (kX6_number l X h Q s rd kp km tx lnn sj_126 2 wi gi ht (by omega) (by omega) (by omega)) rfl gX6_statement_X6_number  (by decide +kernel) ⟨Nat.le_of_ble_eq_true rfl, Nat.le_of_ble_eq_true rfl⟩ hH hS [0, 1, 2, 3, 4, 5, 6] rfl 7 rfl (List.Perm.refl _) 6 0 rfl rfl rfl hl.1 rfl (Nat.le_of_ble_eq_true rfl) dX6_statement_228 ⟨Nat.le_of_ble_eq_true rfl, Nat.le_of_ble_eq_true rfl⟩ (fun z135 u134 H locs hp136 hH hS => ?_)
              obtain ⟨zz_131, sj_132, rj_133⟩ := u134
              have hH : Hold X A [mO h Q km ((lnn : Nat) : Int) ((sj_132 : Nat) : Int) ((rj_133 : Nat) : Int), aW X (Q 0) 125 s, aW X (Q 1) 125 rd, aW X (Q 2) 625 kp, aW X (Q 3) 400 tx, aW X (Q 4) 8 wi, aW X (Q 5) 8 gi].flatten H := hH
              obtain ⟨rfl, hz_228, hn_228⟩ := hp136
              rcases hn_228 with ⟨-, rfl, rfl⟩ | ⟨q1, -⟩ | ⟨q1, -⟩
              · skip
                refine lv_istore (lv' := [(5, .int (iI ((zz_131 : Nat) : Int))), (4, .int (iI ((zz_125 : Nat) : Int))), (3, .int (iI ((zz_72 : Nat) : Int))), (2, .int (iI ((zz_13 : Nat) : Int))), (1, .int (iI (wdV tx p (we tx lnn p - p)))), (0, .ref (h))]) S.1 S.2.1 dX6_statement_231 hl (by decide) rfl (fun ls hl => ?_)
                refine lv_aload_n S.1 S.2.1 dX6_statement_233 rfl (lv_at hl 5 rfl) ?_
                refine lv_bipush (v := iI (((59 : Nat) : Int))) S.1 S.2.1 dX6_statement_234 (by decide) ?_
                refine zc_Vv (n := 1) (As := [.int (iI ((59 : Nat) : Int))]) (rest := []) S hAM hA (kX6_wants l X h Q s rd kp km tx lnn sj_126 2 wi gi 59 ht (by decide) (by omega) (by omega)) rfl gX6_statement_X6_wants  (by decide +kernel) ⟨Nat.le_of_ble_eq_true rfl, Nat.le_of_ble_eq_true rfl⟩ hH hS [0, 1, 2, 3, 4, 5, 6] rfl 7 rfl (List.Perm.refl _) 6 0 rfl rfl rfl hl.1 rfl (Nat.le_of_ble_eq_true rfl) dX6_statement_236 ⟨Nat.le_of_ble_eq_true rfl, Nat.le_of_ble_eq_true rfl⟩ (fun u139 H locs hp141 hH hS => ?_)
                obtain ⟨sj_137, rj_138⟩ := u139
                have hH : Hold X A [mO h Q km ((lnn : Nat) : Int) ((sj_137 : Nat) : Int) ((rj_138 : Nat) : Int), aW X (Q 0) 125 s, aW X (Q 1) 125 rd, aW X (Q 2) 625 kp, aW X (Q 3) 400 tx, aW X (Q 4) 8 wi, aW X (Q 5) 8 gi].flatten H := hH
                have hw_236 := hp141
                rcases hw_236 with ⟨-, rfl, rfl⟩ | ⟨q1, -⟩ | ⟨q1, -⟩
                · skip
                  refine lv_aload_n S.1 S.2.1 dX6_statement_239 rfl (lv_at hl 5 rfl) ?_
                  refine lv_iload_n S.1 S.2.1 dX6_statement_240 rfl (lv_at hl 3 rfl) ?_
                  refine lv_aload_n S.1 S.2.1 dX6_statement_241 rfl (lv_at hl 5 rfl) ?_
                  refine zv_get (v := .ref (Q 1)) S hAM hH nX6_statement_X6 0 rfl rfl 1 (by decide) mX6_statement_2 rfl rfl dX6_statement_242 ?_
                  refine lv_bipush (v := iI (((11 : Nat) : Int))) S.1 S.2.1 dX6_statement_245 (by decide) ?_
                  refine zv_iald S hAM hH 2 rfl (11) rfl (by decide) (by decide) dX6_statement_247 ?_
                  refine zv_top (z := rd 11) (z2 := ((nr rd : Nat) : Int)) hrd.e11 ?_
                  refine zv_icmp_ge (tgt := 295) S dX6_statement_248 (by decide) (by omega) (by omega) (fun c_248 => ?_) (fun c_248 => ?_)
                  · skip
                    refine lv_iconst (v := iI (((0 : Nat) : Int))) S.1 S.2.1 dX6_statement_295 (by decide) ?_
                    refine lv_aload_n S.1 S.2.1 dX6_statement_296 rfl (lv_at hl 5 rfl) ?_
                    refine zv_get (v := .ref (Q 1)) S hAM hH nX6_statement_X6 0 rfl rfl 1 (by decide) mX6_statement_2 rfl rfl dX6_statement_297 ?_
                    refine lv_bipush (v := iI (((44 : Nat) : Int))) S.1 S.2.1 dX6_statement_300 (by decide) ?_
                    refine zv_iald S hAM hH 2 rfl (44) rfl (by decide) (by decide) dX6_statement_302 ?_
                    refine zv_top (z := rd 44) (z2 := ((na rd : Nat) : Int)) hrd.e44 ?_
                    refine lv_bipush (v := iI (((20 : Nat) : Int))) S.1 S.2.1 dX6_statement_303 (by decide) ?_
                    refine zv_icmp_ge (tgt := 312) S dX6_statement_305 (by decide) (by omega) (by decide) (fun c_305 => ?_) (fun c_305 => ?_)
                    · skip
                      refine lv_iconst (v := iI (((0 : Nat) : Int))) S.1 S.2.1 dX6_statement_312 (by decide) ?_
                      refine zc_Vv (n := 2) (As := [.int (iI ((0 : Nat) : Int)), .int (iI ((0 : Nat) : Int))]) (rest := []) S hAM hA (kX6_checked l X h Q s rd kp km tx lnn sj_126 2 wi gi 0 0 ht (by decide) (by decide) (by decide)) rfl gX6_statement_X6_checked  (by decide +kernel) ⟨Nat.le_of_ble_eq_true rfl, Nat.le_of_ble_eq_true rfl⟩ hH hS [0, 1, 2, 3, 4, 5, 6] rfl 7 rfl (List.Perm.refl _) 6 0 rfl rfl rfl hl.1 rfl (Nat.le_of_ble_eq_true rfl) dX6_statement_313 ⟨Nat.le_of_ble_eq_true rfl, Nat.le_of_ble_eq_true rfl⟩ (fun rj_142 H locs hp144 hH hS => ?_)
                      have hH : Hold X A [mO h Q km ((lnn : Nat) : Int) ((sj_126 : Nat) : Int) ((rj_142 : Nat) : Int), aW X (Q 0) 125 s, aW X (Q 1) 125 rd, aW X (Q 2) 625 kp, aW X (Q 3) 400 tx, aW X (Q 4) 8 wi, aW X (Q 5) 8 gi].flatten H := hH
                      have hc_313 := hp144
                      obtain rfl : rj_142 = 2 := hc_313.trans (by decide)
                      refine lv_aload_n S.1 S.2.1 dX6_statement_316 rfl (lv_at hl 5 rfl) ?_
                      refine zv_get (v := .int (iI ((2 : Nat) : Int))) S hAM hH nX6_statement_X6 0 rfl rfl 7 (by decide) mX6_statement_3 rfl rfl dX6_statement_317 ?_
                      refine zv_if_ne (tgt := 336) S dX6_statement_320 (by decide) (by decide) (fun c_320 => ?_) (fun c_320 => ?_)
                      · skip
                        refine lv_goto (tgt := 344) S.1 S.2.1 dX6_statement_336 (by decide) ?_
                        have eS : stm tx lnn p rd = (2, 0, rd) := by rw [stm, if_neg c_19, if_neg c_109, if_pos c_208, stEnter, hm_212, bnd_some, hm_217, bnd_some, hm_222, bnd_none]
                        rw [eS] at hret
                        exact hret 344 ls _ _ (sj_126, 2) dX6_statement_344 ⟨rfl, (fun z => absurd z (by decide)), (by omega)⟩ hH hS
                      · exact (show False by omega).elim
                    · skip
                      refine lv_iconst (v := iI (((1 : Nat) : Int))) S.1 S.2.1 dX6_statement_308 (by decide) ?_
                      refine lv_goto (tgt := 313) S.1 S.2.1 dX6_statement_309 (by decide) ?_
                      refine zc_Vv (n := 2) (As := [.int (iI ((0 : Nat) : Int)), .int (iI ((1 : Nat) : Int))]) (rest := []) S hAM hA (kX6_checked l X h Q s rd kp km tx lnn sj_126 2 wi gi 0 1 ht (by decide) (by decide) (by decide)) rfl gX6_statement_X6_checked  (by decide +kernel) ⟨Nat.le_of_ble_eq_true rfl, Nat.le_of_ble_eq_true rfl⟩ hH hS [0, 1, 2, 3, 4, 5, 6] rfl 7 rfl (List.Perm.refl _) 6 0 rfl rfl rfl hl.1 rfl (Nat.le_of_ble_eq_true rfl) dX6_statement_313 ⟨Nat.le_of_ble_eq_true rfl, Nat.le_of_ble_eq_true rfl⟩ (fun rj_145 H locs hp147 hH hS => ?_)
                      have hH : Hold X A [mO h Q km ((lnn : Nat) : Int) ((sj_126 : Nat) : Int) ((rj_145 : Nat) : Int), aW X (Q 0) 125 s, aW X (Q 1) 125 rd, aW X (Q 2) 625 kp, aW X (Q 3) 400 tx, aW X (Q 4) 8 wi, aW X (Q 5) 8 gi].flatten H := hH
                      have hc_313 := hp147
                      obtain rfl : rj_145 = 2 := hc_313.trans (by decide)
                      refine lv_aload_n S.1 S.2.1 dX6_statement_316 rfl (lv_at hl 5 rfl) ?_
                      refine zv_get (v := .int (iI ((2 : Nat) : Int))) S hAM hH nX6_statement_X6 0 rfl rfl 7 (by decide) mX6_statement_3 rfl rfl dX6_statement_317 ?_
                      refine zv_if_ne (tgt := 336) S dX6_statement_320 (by decide) (by decide) (fun c_320 => ?_) (fun c_320 => ?_)
                      · skip
                        refine lv_goto (tgt := 344) S.1 S.2.1 dX6_statement_336 (by decide) ?_
                        have eS : stm tx lnn p rd = (2, 0, rd) := by rw [stm, if_neg c_19, if_neg c_109, if_pos c_208, stEnter, hm_212, bnd_some, hm_217, bnd_some, hm_222, bnd_none]
                        rw [eS] at hret
                        exact hret 344 ls _ _ (sj_126, 2) dX6_statement_344 ⟨rfl, (fun z => absurd z (by decide)), (by omega)⟩ hH hS
                      · exact (show False by omega).elim
                  · skip
                    refine lv_iload_n S.1 S.2.1 dX6_statement_251 rfl (lv_at hl 2 rfl) ?_
                    refine lv_aload_n S.1 S.2.1 dX6_statement_252 rfl (lv_at hl 5 rfl) ?_
                    refine zv_get (v := .ref (Q 1)) S hAM hH nX6_statement_X6 0 rfl rfl 1 (by decide) mX6_statement_2 rfl rfl dX6_statement_253 ?_
                    refine lv_iconst (v := iI (((0 : Nat) : Int))) S.1 S.2.1 dX6_statement_256 (by decide) ?_
                    refine zv_iald S hAM hH 2 rfl (0) rfl (by decide) (by decide) dX6_statement_257 ?_
                    refine zv_top (z := rd 0) (z2 := ((ns rd : Nat) : Int)) hrd.e0 ?_
                    refine zv_icmp_ge (tgt := 295) S dX6_statement_258 (by decide) (by omega) (by omega) (fun c_258 => ?_) (fun c_258 => ?_)
                    · skip
                      refine lv_iconst (v := iI (((0 : Nat) : Int))) S.1 S.2.1 dX6_statement_295 (by decide) ?_
                      refine lv_aload_n S.1 S.2.1 dX6_statement_296 rfl (lv_at hl 5 rfl) ?_
                      refine zv_get (v := .ref (Q 1)) S hAM hH nX6_statement_X6 0 rfl rfl 1 (by decide) mX6_statement_2 rfl rfl dX6_statement_297 ?_
                      refine lv_bipush (v := iI (((44 : Nat) : Int))) S.1 S.2.1 dX6_statement_300 (by decide) ?_
                      refine zv_iald S hAM hH 2 rfl (44) rfl (by decide) (by decide) dX6_statement_302 ?_
                      refine zv_top (z := rd 44) (z2 := ((na rd : Nat) : Int)) hrd.e44 ?_
                      refine lv_bipush (v := iI (((20 : Nat) : Int))) S.1 S.2.1 dX6_statement_303 (by decide) ?_
                      refine zv_icmp_ge (tgt := 312) S dX6_statement_305 (by decide) (by omega) (by decide) (fun c_305 => ?_) (fun c_305 => ?_)
                      · skip
                        refine lv_iconst (v := iI (((0 : Nat) : Int))) S.1 S.2.1 dX6_statement_312 (by decide) ?_
                        refine zc_Vv (n := 2) (As := [.int (iI ((0 : Nat) : Int)), .int (iI ((0 : Nat) : Int))]) (rest := []) S hAM hA (kX6_checked l X h Q s rd kp km tx lnn sj_126 2 wi gi 0 0 ht (by decide) (by decide) (by decide)) rfl gX6_statement_X6_checked  (by decide +kernel) ⟨Nat.le_of_ble_eq_true rfl, Nat.le_of_ble_eq_true rfl⟩ hH hS [0, 1, 2, 3, 4, 5, 6] rfl 7 rfl (List.Perm.refl _) 6 0 rfl rfl rfl hl.1 rfl (Nat.le_of_ble_eq_true rfl) dX6_statement_313 ⟨Nat.le_of_ble_eq_true rfl, Nat.le_of_ble_eq_true rfl⟩ (fun rj_148 H locs hp150 hH hS => ?_)
                        have hH : Hold X A [mO h Q km ((lnn : Nat) : Int) ((sj_126 : Nat) : Int) ((rj_148 : Nat) : Int), aW X (Q 0) 125 s, aW X (Q 1) 125 rd, aW X (Q 2) 625 kp, aW X (Q 3) 400 tx, aW X (Q 4) 8 wi, aW X (Q 5) 8 gi].flatten H := hH
                        have hc_313 := hp150
                        obtain rfl : rj_148 = 2 := hc_313.trans (by decide)
                        refine lv_aload_n S.1 S.2.1 dX6_statement_316 rfl (lv_at hl 5 rfl) ?_
                        refine zv_get (v := .int (iI ((2 : Nat) : Int))) S hAM hH nX6_statement_X6 0 rfl rfl 7 (by decide) mX6_statement_3 rfl rfl dX6_statement_317 ?_
                        refine zv_if_ne (tgt := 336) S dX6_statement_320 (by decide) (by decide) (fun c_320 => ?_) (fun c_320 => ?_)
                        · skip
                          refine lv_goto (tgt := 344) S.1 S.2.1 dX6_statement_336 (by decide) ?_
                          have eS : stm tx lnn p rd = (2, 0, rd) := by rw [stm, if_neg c_19, if_neg c_109, if_pos c_208, stEnter, hm_212, bnd_some, hm_217, bnd_some, hm_222, bnd_none]
                          rw [eS] at hret
                          exact hret 344 ls _ _ (sj_126, 2) dX6_statement_344 ⟨rfl, (fun z => absurd z (by decide)), (by omega)⟩ hH hS
                        · exact (show False by omega).elim
                      · skip
                        refine lv_iconst (v := iI (((1 : Nat) : Int))) S.1 S.2.1 dX6_statement_308 (by decide) ?_
                        refine lv_goto (tgt := 313) S.1 S.2.1 dX6_statement_309 (by decide) ?_
                        refine zc_Vv (n := 2) (As := [.int (iI ((0 : Nat) : Int)), .int (iI ((1 : Nat) : Int))]) (rest := []) S hAM hA (kX6_checked l X h Q s rd kp km tx lnn sj_126 2 wi gi 0 1 ht (by decide) (by decide) (by decide)) rfl gX6_statement_X6_checked  (by decide +kernel) ⟨Nat.le_of_ble_eq_true rfl, Nat.le_of_ble_eq_true rfl⟩ hH hS [0, 1, 2, 3, 4, 5, 6] rfl 7 rfl (List.Perm.refl _) 6 0 rfl rfl rfl hl.1 rfl (Nat.le_of_ble_eq_true rfl) dX6_statement_313 ⟨Nat.le_of_ble_eq_true rfl, Nat.le_of_ble_eq_true rfl⟩ (fun rj_151 H locs hp153 hH hS => ?_)
                        have hH : Hold X A [mO h Q km ((lnn : Nat) : Int) ((sj_126 : Nat) : Int) ((rj_151 : Nat) : Int), aW X (Q 0) 125 s, aW X (Q 1) 125 rd, aW X (Q 2) 625 kp, aW X (Q 3) 400 tx, aW X (Q 4) 8 wi, aW X (Q 5) 8 gi].flatten H := hH
                        have hc_313 := hp153
                        obtain rfl : rj_151 = 2 := hc_313.trans (by decide)
                        refine lv_aload_n S.1 S.2.1 dX6_statement_316 rfl (lv_at hl 5 rfl) ?_
                        refine zv_get (v := .int (iI ((2 : Nat) : Int))) S hAM hH nX6_statement_X6 0 rfl rfl 7 (by decide) mX6_statement_3 rfl rfl dX6_statement_317 ?_
                        refine zv_if_ne (tgt := 336) S dX6_statement_320 (by decide) (by decide) (fun c_320 => ?_) (fun c_320 => ?_)
                        · skip
                          refine lv_goto (tgt := 344) S.1 S.2.1 dX6_statement_336 (by decide) ?_
                          have eS : stm tx lnn p rd = (2, 0, rd) := by rw [stm, if_neg c_19, if_neg c_109, if_pos c_208, stEnter, hm_212, bnd_some, hm_217, bnd_some, hm_222, bnd_none]
                          rw [eS] at hret
                          exact hret 344 ls _ _ (sj_126, 2) dX6_statement_344 ⟨rfl, (fun z => absurd z (by decide)), (by omega)⟩ hH hS
                        · exact (show False by omega).elim
                    · skip
                      refine lv_iload S.1 S.2.1 dX6_statement_261 (lv_at hl 1 rfl) ?_
                      refine lv_iload S.1 S.2.1 dX6_statement_263 (lv_at hl 0 rfl) ?_
                      refine zv_icmp_ge (tgt := 295) S dX6_statement_265 (by decide) (by omega) (by omega) (fun c_265 => ?_) (fun c_265 => ?_)
                      · skip
                        refine lv_iconst (v := iI (((0 : Nat) : Int))) S.1 S.2.1 dX6_statement_295 (by decide) ?_
                        refine lv_aload_n S.1 S.2.1 dX6_statement_296 rfl (lv_at hl 5 rfl) ?_
                        refine zv_get (v := .ref (Q 1)) S hAM hH nX6_statement_X6 0 rfl rfl 1 (by decide) mX6_statement_2 rfl rfl dX6_statement_297 ?_
                        refine lv_bipush (v := iI (((44 : Nat) : Int))) S.1 S.2.1 dX6_statement_300 (by decide) ?_
                        refine zv_iald S hAM hH 2 rfl (44) rfl (by decide) (by decide) dX6_statement_302 ?_
                        refine zv_top (z := rd 44) (z2 := ((na rd : Nat) : Int)) hrd.e44 ?_
                        refine lv_bipush (v := iI (((20 : Nat) : Int))) S.1 S.2.1 dX6_statement_303 (by decide) ?_
                        refine zv_icmp_ge (tgt := 312) S dX6_statement_305 (by decide) (by omega) (by decide) (fun c_305 => ?_) (fun c_305 => ?_)
                        · skip
                          refine lv_iconst (v := iI (((0 : Nat) : Int))) S.1 S.2.1 dX6_statement_312 (by decide) ?_
                          refine zc_Vv (n := 2) (As := [.int (iI ((0 : Nat) : Int)), .int (iI ((0 : Nat) : Int))]) (rest := []) S hAM hA (kX6_checked l X h Q s rd kp km tx lnn sj_126 2 wi gi 0 0 ht (by decide) (by decide) (by decide)) rfl gX6_statement_X6_checked  (by decide +kernel) ⟨Nat.le_of_ble_eq_true rfl, Nat.le_of_ble_eq_true rfl⟩ hH hS [0, 1, 2, 3, 4, 5, 6] rfl 7 rfl (List.Perm.refl _) 6 0 rfl rfl rfl hl.1 rfl (Nat.le_of_ble_eq_true rfl) dX6_statement_313 ⟨Nat.le_of_ble_eq_true rfl, Nat.le_of_ble_eq_true rfl⟩ (fun rj_154 H locs hp156 hH hS => ?_)
                          have hH : Hold X A [mO h Q km ((lnn : Nat) : Int) ((sj_126 : Nat) : Int) ((rj_154 : Nat) : Int), aW X (Q 0) 125 s, aW X (Q 1) 125 rd, aW X (Q 2) 625 kp, aW X (Q 3) 400 tx, aW X (Q 4) 8 wi, aW X (Q 5) 8 gi].flatten H := hH
                          have hc_313 := hp156
                          obtain rfl : rj_154 = 2 := hc_313.trans (by decide)
                          refine lv_aload_n S.1 S.2.1 dX6_statement_316 rfl (lv_at hl 5 rfl) ?_
                          refine zv_get (v := .int (iI ((2 : Nat) : Int))) S hAM hH nX6_statement_X6 0 rfl rfl 7 (by decide) mX6_statement_3 rfl rfl dX6_statement_317 ?_
                          refine zv_if_ne (tgt := 336) S dX6_statement_320 (by decide) (by decide) (fun c_320 => ?_) (fun c_320 => ?_)
                          · skip
                            refine lv_goto (tgt := 344) S.1 S.2.1 dX6_statement_336 (by decide) ?_
                            have eS : stm tx lnn p rd = (2, 0, rd) := by rw [stm, if_neg c_19, if_neg c_109, if_pos c_208, stEnter, hm_212, bnd_some, hm_217, bnd_some, hm_222, bnd_none]
                            rw [eS] at hret
                            exact hret 344 ls _ _ (sj_126, 2) dX6_statement_344 ⟨rfl, (fun z => absurd z (by decide)), (by omega)⟩ hH hS
                          · exact (show False by omega).elim
                        · skip
                          refine lv_iconst (v := iI (((1 : Nat) : Int))) S.1 S.2.1 dX6_statement_308 (by decide) ?_
                          refine lv_goto (tgt := 313) S.1 S.2.1 dX6_statement_309 (by decide) ?_
                          refine zc_Vv (n := 2) (As := [.int (iI ((0 : Nat) : Int)), .int (iI ((1 : Nat) : Int))]) (rest := []) S hAM hA (kX6_checked l X h Q s rd kp km tx lnn sj_126 2 wi gi 0 1 ht (by decide) (by decide) (by decide)) rfl gX6_statement_X6_checked  (by decide +kernel) ⟨Nat.le_of_ble_eq_true rfl, Nat.le_of_ble_eq_true rfl⟩ hH hS [0, 1, 2, 3, 4, 5, 6] rfl 7 rfl (List.Perm.refl _) 6 0 rfl rfl rfl hl.1 rfl (Nat.le_of_ble_eq_true rfl) dX6_statement_313 ⟨Nat.le_of_ble_eq_true rfl, Nat.le_of_ble_eq_true rfl⟩ (fun rj_157 H locs hp159 hH hS => ?_)
                          have hH : Hold X A [mO h Q km ((lnn : Nat) : Int) ((sj_126 : Nat) : Int) ((rj_157 : Nat) : Int), aW X (Q 0) 125 s, aW X (Q 1) 125 rd, aW X (Q 2) 625 kp, aW X (Q 3) 400 tx, aW X (Q 4) 8 wi, aW X (Q 5) 8 gi].flatten H := hH
                          have hc_313 := hp159
                          obtain rfl : rj_157 = 2 := hc_313.trans (by decide)
                          refine lv_aload_n S.1 S.2.1 dX6_statement_316 rfl (lv_at hl 5 rfl) ?_
                          refine zv_get (v := .int (iI ((2 : Nat) : Int))) S hAM hH nX6_statement_X6 0 rfl rfl 7 (by decide) mX6_statement_3 rfl rfl dX6_statement_317 ?_
                          refine zv_if_ne (tgt := 336) S dX6_statement_320 (by decide) (by decide) (fun c_320 => ?_) (fun c_320 => ?_)
                          · skip
                            refine lv_goto (tgt := 344) S.1 S.2.1 dX6_statement_336 (by decide) ?_
                            have eS : stm tx lnn p rd = (2, 0, rd) := by rw [stm, if_neg c_19, if_neg c_109, if_pos c_208, stEnter, hm_212, bnd_some, hm_217, bnd_some, hm_222, bnd_none]
                            rw [eS] at hret
                            exact hret 344 ls _ _ (sj_126, 2) dX6_statement_344 ⟨rfl, (fun z => absurd z (by decide)), (by omega)⟩ hH hS
                          · exact (show False by omega).elim
                      · skip
                        refine lv_iload S.1 S.2.1 dX6_statement_268 (lv_at hl 0 rfl) ?_
                        refine lv_aload_n S.1 S.2.1 dX6_statement_270 rfl (lv_at hl 5 rfl) ?_
                        refine zv_get (v := .ref (Q 1)) S hAM hH nX6_statement_X6 0 rfl rfl 1 (by decide) mX6_statement_2 rfl rfl dX6_statement_271 ?_
                        refine lv_iconst (v := iI (((1 : Nat) : Int))) S.1 S.2.1 dX6_statement_274 (by decide) ?_
                        refine lv_iload_n S.1 S.2.1 dX6_statement_275 rfl (lv_at hl 2 rfl) ?_
                        refine lv_bipush (v := iI (((10 : Nat) : Int))) S.1 S.2.1 dX6_statement_276 (by decide) ?_
                        refine zv_icmp_ge (tgt := 285) S dX6_statement_278 (by decide) (by omega) (by decide) (fun c_278 => ?_) (fun c_278 => ?_)
                        · exact (show False by omega).elim
                        · skip
                          refine lv_iload_n S.1 S.2.1 dX6_statement_281 rfl (lv_at hl 2 rfl) ?_
                          refine lv_goto (tgt := 286) S.1 S.2.1 dX6_statement_282 (by decide) ?_
                          refine zv_iadd (z := (((1 + zz_72) : Nat) : Int)) S dX6_statement_286 (by omega) ?_
                          refine zv_iald S hAM hH 2 rfl ((1 + zz_72)) rfl (by omega) (by decide) dX6_statement_287 ?_
                          refine zv_icmp_gt (tgt := 295) S dX6_statement_288 (by decide) (by omega) (hrd.inRk _ (by omega)) (fun c_288 => ?_) (fun c_288 => ?_)
                          · skip
                            refine lv_iconst (v := iI (((0 : Nat) : Int))) S.1 S.2.1 dX6_statement_295 (by decide) ?_
                            refine lv_aload_n S.1 S.2.1 dX6_statement_296 rfl (lv_at hl 5 rfl) ?_
                            refine zv_get (v := .ref (Q 1)) S hAM hH nX6_statement_X6 0 rfl rfl 1 (by decide) mX6_statement_2 rfl rfl dX6_statement_297 ?_
                            refine lv_bipush (v := iI (((44 : Nat) : Int))) S.1 S.2.1 dX6_statement_300 (by decide) ?_
                            refine zv_iald S hAM hH 2 rfl (44) rfl (by decide) (by decide) dX6_statement_302 ?_
                            refine zv_top (z := rd 44) (z2 := ((na rd : Nat) : Int)) hrd.e44 ?_
                            refine lv_bipush (v := iI (((20 : Nat) : Int))) S.1 S.2.1 dX6_statement_303 (by decide) ?_
                            refine zv_icmp_ge (tgt := 312) S dX6_statement_305 (by decide) (by omega) (by decide) (fun c_305 => ?_) (fun c_305 => ?_)
                            · skip
                              refine lv_iconst (v := iI (((0 : Nat) : Int))) S.1 S.2.1 dX6_statement_312 (by decide) ?_
                              refine zc_Vv (n := 2) (As := [.int (iI ((0 : Nat) : Int)), .int (iI ((0 : Nat) : Int))]) (rest := []) S hAM hA (kX6_checked l X h Q s rd kp km tx lnn sj_126 2 wi gi 0 0 ht (by decide) (by decide) (by decide)) rfl gX6_statement_X6_checked  (by decide +kernel) ⟨Nat.le_of_ble_eq_true rfl, Nat.le_of_ble_eq_true rfl⟩ hH hS [0, 1, 2, 3, 4, 5, 6] rfl 7 rfl (List.Perm.refl _) 6 0 rfl rfl rfl hl.1 rfl (Nat.le_of_ble_eq_true rfl) dX6_statement_313 ⟨Nat.le_of_ble_eq_true rfl, Nat.le_of_ble_eq_true rfl⟩ (fun rj_160 H locs hp162 hH hS => ?_)
                              have hH : Hold X A [mO h Q km ((lnn : Nat) : Int) ((sj_126 : Nat) : Int) ((rj_160 : Nat) : Int), aW X (Q 0) 125 s, aW X (Q 1) 125 rd, aW X (Q 2) 625 kp, aW X (Q 3) 400 tx, aW X (Q 4) 8 wi, aW X (Q 5) 8 gi].flatten H := hH
                              have hc_313 := hp162
                              obtain rfl : rj_160 = 2 := hc_313.trans (by decide)
                              refine lv_aload_n S.1 S.2.1 dX6_statement_316 rfl (lv_at hl 5 rfl) ?_
                              refine zv_get (v := .int (iI ((2 : Nat) : Int))) S hAM hH nX6_statement_X6 0 rfl rfl 7 (by decide) mX6_statement_3 rfl rfl dX6_statement_317 ?_
                              refine zv_if_ne (tgt := 336) S dX6_statement_320 (by decide) (by decide) (fun c_320 => ?_) (fun c_320 => ?_)
                              · skip
                                refine lv_goto (tgt := 344) S.1 S.2.1 dX6_statement_336 (by decide) ?_
                                have eS : stm tx lnn p rd = (2, 0, rd) := by rw [stm, if_neg c_19, if_neg c_109, if_pos c_208, stEnter, hm_212, bnd_some, hm_217, bnd_some, hm_222, bnd_none]
                                rw [eS] at hret
                                exact hret 344 ls _ _ (sj_126, 2) dX6_statement_344 ⟨rfl, (fun z => absurd z (by decide)), (by omega)⟩ hH hS
                              · exact (show False by omega).elim
                            · skip
                              refine lv_iconst (v := iI (((1 : Nat) : Int))) S.1 S.2.1 dX6_statement_308 (by decide) ?_
                              refine lv_goto (tgt := 313) S.1 S.2.1 dX6_statement_309 (by decide) ?_
                              refine zc_Vv (n := 2) (As := [.int (iI ((0 : Nat) : Int)), .int (iI ((1 : Nat) : Int))]) (rest := []) S hAM hA (kX6_checked l X h Q s rd kp km tx lnn sj_126 2 wi gi 0 1 ht (by decide) (by decide) (by decide)) rfl gX6_statement_X6_checked  (by decide +kernel) ⟨Nat.le_of_ble_eq_true rfl, Nat.le_of_ble_eq_true rfl⟩ hH hS [0, 1, 2, 3, 4, 5, 6] rfl 7 rfl (List.Perm.refl _) 6 0 rfl rfl rfl hl.1 rfl (Nat.le_of_ble_eq_true rfl) dX6_statement_313 ⟨Nat.le_of_ble_eq_true rfl, Nat.le_of_ble_eq_true rfl⟩ (fun rj_163 H locs hp165 hH hS => ?_)
                              have hH : Hold X A [mO h Q km ((lnn : Nat) : Int) ((sj_126 : Nat) : Int) ((rj_163 : Nat) : Int), aW X (Q 0) 125 s, aW X (Q 1) 125 rd, aW X (Q 2) 625 kp, aW X (Q 3) 400 tx, aW X (Q 4) 8 wi, aW X (Q 5) 8 gi].flatten H := hH
                              have hc_313 := hp165
                              obtain rfl : rj_163 = 2 := hc_313.trans (by decide)
                              refine lv_aload_n S.1 S.2.1 dX6_statement_316 rfl (lv_at hl 5 rfl) ?_
                              refine zv_get (v := .int (iI ((2 : Nat) : Int))) S hAM hH nX6_statement_X6 0 rfl rfl 7 (by decide) mX6_statement_3 rfl rfl dX6_statement_317 ?_
                              refine zv_if_ne (tgt := 336) S dX6_statement_320 (by decide) (by decide) (fun c_320 => ?_) (fun c_320 => ?_)
                              · skip
                                refine lv_goto (tgt := 344) S.1 S.2.1 dX6_statement_336 (by decide) ?_
                                have eS : stm tx lnn p rd = (2, 0, rd) := by rw [stm, if_neg c_19, if_neg c_109, if_pos c_208, stEnter, hm_212, bnd_some, hm_217, bnd_some, hm_222, bnd_none]
                                rw [eS] at hret
                                exact hret 344 ls _ _ (sj_126, 2) dX6_statement_344 ⟨rfl, (fun z => absurd z (by decide)), (by omega)⟩ hH hS
                              · exact (show False by omega).elim
                          · skip
                            refine lv_iconst (v := iI (((1 : Nat) : Int))) S.1 S.2.1 dX6_statement_291 (by decide) ?_
                            refine lv_goto (tgt := 296) S.1 S.2.1 dX6_statement_292 (by decide) ?_
                            refine lv_aload_n S.1 S.2.1 dX6_statement_296 rfl (lv_at hl 5 rfl) ?_
                            refine zv_get (v := .ref (Q 1)) S hAM hH nX6_statement_X6 0 rfl rfl 1 (by decide) mX6_statement_2 rfl rfl dX6_statement_297 ?_
                            refine lv_bipush (v := iI (((44 : Nat) : Int))) S.1 S.2.1 dX6_statement_300 (by decide) ?_
                            refine zv_iald S hAM hH 2 rfl (44) rfl (by decide) (by decide) dX6_statement_302 ?_
                            refine zv_top (z := rd 44) (z2 := ((na rd : Nat) : Int)) hrd.e44 ?_
                            refine lv_bipush (v := iI (((20 : Nat) : Int))) S.1 S.2.1 dX6_statement_303 (by decide) ?_
                            refine zv_icmp_ge (tgt := 312) S dX6_statement_305 (by decide) (by omega) (by decide) (fun c_305 => ?_) (fun c_305 => ?_)
                            · skip
                              refine lv_iconst (v := iI (((0 : Nat) : Int))) S.1 S.2.1 dX6_statement_312 (by decide) ?_
                              refine zc_Vv (n := 2) (As := [.int (iI ((1 : Nat) : Int)), .int (iI ((0 : Nat) : Int))]) (rest := []) S hAM hA (kX6_checked l X h Q s rd kp km tx lnn sj_126 2 wi gi 1 0 ht (by decide) (by decide) (by decide)) rfl gX6_statement_X6_checked  (by decide +kernel) ⟨Nat.le_of_ble_eq_true rfl, Nat.le_of_ble_eq_true rfl⟩ hH hS [0, 1, 2, 3, 4, 5, 6] rfl 7 rfl (List.Perm.refl _) 6 0 rfl rfl rfl hl.1 rfl (Nat.le_of_ble_eq_true rfl) dX6_statement_313 ⟨Nat.le_of_ble_eq_true rfl, Nat.le_of_ble_eq_true rfl⟩ (fun rj_166 H locs hp168 hH hS => ?_)
                              have hH : Hold X A [mO h Q km ((lnn : Nat) : Int) ((sj_126 : Nat) : Int) ((rj_166 : Nat) : Int), aW X (Q 0) 125 s, aW X (Q 1) 125 rd, aW X (Q 2) 625 kp, aW X (Q 3) 400 tx, aW X (Q 4) 8 wi, aW X (Q 5) 8 gi].flatten H := hH
                              have hc_313 := hp168
                              obtain rfl : rj_166 = 2 := hc_313.trans (by decide)
                              refine lv_aload_n S.1 S.2.1 dX6_statement_316 rfl (lv_at hl 5 rfl) ?_
                              refine zv_get (v := .int (iI ((2 : Nat) : Int))) S hAM hH nX6_statement_X6 0 rfl rfl 7 (by decide) mX6_statement_3 rfl rfl dX6_statement_317 ?_
                              refine zv_if_ne (tgt := 336) S dX6_statement_320 (by decide) (by decide) (fun c_320 => ?_) (fun c_320 => ?_)
                              · skip
                                refine lv_goto (tgt := 344) S.1 S.2.1 dX6_statement_336 (by decide) ?_
                                have eS : stm tx lnn p rd = (2, 0, rd) := by rw [stm, if_neg c_19, if_neg c_109, if_pos c_208, stEnter, hm_212, bnd_some, hm_217, bnd_some, hm_222, bnd_none]
                                rw [eS] at hret
                                exact hret 344 ls _ _ (sj_126, 2) dX6_statement_344 ⟨rfl, (fun z => absurd z (by decide)), (by omega)⟩ hH hS
                              · exact (show False by omega).elim
                            · skip
                              refine lv_iconst (v := iI (((1 : Nat) : Int))) S.1 S.2.1 dX6_statement_308 (by decide) ?_
                              refine lv_goto (tgt := 313) S.1 S.2.1 dX6_statement_309 (by decide) ?_
                              refine zc_Vv (n := 2) (As := [.int (iI ((1 : Nat) : Int)), .int (iI ((1 : Nat) : Int))]) (rest := []) S hAM hA (kX6_checked l X h Q s rd kp km tx lnn sj_126 2 wi gi 1 1 ht (by decide) (by decide) (by decide)) rfl gX6_statement_X6_checked  (by decide +kernel) ⟨Nat.le_of_ble_eq_true rfl, Nat.le_of_ble_eq_true rfl⟩ hH hS [0, 1, 2, 3, 4, 5, 6] rfl 7 rfl (List.Perm.refl _) 6 0 rfl rfl rfl hl.1 rfl (Nat.le_of_ble_eq_true rfl) dX6_statement_313 ⟨Nat.le_of_ble_eq_true rfl, Nat.le_of_ble_eq_true rfl⟩ (fun rj_169 H locs hp171 hH hS => ?_)
                              have hH : Hold X A [mO h Q km ((lnn : Nat) : Int) ((sj_126 : Nat) : Int) ((rj_169 : Nat) : Int), aW X (Q 0) 125 s, aW X (Q 1) 125 rd, aW X (Q 2) 625 kp, aW X (Q 3) 400 tx, aW X (Q 4) 8 wi, aW X (Q 5) 8 gi].flatten H := hH
                              have hc_313 := hp171
                              obtain rfl : rj_169 = 2 := hc_313.trans (by decide)
                              refine lv_aload_n S.1 S.2.1 dX6_statement_316 rfl (lv_at hl 5 rfl) ?_
                              refine zv_get (v := .int (iI ((2 : Nat) : Int))) S hAM hH nX6_statement_X6 0 rfl rfl 7 (by decide) mX6_statement_3 rfl rfl dX6_statement_317 ?_
                              refine zv_if_ne (tgt := 336) S dX6_statement_320 (by decide) (by decide) (fun c_320 => ?_) (fun c_320 => ?_)
                              · skip
                                refine lv_goto (tgt := 344) S.1 S.2.1 dX6_statement_336 (by decide) ?_
                                have eS : stm tx lnn p rd = (2, 0, rd) := by rw [stm, if_neg c_19, if_neg c_109, if_pos c_208, stEnter, hm_212, bnd_some, hm_217, bnd_some, hm_222, bnd_none]
                                rw [eS] at hret
                                exact hret 344 ls _ _ (sj_126, 2) dX6_statement_344 ⟨rfl, (fun z => absurd z (by decide)), (by omega)⟩ hH hS
                              · exact (show False by omega).elim
                · exact absurd q1 (by decide)
                · exact absurd q1 (by decide)
              · exact absurd q1 (by decide)
              · exact absurd q1 (by decide)
            · skip
              refine lv_istore (lv' := [(4, .int (iI ((zz_125 : Nat) : Int))), (3, .int (iI ((zz_72 : Nat) : Int))), (2, .int (iI ((zz_13 : Nat) : Int))), (1, .int (iI (wdV tx p (we tx lnn p - p)))), (0, .ref (h))]) S.1 S.2.1 dX6_statement_225 hl (by decide) rfl (fun ls hl => ?_)
              refine lv_aload_n S.1 S.2.1 dX6_statement_227 rfl (lv_at hl 4 rfl) ?_
              refine zc_Vi (n := 0) (As := []) (rest := []) S hAM hA (kX6_number l X h Q s rd kp km tx lnn sj_126 0 wi gi ht (by omega) (by omega) (by omega)) rfl gX6_statement_X6_number  (by decide +kernel) ⟨Nat.le_of_ble_eq_true rfl, Nat.le_of_ble_eq_true rfl⟩ hH hS [0, 1, 2, 3, 4, 5, 6] rfl 7 rfl (List.Perm.refl _) 6 0 rfl rfl rfl hl.1 rfl (Nat.le_of_ble_eq_true rfl) dX6_statement_228 ⟨Nat.le_of_ble_eq_true rfl, Nat.le_of_ble_eq_true rfl⟩ (fun z176 u175 H locs hp177 hH hS => ?_)
              obtain ⟨zz_172, sj_173, rj_174⟩ := u175
              have hH : Hold X A [mO h Q km ((lnn : Nat) : Int) ((sj_173 : Nat) : Int) ((rj_174 : Nat) : Int), aW X (Q 0) 125 s, aW X (Q 1) 125 rd, aW X (Q 2) 625 kp, aW X (Q 3) 400 tx, aW X (Q 4) 8 wi, aW X (Q 5) 8 gi].flatten H := hH
              obtain ⟨rfl, hz_228, hn_228⟩ := hp177
              rcases hn_228 with ⟨q1, -⟩ | ⟨-, rfl, hm_228, hb_228⟩ | ⟨-, rfl, hm_228, hb_228⟩
              · exact absurd rfl q1
              · skip
                refine lv_istore (lv' := [(5, .int (iI ((zz_172 : Nat) : Int))), (4, .int (iI ((zz_125 : Nat) : Int))), (3, .int (iI ((zz_72 : Nat) : Int))), (2, .int (iI ((zz_13 : Nat) : Int))), (1, .int (iI (wdV tx p (we tx lnn p - p)))), (0, .ref (h))]) S.1 S.2.1 dX6_statement_231 hl (by decide) rfl (fun ls hl => ?_)
                refine lv_aload_n S.1 S.2.1 dX6_statement_233 rfl (lv_at hl 5 rfl) ?_
                refine lv_bipush (v := iI (((59 : Nat) : Int))) S.1 S.2.1 dX6_statement_234 (by decide) ?_
                refine zc_Vv (n := 1) (As := [.int (iI ((59 : Nat) : Int))]) (rest := []) S hAM hA (kX6_wants l X h Q s rd kp km tx lnn sj_173 2 wi gi 59 ht (by decide) (by omega) (by omega)) rfl gX6_statement_X6_wants  (by decide +kernel) ⟨Nat.le_of_ble_eq_true rfl, Nat.le_of_ble_eq_true rfl⟩ hH hS [0, 1, 2, 3, 4, 5, 6] rfl 7 rfl (List.Perm.refl _) 6 0 rfl rfl rfl hl.1 rfl (Nat.le_of_ble_eq_true rfl) dX6_statement_236 ⟨Nat.le_of_ble_eq_true rfl, Nat.le_of_ble_eq_true rfl⟩ (fun u180 H locs hp182 hH hS => ?_)
                obtain ⟨sj_178, rj_179⟩ := u180
                have hH : Hold X A [mO h Q km ((lnn : Nat) : Int) ((sj_178 : Nat) : Int) ((rj_179 : Nat) : Int), aW X (Q 0) 125 s, aW X (Q 1) 125 rd, aW X (Q 2) 625 kp, aW X (Q 3) 400 tx, aW X (Q 4) 8 wi, aW X (Q 5) 8 gi].flatten H := hH
                have hw_236 := hp182
                rcases hw_236 with ⟨-, rfl, rfl⟩ | ⟨q1, -⟩ | ⟨q1, -⟩
                · skip
                  refine lv_aload_n S.1 S.2.1 dX6_statement_239 rfl (lv_at hl 5 rfl) ?_
                  refine lv_iload_n S.1 S.2.1 dX6_statement_240 rfl (lv_at hl 3 rfl) ?_
                  refine lv_aload_n S.1 S.2.1 dX6_statement_241 rfl (lv_at hl 5 rfl) ?_
                  refine zv_get (v := .ref (Q 1)) S hAM hH nX6_statement_X6 0 rfl rfl 1 (by decide) mX6_statement_2 rfl rfl dX6_statement_242 ?_
                  refine lv_bipush (v := iI (((11 : Nat) : Int))) S.1 S.2.1 dX6_statement_245 (by decide) ?_
                  refine zv_iald S hAM hH 2 rfl (11) rfl (by decide) (by decide) dX6_statement_247 ?_
                  refine zv_top (z := rd 11) (z2 := ((nr rd : Nat) : Int)) hrd.e11 ?_
                  refine zv_icmp_ge (tgt := 295) S dX6_statement_248 (by decide) (by omega) (by omega) (fun c_248 => ?_) (fun c_248 => ?_)
                  · skip
                    refine lv_iconst (v := iI (((0 : Nat) : Int))) S.1 S.2.1 dX6_statement_295 (by decide) ?_
                    refine lv_aload_n S.1 S.2.1 dX6_statement_296 rfl (lv_at hl 5 rfl) ?_
                    refine zv_get (v := .ref (Q 1)) S hAM hH nX6_statement_X6 0 rfl rfl 1 (by decide) mX6_statement_2 rfl rfl dX6_statement_297 ?_
                    refine lv_bipush (v := iI (((44 : Nat) : Int))) S.1 S.2.1 dX6_statement_300 (by decide) ?_
                    refine zv_iald S hAM hH 2 rfl (44) rfl (by decide) (by decide) dX6_statement_302 ?_
                    refine zv_top (z := rd 44) (z2 := ((na rd : Nat) : Int)) hrd.e44 ?_
                    refine lv_bipush (v := iI (((20 : Nat) : Int))) S.1 S.2.1 dX6_statement_303 (by decide) ?_
                    refine zv_icmp_ge (tgt := 312) S dX6_statement_305 (by decide) (by omega) (by decide) (fun c_305 => ?_) (fun c_305 => ?_)
                    · skip
                      refine lv_iconst (v := iI (((0 : Nat) : Int))) S.1 S.2.1 dX6_statement_312 (by decide) ?_
                      refine zc_Vv (n := 2) (As := [.int (iI ((0 : Nat) : Int)), .int (iI ((0 : Nat) : Int))]) (rest := []) S hAM hA (kX6_checked l X h Q s rd kp km tx lnn sj_173 2 wi gi 0 0 ht (by decide) (by decide) (by decide)) rfl gX6_statement_X6_checked  (by decide +kernel) ⟨Nat.le_of_ble_eq_true rfl, Nat.le_of_ble_eq_true rfl⟩ hH hS [0, 1, 2, 3, 4, 5, 6] rfl 7 rfl (List.Perm.refl _) 6 0 rfl rfl rfl hl.1 rfl (Nat.le_of_ble_eq_true rfl) dX6_statement_313 ⟨Nat.le_of_ble_eq_true rfl, Nat.le_of_ble_eq_true rfl⟩ (fun rj_183 H locs hp185 hH hS => ?_)
                      have hH : Hold X A [mO h Q km ((lnn : Nat) : Int) ((sj_173 : Nat) : Int) ((rj_183 : Nat) : Int), aW X (Q 0) 125 s, aW X (Q 1) 125 rd, aW X (Q 2) 625 kp, aW X (Q 3) 400 tx, aW X (Q 4) 8 wi, aW X (Q 5) 8 gi].flatten H := hH
                      have hc_313 := hp185
                      obtain rfl : rj_183 = 2 := hc_313.trans (by decide)
                      refine lv_aload_n S.1 S.2.1 dX6_statement_316 rfl (lv_at hl 5 rfl) ?_
                      refine zv_get (v := .int (iI ((2 : Nat) : Int))) S hAM hH nX6_statement_X6 0 rfl rfl 7 (by decide) mX6_statement_3 rfl rfl dX6_statement_317 ?_
                      refine zv_if_ne (tgt := 336) S dX6_statement_320 (by decide) (by decide) (fun c_320 => ?_) (fun c_320 => ?_)
                      · skip
                        refine lv_goto (tgt := 344) S.1 S.2.1 dX6_statement_336 (by decide) ?_
                        have eS : stm tx lnn p rd = (2, 0, rd) := by rw [stm, if_neg c_19, if_neg c_109, if_pos c_208, stEnter, hm_212, bnd_some, hm_217, bnd_some, hm_222, bnd_some, hm_228, bnd_none]
                        rw [eS] at hret
                        exact hret 344 ls _ _ (sj_173, 2) dX6_statement_344 ⟨rfl, (fun z => absurd z (by decide)), (by omega)⟩ hH hS
                      · exact (show False by omega).elim
                    · skip
                      refine lv_iconst (v := iI (((1 : Nat) : Int))) S.1 S.2.1 dX6_statement_308 (by decide) ?_
                      refine lv_goto (tgt := 313) S.1 S.2.1 dX6_statement_309 (by decide) ?_
                      refine zc_Vv (n := 2) (As := [.int (iI ((0 : Nat) : Int)), .int (iI ((1 : Nat) : Int))]) (rest := []) S hAM hA (kX6_checked l X h Q s rd kp km tx lnn sj_173 2 wi gi 0 1 ht (by decide) (by decide) (by decide)) rfl gX6_statement_X6_checked  (by decide +kernel) ⟨Nat.le_of_ble_eq_true rfl, Nat.le_of_ble_eq_true rfl⟩ hH hS [0, 1, 2, 3, 4, 5, 6] rfl 7 rfl (List.Perm.refl _) 6 0 rfl rfl rfl hl.1 rfl (Nat.le_of_ble_eq_true rfl) dX6_statement_313 ⟨Nat.le_of_ble_eq_true rfl, Nat.le_of_ble_eq_true rfl⟩ (fun rj_186 H locs hp188 hH hS => ?_)
                      have hH : Hold X A [mO h Q km ((lnn : Nat) : Int) ((sj_173 : Nat) : Int) ((rj_186 : Nat) : Int), aW X (Q 0) 125 s, aW X (Q 1) 125 rd, aW X (Q 2) 625 kp, aW X (Q 3) 400 tx, aW X (Q 4) 8 wi, aW X (Q 5) 8 gi].flatten H := hH
                      have hc_313 := hp188
                      obtain rfl : rj_186 = 2 := hc_313.trans (by decide)
                      refine lv_aload_n S.1 S.2.1 dX6_statement_316 rfl (lv_at hl 5 rfl) ?_
                      refine zv_get (v := .int (iI ((2 : Nat) : Int))) S hAM hH nX6_statement_X6 0 rfl rfl 7 (by decide) mX6_statement_3 rfl rfl dX6_statement_317 ?_
                      refine zv_if_ne (tgt := 336) S dX6_statement_320 (by decide) (by decide) (fun c_320 => ?_) (fun c_320 => ?_)
                      · skip
                        refine lv_goto (tgt := 344) S.1 S.2.1 dX6_statement_336 (by decide) ?_
                        have eS : stm tx lnn p rd = (2, 0, rd) := by rw [stm, if_neg c_19, if_neg c_109, if_pos c_208, stEnter, hm_212, bnd_some, hm_217, bnd_some, hm_222, bnd_some, hm_228, bnd_none]
                        rw [eS] at hret
                        exact hret 344 ls _ _ (sj_173, 2) dX6_statement_344 ⟨rfl, (fun z => absurd z (by decide)), (by omega)⟩ hH hS
                      · exact (show False by omega).elim
                  · skip
                    refine lv_iload_n S.1 S.2.1 dX6_statement_251 rfl (lv_at hl 2 rfl) ?_
                    refine lv_aload_n S.1 S.2.1 dX6_statement_252 rfl (lv_at hl 5 rfl) ?_
                    refine zv_get (v := .ref (Q 1)) S hAM hH nX6_statement_X6 0 rfl rfl 1 (by decide) mX6_statement_2 rfl rfl dX6_statement_253 ?_
                    refine lv_iconst (v := iI (((0 : Nat) : Int))) S.1 S.2.1 dX6_statement_256 (by decide) ?_
                    refine zv_iald S hAM hH 2 rfl (0) rfl (by decide) (by decide) dX6_statement_257 ?_
                    refine zv_top (z := rd 0) (z2 := ((ns rd : Nat) : Int)) hrd.e0 ?_
                    refine zv_icmp_ge (tgt := 295) S dX6_statement_258 (by decide) (by omega) (by omega) (fun c_258 => ?_) (fun c_258 => ?_)
                    · skip
                      refine lv_iconst (v := iI (((0 : Nat) : Int))) S.1 S.2.1 dX6_statement_295 (by decide) ?_
                      refine lv_aload_n S.1 S.2.1 dX6_statement_296 rfl (lv_at hl 5 rfl) ?_
                      refine zv_get (v := .ref (Q 1)) S hAM hH nX6_statement_X6 0 rfl rfl 1 (by decide) mX6_statement_2 rfl rfl dX6_statement_297 ?_
                      refine lv_bipush (v := iI (((44 : Nat) : Int))) S.1 S.2.1 dX6_statement_300 (by decide) ?_
                      refine zv_iald S hAM hH 2 rfl (44) rfl (by decide) (by decide) dX6_statement_302 ?_
                      refine zv_top (z := rd 44) (z2 := ((na rd : Nat) : Int)) hrd.e44 ?_
                      refine lv_bipush (v := iI (((20 : Nat) : Int))) S.1 S.2.1 dX6_statement_303 (by decide) ?_
                      refine zv_icmp_ge (tgt := 312) S dX6_statement_305 (by decide) (by omega) (by decide) (fun c_305 => ?_) (fun c_305 => ?_)
                      · skip
                        refine lv_iconst (v := iI (((0 : Nat) : Int))) S.1 S.2.1 dX6_statement_312 (by decide) ?_
                        refine zc_Vv (n := 2) (As := [.int (iI ((0 : Nat) : Int)), .int (iI ((0 : Nat) : Int))]) (rest := []) S hAM hA (kX6_checked l X h Q s rd kp km tx lnn sj_173 2 wi gi 0 0 ht (by decide) (by decide) (by decide)) rfl gX6_statement_X6_checked  (by decide +kernel) ⟨Nat.le_of_ble_eq_true rfl, Nat.le_of_ble_eq_true rfl⟩ hH hS [0, 1, 2, 3, 4, 5, 6] rfl 7 rfl (List.Perm.refl _) 6 0 rfl rfl rfl hl.1 rfl (Nat.le_of_ble_eq_true rfl) dX6_statement_313 ⟨Nat.le_of_ble_eq_true rfl, Nat.le_of_ble_eq_true rfl⟩ (fun rj_189 H locs hp191 hH hS => ?_)
                        have hH : Hold X A [mO h Q km ((lnn : Nat) : Int) ((sj_173 : Nat) : Int) ((rj_189 : Nat) : Int), aW X (Q 0) 125 s, aW X (Q 1) 125 rd, aW X (Q 2) 625 kp, aW X (Q 3) 400 tx, aW X (Q 4) 8 wi, aW X (Q 5) 8 gi].flatten H := hH
                        have hc_313 := hp191
                        obtain rfl : rj_189 = 2 := hc_313.trans (by decide)
                        refine lv_aload_n S.1 S.2.1 dX6_statement_316 rfl (lv_at hl 5 rfl) ?_
                        refine zv_get (v := .int (iI ((2 : Nat) : Int))) S hAM hH nX6_statement_X6 0 rfl rfl 7 (by decide) mX6_statement_3 rfl rfl dX6_statement_317 ?_
                        refine zv_if_ne (tgt := 336) S dX6_statement_320 (by decide) (by decide) (fun c_320 => ?_) (fun c_320 => ?_)
                        · skip
                          refine lv_goto (tgt := 344) S.1 S.2.1 dX6_statement_336 (by decide) ?_
                          have eS : stm tx lnn p rd = (2, 0, rd) := by rw [stm, if_neg c_19, if_neg c_109, if_pos c_208, stEnter, hm_212, bnd_some, hm_217, bnd_some, hm_222, bnd_some, hm_228, bnd_none]
                          rw [eS] at hret
                          exact hret 344 ls _ _ (sj_173, 2) dX6_statement_344 ⟨rfl, (fun z => absurd z (by decide)), (by omega)⟩ hH hS
                        · exact (show False by omega).elim
                      · skip
                        refine lv_iconst (v := iI (((1 : Nat) : Int))) S.1 S.2.1 dX6_statement_308 (by decide) ?_
                        refine lv_goto (tgt := 313) S.1 S.2.1 dX6_statement_309 (by decide) ?_
                        refine zc_Vv (n := 2) (As := [.int (iI ((0 : Nat) : Int)), .int (iI ((1 : Nat) : Int))]) (rest := []) S hAM hA (kX6_checked l X h Q s rd kp km tx lnn sj_173 2 wi gi 0 1 ht (by decide) (by decide) (by decide)) rfl gX6_statement_X6_checked  (by decide +kernel) ⟨Nat.le_of_ble_eq_true rfl, Nat.le_of_ble_eq_true rfl⟩ hH hS [0, 1, 2, 3, 4, 5, 6] rfl 7 rfl (List.Perm.refl _) 6 0 rfl rfl rfl hl.1 rfl (Nat.le_of_ble_eq_true rfl) dX6_statement_313 ⟨Nat.le_of_ble_eq_true rfl, Nat.le_of_ble_eq_true rfl⟩ (fun rj_192 H locs hp194 hH hS => ?_)
                        have hH : Hold X A [mO h Q km ((lnn : Nat) : Int) ((sj_173 : Nat) : Int) ((rj_192 : Nat) : Int), aW X (Q 0) 125 s, aW X (Q 1) 125 rd, aW X (Q 2) 625 kp, aW X (Q 3) 400 tx, aW X (Q 4) 8 wi, aW X (Q 5) 8 gi].flatten H := hH
                        have hc_313 := hp194
                        obtain rfl : rj_192 = 2 := hc_313.trans (by decide)
                        refine lv_aload_n S.1 S.2.1 dX6_statement_316 rfl (lv_at hl 5 rfl) ?_
                        refine zv_get (v := .int (iI ((2 : Nat) : Int))) S hAM hH nX6_statement_X6 0 rfl rfl 7 (by decide) mX6_statement_3 rfl rfl dX6_statement_317 ?_
                        refine zv_if_ne (tgt := 336) S dX6_statement_320 (by decide) (by decide) (fun c_320 => ?_) (fun c_320 => ?_)
                        · skip
                          refine lv_goto (tgt := 344) S.1 S.2.1 dX6_statement_336 (by decide) ?_
                          have eS : stm tx lnn p rd = (2, 0, rd) := by rw [stm, if_neg c_19, if_neg c_109, if_pos c_208, stEnter, hm_212, bnd_some, hm_217, bnd_some, hm_222, bnd_some, hm_228, bnd_none]
                          rw [eS] at hret
                          exact hret 344 ls _ _ (sj_173, 2) dX6_statement_344 ⟨rfl, (fun z => absurd z (by decide)), (by omega)⟩ hH hS
                        · exact (show False by omega).elim
                    · skip
                      refine lv_iload S.1 S.2.1 dX6_statement_261 (lv_at hl 1 rfl) ?_
                      refine lv_iload S.1 S.2.1 dX6_statement_263 (lv_at hl 0 rfl) ?_
                      refine zv_icmp_ge (tgt := 295) S dX6_statement_265 (by decide) (by omega) (by omega) (fun c_265 => ?_) (fun c_265 => ?_)
                      · skip
                        refine lv_iconst (v := iI (((0 : Nat) : Int))) S.1 S.2.1 dX6_statement_295 (by decide) ?_
                        refine lv_aload_n S.1 S.2.1 dX6_statement_296 rfl (lv_at hl 5 rfl) ?_
                        refine zv_get (v := .ref (Q 1)) S hAM hH nX6_statement_X6 0 rfl rfl 1 (by decide) mX6_statement_2 rfl rfl dX6_statement_297 ?_
                        refine lv_bipush (v := iI (((44 : Nat) : Int))) S.1 S.2.1 dX6_statement_300 (by decide) ?_
                        refine zv_iald S hAM hH 2 rfl (44) rfl (by decide) (by decide) dX6_statement_302 ?_
                        refine zv_top (z := rd 44) (z2 := ((na rd : Nat) : Int)) hrd.e44 ?_
                        refine lv_bipush (v := iI (((20 : Nat) : Int))) S.1 S.2.1 dX6_statement_303 (by decide) ?_
                        refine zv_icmp_ge (tgt := 312) S dX6_statement_305 (by decide) (by omega) (by decide) (fun c_305 => ?_) (fun c_305 => ?_)
                        · skip
                          refine lv_iconst (v := iI (((0 : Nat) : Int))) S.1 S.2.1 dX6_statement_312 (by decide) ?_
                          refine zc_Vv (n := 2) (As := [.int (iI ((0 : Nat) : Int)), .int (iI ((0 : Nat) : Int))]) (rest := []) S hAM hA (kX6_checked l X h Q s rd kp km tx lnn sj_173 2 wi gi 0 0 ht (by decide) (by decide) (by decide)) rfl gX6_statement_X6_checked  (by decide +kernel) ⟨Nat.le_of_ble_eq_true rfl, Nat.le_of_ble_eq_true rfl⟩ hH hS [0, 1, 2, 3, 4, 5, 6] rfl 7 rfl (List.Perm.refl _) 6 0 rfl rfl rfl hl.1 rfl (Nat.le_of_ble_eq_true rfl) dX6_statement_313 ⟨Nat.le_of_ble_eq_true rfl, Nat.le_of_ble_eq_true rfl⟩ (fun rj_195 H locs hp197 hH hS => ?_)
                          have hH : Hold X A [mO h Q km ((lnn : Nat) : Int) ((sj_173 : Nat) : Int) ((rj_195 : Nat) : Int), aW X (Q 0) 125 s, aW X (Q 1) 125 rd, aW X (Q 2) 625 kp, aW X (Q 3) 400 tx, aW X (Q 4) 8 wi, aW X (Q 5) 8 gi].flatten H := hH
                          have hc_313 := hp197
                          obtain rfl : rj_195 = 2 := hc_313.trans (by decide)
                          refine lv_aload_n S.1 S.2.1 dX6_statement_316 rfl (lv_at hl 5 rfl) ?_
                          refine zv_get (v := .int (iI ((2 : Nat) : Int))) S hAM hH nX6_statement_X6 0 rfl rfl 7 (by decide) mX6_statement_3 rfl rfl dX6_statement_317 ?_
                          refine zv_if_ne (tgt := 336) S dX6_statement_320 (by decide) (by decide) (fun c_320 => ?_) (fun c_320 => ?_)
                          · skip
                            refine lv_goto (tgt := 344) S.1 S.2.1 dX6_statement_336 (by decide) ?_
                            have eS : stm tx lnn p rd = (2, 0, rd) := by rw [stm, if_neg c_19, if_neg c_109, if_pos c_208, stEnter, hm_212, bnd_some, hm_217, bnd_some, hm_222, bnd_some, hm_228, bnd_none]
                            rw [eS] at hret
                            exact hret 344 ls _ _ (sj_173, 2) dX6_statement_344 ⟨rfl, (fun z => absurd z (by decide)), (by omega)⟩ hH hS
                          · exact (show False by omega).elim
                        · skip
                          refine lv_iconst (v := iI (((1 : Nat) : Int))) S.1 S.2.1 dX6_statement_308 (by decide) ?_
                          refine lv_goto (tgt := 313) S.1 S.2.1 dX6_statement_309 (by decide) ?_
                          refine zc_Vv (n := 2) (As := [.int (iI ((0 : Nat) : Int)), .int (iI ((1 : Nat) : Int))]) (rest := []) S hAM hA (kX6_checked l X h Q s rd kp km tx lnn sj_173 2 wi gi 0 1 ht (by decide) (by decide) (by decide)) rfl gX6_statement_X6_checked  (by decide +kernel) ⟨Nat.le_of_ble_eq_true rfl, Nat.le_of_ble_eq_true rfl⟩ hH hS [0, 1, 2, 3, 4, 5, 6] rfl 7 rfl (List.Perm.refl _) 6 0 rfl rfl rfl hl.1 rfl (Nat.le_of_ble_eq_true rfl) dX6_statement_313 ⟨Nat.le_of_ble_eq_true rfl, Nat.le_of_ble_eq_true rfl⟩ (fun rj_198 H locs hp200 hH hS => ?_)
                          have hH : Hold X A [mO h Q km ((lnn : Nat) : Int) ((sj_173 : Nat) : Int) ((rj_198 : Nat) : Int), aW X (Q 0) 125 s, aW X (Q 1) 125 rd, aW X (Q 2) 625 kp, aW X (Q 3) 400 tx, aW X (Q 4) 8 wi, aW X (Q 5) 8 gi].flatten H := hH
                          have hc_313 := hp200
                          obtain rfl : rj_198 = 2 := hc_313.trans (by decide)
                          refine lv_aload_n S.1 S.2.1 dX6_statement_316 rfl (lv_at hl 5 rfl) ?_
                          refine zv_get (v := .int (iI ((2 : Nat) : Int))) S hAM hH nX6_statement_X6 0 rfl rfl 7 (by decide) mX6_statement_3 rfl rfl dX6_statement_317 ?_
                          refine zv_if_ne (tgt := 336) S dX6_statement_320 (by decide) (by decide) (fun c_320 => ?_) (fun c_320 => ?_)
                          · skip
                            refine lv_goto (tgt := 344) S.1 S.2.1 dX6_statement_336 (by decide) ?_
                            have eS : stm tx lnn p rd = (2, 0, rd) := by rw [stm, if_neg c_19, if_neg c_109, if_pos c_208, stEnter, hm_212, bnd_some, hm_217, bnd_some, hm_222, bnd_some, hm_228, bnd_none]
                            rw [eS] at hret
                            exact hret 344 ls _ _ (sj_173, 2) dX6_statement_344 ⟨rfl, (fun z => absurd z (by decide)), (by omega)⟩ hH hS
                          · exact (show False by omega).elim
                      · skip
                        refine lv_iload S.1 S.2.1 dX6_statement_268 (lv_at hl 0 rfl) ?_
                        refine lv_aload_n S.1 S.2.1 dX6_statement_270 rfl (lv_at hl 5 rfl) ?_
                        refine zv_get (v := .ref (Q 1)) S hAM hH nX6_statement_X6 0 rfl rfl 1 (by decide) mX6_statement_2 rfl rfl dX6_statement_271 ?_
                        refine lv_iconst (v := iI (((1 : Nat) : Int))) S.1 S.2.1 dX6_statement_274 (by decide) ?_
                        refine lv_iload_n S.1 S.2.1 dX6_statement_275 rfl (lv_at hl 2 rfl) ?_
                        refine lv_bipush (v := iI (((10 : Nat) : Int))) S.1 S.2.1 dX6_statement_276 (by decide) ?_
                        refine zv_icmp_ge (tgt := 285) S dX6_statement_278 (by decide) (by omega) (by decide) (fun c_278 => ?_) (fun c_278 => ?_)
                        · exact (show False by omega).elim
                        · skip
                          refine lv_iload_n S.1 S.2.1 dX6_statement_281 rfl (lv_at hl 2 rfl) ?_
                          refine lv_goto (tgt := 286) S.1 S.2.1 dX6_statement_282 (by decide) ?_
                          refine zv_iadd (z := (((1 + zz_72) : Nat) : Int)) S dX6_statement_286 (by omega) ?_
                          refine zv_iald S hAM hH 2 rfl ((1 + zz_72)) rfl (by omega) (by decide) dX6_statement_287 ?_
                          refine zv_icmp_gt (tgt := 295) S dX6_statement_288 (by decide) (by omega) (hrd.inRk _ (by omega)) (fun c_288 => ?_) (fun c_288 => ?_)
                          · skip
                            refine lv_iconst (v := iI (((0 : Nat) : Int))) S.1 S.2.1 dX6_statement_295 (by decide) ?_
                            refine lv_aload_n S.1 S.2.1 dX6_statement_296 rfl (lv_at hl 5 rfl) ?_
                            refine zv_get (v := .ref (Q 1)) S hAM hH nX6_statement_X6 0 rfl rfl 1 (by decide) mX6_statement_2 rfl rfl dX6_statement_297 ?_
                            refine lv_bipush (v := iI (((44 : Nat) : Int))) S.1 S.2.1 dX6_statement_300 (by decide) ?_
                            refine zv_iald S hAM hH 2 rfl (44) rfl (by decide) (by decide) dX6_statement_302 ?_
                            refine zv_top (z := rd 44) (z2 := ((na rd : Nat) : Int)) hrd.e44 ?_
                            refine lv_bipush (v := iI (((20 : Nat) : Int))) S.1 S.2.1 dX6_statement_303 (by decide) ?_
                            refine zv_icmp_ge (tgt := 312) S dX6_statement_305 (by decide) (by omega) (by decide) (fun c_305 => ?_) (fun c_305 => ?_)
                            · skip
                              refine lv_iconst (v := iI (((0 : Nat) : Int))) S.1 S.2.1 dX6_statement_312 (by decide) ?_
                              refine zc_Vv (n := 2) (As := [.int (iI ((0 : Nat) : Int)), .int (iI ((0 : Nat) : Int))]) (rest := []) S hAM hA (kX6_checked l X h Q s rd kp km tx lnn sj_173 2 wi gi 0 0 ht (by decide) (by decide) (by decide)) rfl gX6_statement_X6_checked  (by decide +kernel) ⟨Nat.le_of_ble_eq_true rfl, Nat.le_of_ble_eq_true rfl⟩ hH hS [0, 1, 2, 3, 4, 5, 6] rfl 7 rfl (List.Perm.refl _) 6 0 rfl rfl rfl hl.1 rfl (Nat.le_of_ble_eq_true rfl) dX6_statement_313 ⟨Nat.le_of_ble_eq_true rfl, Nat.le_of_ble_eq_true rfl⟩ (fun rj_201 H locs hp203 hH hS => ?_)
                              have hH : Hold X A [mO h Q km ((lnn : Nat) : Int) ((sj_173 : Nat) : Int) ((rj_201 : Nat) : Int), aW X (Q 0) 125 s, aW X (Q 1) 125 rd, aW X (Q 2) 625 kp, aW X (Q 3) 400 tx, aW X (Q 4) 8 wi, aW X (Q 5) 8 gi].flatten H := hH
                              have hc_313 := hp203
                              obtain rfl : rj_201 = 2 := hc_313.trans (by decide)
                              refine lv_aload_n S.1 S.2.1 dX6_statement_316 rfl (lv_at hl 5 rfl) ?_
                              refine zv_get (v := .int (iI ((2 : Nat) : Int))) S hAM hH nX6_statement_X6 0 rfl rfl 7 (by decide) mX6_statement_3 rfl rfl dX6_statement_317 ?_
                              refine zv_if_ne (tgt := 336) S dX6_statement_320 (by decide) (by decide) (fun c_320 => ?_) (fun c_320 => ?_)
                              · skip
                                refine lv_goto (tgt := 344) S.1 S.2.1 dX6_statement_336 (by decide) ?_
                                have eS : stm tx lnn p rd = (2, 0, rd) := by rw [stm, if_neg c_19, if_neg c_109, if_pos c_208, stEnter, hm_212, bnd_some, hm_217, bnd_some, hm_222, bnd_some, hm_228, bnd_none]
                                rw [eS] at hret
                                exact hret 344 ls _ _ (sj_173, 2) dX6_statement_344 ⟨rfl, (fun z => absurd z (by decide)), (by omega)⟩ hH hS
                              · exact (show False by omega).elim
                            · skip
                              refine lv_iconst (v := iI (((1 : Nat) : Int))) S.1 S.2.1 dX6_statement_308 (by decide) ?_
                              refine lv_goto (tgt := 313) S.1 S.2.1 dX6_statement_309 (by decide) ?_
                              refine zc_Vv (n := 2) (As := [.int (iI ((0 : Nat) : Int)), .int (iI ((1 : Nat) : Int))]) (rest := []) S hAM hA (kX6_checked l X h Q s rd kp km tx lnn sj_173 2 wi gi 0 1 ht (by decide) (by decide) (by decide)) rfl gX6_statement_X6_checked  (by decide +kernel) ⟨Nat.le_of_ble_eq_true rfl, Nat.le_of_ble_eq_true rfl⟩ hH hS [0, 1, 2, 3, 4, 5, 6] rfl 7 rfl (List.Perm.refl _) 6 0 rfl rfl rfl hl.1 rfl (Nat.le_of_ble_eq_true rfl) dX6_statement_313 ⟨Nat.le_of_ble_eq_true rfl, Nat.le_of_ble_eq_true rfl⟩ (fun rj_204 H locs hp206 hH hS => ?_)
                              have hH : Hold X A [mO h Q km ((lnn : Nat) : Int) ((sj_173 : Nat) : Int) ((rj_204 : Nat) : Int), aW X (Q 0) 125 s, aW X (Q 1) 125 rd, aW X (Q 2) 625 kp, aW X (Q 3) 400 tx, aW X (Q 4) 8 wi, aW X (Q 5) 8 gi].flatten H := hH
                              have hc_313 := hp206
                              obtain rfl : rj_204 = 2 := hc_313.trans (by decide)
                              refine lv_aload_n S.1 S.2.1 dX6_statement_316 rfl (lv_at hl 5 rfl) ?_
                              refine zv_get (v := .int (iI ((2 : Nat) : Int))) S hAM hH nX6_statement_X6 0 rfl rfl 7 (by decide) mX6_statement_3 rfl rfl dX6_statement_317 ?_
                              refine zv_if_ne (tgt := 336) S dX6_statement_320 (by decide) (by decide) (fun c_320 => ?_) (fun c_320 => ?_)
                              · skip
                                refine lv_goto (tgt := 344) S.1 S.2.1 dX6_statement_336 (by decide) ?_
                                have eS : stm tx lnn p rd = (2, 0, rd) := by rw [stm, if_neg c_19, if_neg c_109, if_pos c_208, stEnter, hm_212, bnd_some, hm_217, bnd_some, hm_222, bnd_some, hm_228, bnd_none]
                                rw [eS] at hret
                                exact hret 344 ls _ _ (sj_173, 2) dX6_statement_344 ⟨rfl, (fun z => absurd z (by decide)), (by omega)⟩ hH hS
                              · exact (show False by omega).elim
                          · skip
                            refine lv_iconst (v := iI (((1 : Nat) : Int))) S.1 S.2.1 dX6_statement_291 (by decide) ?_
                            refine lv_goto (tgt := 296) S.1 S.2.1 dX6_statement_292 (by decide) ?_
                            refine lv_aload_n S.1 S.2.1 dX6_statement_296 rfl (lv_at hl 5 rfl) ?_
                            refine zv_get (v := .ref (Q 1)) S hAM hH nX6_statement_X6 0 rfl rfl 1 (by decide) mX6_statement_2 rfl rfl dX6_statement_297 ?_
                            refine lv_bipush (v := iI (((44 : Nat) : Int))) S.1 S.2.1 dX6_statement_300 (by decide) ?_
                            refine zv_iald S hAM hH 2 rfl (44) rfl (by decide) (by decide) dX6_statement_302 ?_
                            refine zv_top (z := rd 44) (z2 := ((na rd : Nat) : Int)) hrd.e44 ?_
                            refine lv_bipush (v := iI (((20 : Nat) : Int))) S.1 S.2.1 dX6_statement_303 (by decide) ?_
                            refine zv_icmp_ge (tgt := 312) S dX6_statement_305 (by decide) (by omega) (by decide) (fun c_305 => ?_) (fun c_305 => ?_)
                            · skip
                              refine lv_iconst (v := iI (((0 : Nat) : Int))) S.1 S.2.1 dX6_statement_312 (by decide) ?_
                              refine zc_Vv (n := 2) (As := [.int (iI ((1 : Nat) : Int)), .int (iI ((0 : Nat) : Int))]) (rest := []) S hAM hA (kX6_checked l X h Q s rd kp km tx lnn sj_173 2 wi gi 1 0 ht (by decide) (by decide) (by decide)) rfl gX6_statement_X6_checked  (by decide +kernel) ⟨Nat.le_of_ble_eq_true rfl, Nat.le_of_ble_eq_true rfl⟩ hH hS [0, 1, 2, 3, 4, 5, 6] rfl 7 rfl (List.Perm.refl _) 6 0 rfl rfl rfl hl.1 rfl (Nat.le_of_ble_eq_true rfl) dX6_statement_313 ⟨Nat.le_of_ble_eq_true rfl, Nat.le_of_ble_eq_true rfl⟩ (fun rj_207 H locs hp209 hH hS => ?_)
                              have hH : Hold X A [mO h Q km ((lnn : Nat) : Int) ((sj_173 : Nat) : Int) ((rj_207 : Nat) : Int), aW X (Q 0) 125 s, aW X (Q 1) 125 rd, aW X (Q 2) 625 kp, aW X (Q 3) 400 tx, aW X (Q 4) 8 wi, aW X (Q 5) 8 gi].flatten H := hH
                              have hc_313 := hp209
                              obtain rfl : rj_207 = 2 := hc_313.trans (by decide)
                              refine lv_aload_n S.1 S.2.1 dX6_statement_316 rfl (lv_at hl 5 rfl) ?_
                              refine zv_get (v := .int (iI ((2 : Nat) : Int))) S hAM hH nX6_statement_X6 0 rfl rfl 7 (by decide) mX6_statement_3 rfl rfl dX6_statement_317 ?_
                              refine zv_if_ne (tgt := 336) S dX6_statement_320 (by decide) (by decide) (fun c_320 => ?_) (fun c_320 => ?_)
                              · skip
                                refine lv_goto (tgt := 344) S.1 S.2.1 dX6_statement_336 (by decide) ?_
                                have eS : stm tx lnn p rd = (2, 0, rd) := by rw [stm, if_neg c_19, if_neg c_109, if_pos c_208, stEnter, hm_212, bnd_some, hm_217, bnd_some, hm_222, bnd_some, hm_228, bnd_none]
                                rw [eS] at hret
                                exact hret 344 ls _ _ (sj_173, 2) dX6_statement_344 ⟨rfl, (fun z => absurd z (by decide)), (by omega)⟩ hH hS
                              · exact (show False by omega).elim
                            · skip
                              refine lv_iconst (v := iI (((1 : Nat) : Int))) S.1 S.2.1 dX6_statement_308 (by decide) ?_
                              refine lv_goto (tgt := 313) S.1 S.2.1 dX6_statement_309 (by decide) ?_
                              refine zc_Vv (n := 2) (As := [.int (iI ((1 : Nat) : Int)), .int (iI ((1 : Nat) : Int))]) (rest := []) S hAM hA (kX6_checked l X h Q s rd kp km tx lnn sj_173 2 wi gi 1 1 ht (by decide) (by decide) (by decide)) rfl gX6_statement_X6_checked  (by decide +kernel) ⟨Nat.le_of_ble_eq_true rfl, Nat.le_of_ble_eq_true rfl⟩ hH hS [0, 1, 2, 3, 4, 5, 6] rfl 7 rfl (List.Perm.refl _) 6 0 rfl rfl rfl hl.1 rfl (Nat.le_of_ble_eq_true rfl) dX6_statement_313 ⟨Nat.le_of_ble_eq_true rfl, Nat.le_of_ble_eq_true rfl⟩ (fun rj_210 H locs hp212 hH hS => ?_)
                              have hH : Hold X A [mO h Q km ((lnn : Nat) : Int) ((sj_173 : Nat) : Int) ((rj_210 : Nat) : Int), aW X (Q 0) 125 s, aW X (Q 1) 125 rd, aW X (Q 2) 625 kp, aW X (Q 3) 400 tx, aW X (Q 4) 8 wi, aW X (Q 5) 8 gi].flatten H := hH
                              have hc_313 := hp212
                              obtain rfl : rj_210 = 2 := hc_313.trans (by decide)
                              refine lv_aload_n S.1 S.2.1 dX6_statement_316 rfl (lv_at hl 5 rfl) ?_
                              refine zv_get (v := .int (iI ((2 : Nat) : Int))) S hAM hH nX6_statement_X6 0 rfl rfl 7 (by decide) mX6_statement_3 rfl rfl dX6_statement_317 ?_
                              refine zv_if_ne (tgt := 336) S dX6_statement_320 (by decide) (by decide) (fun c_320 => ?_) (fun c_320 => ?_)
                              · skip
                                refine lv_goto (tgt := 344) S.1 S.2.1 dX6_statement_336 (by decide) ?_
                                have eS : stm tx lnn p rd = (2, 0, rd) := by rw [stm, if_neg c_19, if_neg c_109, if_pos c_208, stEnter, hm_212, bnd_some, hm_217, bnd_some, hm_222, bnd_some, hm_228, bnd_none]
                                rw [eS] at hret
                                exact hret 344 ls _ _ (sj_173, 2) dX6_statement_344 ⟨rfl, (fun z => absurd z (by decide)), (by omega)⟩ hH hS
                              · exact (show False by omega).elim
                · exact absurd q1 (by decide)
                · exact absurd q1 (by decide)
              · skip
                refine lv_istore (lv' := [(5, .int (iI ((zz_172 : Nat) : Int))), (4, .int (iI ((zz_125 : Nat) : Int))), (3, .int (iI ((zz_72 : Nat) : Int))), (2, .int (iI ((zz_13 : Nat) : Int))), (1, .int (iI (wdV tx p (we tx lnn p - p)))), (0, .ref (h))]) S.1 S.2.1 dX6_statement_231 hl (by decide) rfl (fun ls hl => ?_)
                refine lv_aload_n S.1 S.2.1 dX6_statement_233 rfl (lv_at hl 5 rfl) ?_
                refine lv_bipush (v := iI (((59 : Nat) : Int))) S.1 S.2.1 dX6_statement_234 (by decide) ?_
                refine zc_Vv (n := 1) (As := [.int (iI ((59 : Nat) : Int))]) (rest := []) S hAM hA (kX6_wants l X h Q s rd kp km tx lnn sj_173 0 wi gi 59 ht (by decide) (by omega) (by omega)) rfl gX6_statement_X6_wants  (by decide +kernel) ⟨Nat.le_of_ble_eq_true rfl, Nat.le_of_ble_eq_true rfl⟩ hH hS [0, 1, 2, 3, 4, 5, 6] rfl 7 rfl (List.Perm.refl _) 6 0 rfl rfl rfl hl.1 rfl (Nat.le_of_ble_eq_true rfl) dX6_statement_236 ⟨Nat.le_of_ble_eq_true rfl, Nat.le_of_ble_eq_true rfl⟩ (fun u215 H locs hp217 hH hS => ?_)
                obtain ⟨sj_213, rj_214⟩ := u215
                have hH : Hold X A [mO h Q km ((lnn : Nat) : Int) ((sj_213 : Nat) : Int) ((rj_214 : Nat) : Int), aW X (Q 0) 125 s, aW X (Q 1) 125 rd, aW X (Q 2) 625 kp, aW X (Q 3) 400 tx, aW X (Q 4) 8 wi, aW X (Q 5) 8 gi].flatten H := hH
                have hw_236 := hp217
                rcases hw_236 with ⟨q1, -⟩ | ⟨-, rfl, rfl, hq_236⟩ | ⟨-, rfl, rfl, hq_236⟩
                · exact absurd rfl q1
                · skip
                  refine lv_aload_n S.1 S.2.1 dX6_statement_239 rfl (lv_at hl 5 rfl) ?_
                  refine lv_iload_n S.1 S.2.1 dX6_statement_240 rfl (lv_at hl 3 rfl) ?_
                  refine lv_aload_n S.1 S.2.1 dX6_statement_241 rfl (lv_at hl 5 rfl) ?_
                  refine zv_get (v := .ref (Q 1)) S hAM hH nX6_statement_X6 0 rfl rfl 1 (by decide) mX6_statement_2 rfl rfl dX6_statement_242 ?_
                  refine lv_bipush (v := iI (((11 : Nat) : Int))) S.1 S.2.1 dX6_statement_245 (by decide) ?_
                  refine zv_iald S hAM hH 2 rfl (11) rfl (by decide) (by decide) dX6_statement_247 ?_
                  refine zv_top (z := rd 11) (z2 := ((nr rd : Nat) : Int)) hrd.e11 ?_
                  refine zv_icmp_ge (tgt := 295) S dX6_statement_248 (by decide) (by omega) (by omega) (fun c_248 => ?_) (fun c_248 => ?_)
                  · skip
                    refine lv_iconst (v := iI (((0 : Nat) : Int))) S.1 S.2.1 dX6_statement_295 (by decide) ?_
                    refine lv_aload_n S.1 S.2.1 dX6_statement_296 rfl (lv_at hl 5 rfl) ?_
                    refine zv_get (v := .ref (Q 1)) S hAM hH nX6_statement_X6 0 rfl rfl 1 (by decide) mX6_statement_2 rfl rfl dX6_statement_297 ?_
                    refine lv_bipush (v := iI (((44 : Nat) : Int))) S.1 S.2.1 dX6_statement_300 (by decide) ?_
                    refine zv_iald S hAM hH 2 rfl (44) rfl (by decide) (by decide) dX6_statement_302 ?_
                    refine zv_top (z := rd 44) (z2 := ((na rd : Nat) : Int)) hrd.e44 ?_
                    refine lv_bipush (v := iI (((20 : Nat) : Int))) S.1 S.2.1 dX6_statement_303 (by decide) ?_
                    refine zv_icmp_ge (tgt := 312) S dX6_statement_305 (by decide) (by omega) (by decide) (fun c_305 => ?_) (fun c_305 => ?_)
                    · skip
                      refine lv_iconst (v := iI (((0 : Nat) : Int))) S.1 S.2.1 dX6_statement_312 (by decide) ?_
                      refine zc_Vv (n := 2) (As := [.int (iI ((0 : Nat) : Int)), .int (iI ((0 : Nat) : Int))]) (rest := []) S hAM hA (kX6_checked l X h Q s rd kp km tx lnn (sj_173 + 1) 0 wi gi 0 0 ht (by decide) (by decide) (by decide)) rfl gX6_statement_X6_checked  (by decide +kernel) ⟨Nat.le_of_ble_eq_true rfl, Nat.le_of_ble_eq_true rfl⟩ hH hS [0, 1, 2, 3, 4, 5, 6] rfl 7 rfl (List.Perm.refl _) 6 0 rfl rfl rfl hl.1 rfl (Nat.le_of_ble_eq_true rfl) dX6_statement_313 ⟨Nat.le_of_ble_eq_true rfl, Nat.le_of_ble_eq_true rfl⟩ (fun rj_218 H locs hp220 hH hS => ?_)
                      have hH : Hold X A [mO h Q km ((lnn : Nat) : Int) (((sj_173 + 1) : Nat) : Int) ((rj_218 : Nat) : Int), aW X (Q 0) 125 s, aW X (Q 1) 125 rd, aW X (Q 2) 625 kp, aW X (Q 3) 400 tx, aW X (Q 4) 8 wi, aW X (Q 5) 8 gi].flatten H := hH
                      have hc_313 := hp220
                      obtain rfl : rj_218 = 3 := hc_313.trans (by decide)
                      refine lv_aload_n S.1 S.2.1 dX6_statement_316 rfl (lv_at hl 5 rfl) ?_
                      refine zv_get (v := .int (iI ((3 : Nat) : Int))) S hAM hH nX6_statement_X6 0 rfl rfl 7 (by decide) mX6_statement_3 rfl rfl dX6_statement_317 ?_
                      refine zv_if_ne (tgt := 336) S dX6_statement_320 (by decide) (by decide) (fun c_320 => ?_) (fun c_320 => ?_)
                      · skip
                        refine lv_goto (tgt := 344) S.1 S.2.1 dX6_statement_336 (by decide) ?_
                        have eS : stm tx lnn p rd = (3, 0, rd) := by rw [stm, if_neg c_19, if_neg c_109, if_pos c_208, stEnter, hm_212, bnd_some, hm_217, bnd_some, hm_222, bnd_some, hm_228, bnd_some, if_pos hq_236, Int.toNat_natCast, if_neg (by omega)]
                        rw [eS] at hret
                        exact hret 344 ls _ _ ((sj_173 + 1), 3) dX6_statement_344 ⟨rfl, (fun z => absurd z (by decide)), (by omega)⟩ hH hS
                      · exact (show False by omega).elim
                    · skip
                      refine lv_iconst (v := iI (((1 : Nat) : Int))) S.1 S.2.1 dX6_statement_308 (by decide) ?_
                      refine lv_goto (tgt := 313) S.1 S.2.1 dX6_statement_309 (by decide) ?_
                      refine zc_Vv (n := 2) (As := [.int (iI ((0 : Nat) : Int)), .int (iI ((1 : Nat) : Int))]) (rest := []) S hAM hA (kX6_checked l X h Q s rd kp km tx lnn (sj_173 + 1) 0 wi gi 0 1 ht (by decide) (by decide) (by decide)) rfl gX6_statement_X6_checked  (by decide +kernel) ⟨Nat.le_of_ble_eq_true rfl, Nat.le_of_ble_eq_true rfl⟩ hH hS [0, 1, 2, 3, 4, 5, 6] rfl 7 rfl (List.Perm.refl _) 6 0 rfl rfl rfl hl.1 rfl (Nat.le_of_ble_eq_true rfl) dX6_statement_313 ⟨Nat.le_of_ble_eq_true rfl, Nat.le_of_ble_eq_true rfl⟩ (fun rj_221 H locs hp223 hH hS => ?_)
                      have hH : Hold X A [mO h Q km ((lnn : Nat) : Int) (((sj_173 + 1) : Nat) : Int) ((rj_221 : Nat) : Int), aW X (Q 0) 125 s, aW X (Q 1) 125 rd, aW X (Q 2) 625 kp, aW X (Q 3) 400 tx, aW X (Q 4) 8 wi, aW X (Q 5) 8 gi].flatten H := hH
                      have hc_313 := hp223
                      obtain rfl : rj_221 = 3 := hc_313.trans (by decide)
                      refine lv_aload_n S.1 S.2.1 dX6_statement_316 rfl (lv_at hl 5 rfl) ?_
                      refine zv_get (v := .int (iI ((3 : Nat) : Int))) S hAM hH nX6_statement_X6 0 rfl rfl 7 (by decide) mX6_statement_3 rfl rfl dX6_statement_317 ?_
                      refine zv_if_ne (tgt := 336) S dX6_statement_320 (by decide) (by decide) (fun c_320 => ?_) (fun c_320 => ?_)
                      · skip
                        refine lv_goto (tgt := 344) S.1 S.2.1 dX6_statement_336 (by decide) ?_
                        have eS : stm tx lnn p rd = (3, 0, rd) := by rw [stm, if_neg c_19, if_neg c_109, if_pos c_208, stEnter, hm_212, bnd_some, hm_217, bnd_some, hm_222, bnd_some, hm_228, bnd_some, if_pos hq_236, Int.toNat_natCast, if_neg (by omega)]
                        rw [eS] at hret
                        exact hret 344 ls _ _ ((sj_173 + 1), 3) dX6_statement_344 ⟨rfl, (fun z => absurd z (by decide)), (by omega)⟩ hH hS
                      · exact (show False by omega).elim
                  · skip
                    refine lv_iload_n S.1 S.2.1 dX6_statement_251 rfl (lv_at hl 2 rfl) ?_
                    refine lv_aload_n S.1 S.2.1 dX6_statement_252 rfl (lv_at hl 5 rfl) ?_
                    refine zv_get (v := .ref (Q 1)) S hAM hH nX6_statement_X6 0 rfl rfl 1 (by decide) mX6_statement_2 rfl rfl dX6_statement_253 ?_
                    refine lv_iconst (v := iI (((0 : Nat) : Int))) S.1 S.2.1 dX6_statement_256 (by decide) ?_
                    refine zv_iald S hAM hH 2 rfl (0) rfl (by decide) (by decide) dX6_statement_257 ?_
                    refine zv_top (z := rd 0) (z2 := ((ns rd : Nat) : Int)) hrd.e0 ?_
                    refine zv_icmp_ge (tgt := 295) S dX6_statement_258 (by decide) (by omega) (by omega) (fun c_258 => ?_) (fun c_258 => ?_)
                    · skip
                      refine lv_iconst (v := iI (((0 : Nat) : Int))) S.1 S.2.1 dX6_statement_295 (by decide) ?_
                      refine lv_aload_n S.1 S.2.1 dX6_statement_296 rfl (lv_at hl 5 rfl) ?_
                      refine zv_get (v := .ref (Q 1)) S hAM hH nX6_statement_X6 0 rfl rfl 1 (by decide) mX6_statement_2 rfl rfl dX6_statement_297 ?_
                      refine lv_bipush (v := iI (((44 : Nat) : Int))) S.1 S.2.1 dX6_statement_300 (by decide) ?_
                      refine zv_iald S hAM hH 2 rfl (44) rfl (by decide) (by decide) dX6_statement_302 ?_
                      refine zv_top (z := rd 44) (z2 := ((na rd : Nat) : Int)) hrd.e44 ?_
                      refine lv_bipush (v := iI (((20 : Nat) : Int))) S.1 S.2.1 dX6_statement_303 (by decide) ?_
                      refine zv_icmp_ge (tgt := 312) S dX6_statement_305 (by decide) (by omega) (by decide) (fun c_305 => ?_) (fun c_305 => ?_)
                      · skip
                        refine lv_iconst (v := iI (((0 : Nat) : Int))) S.1 S.2.1 dX6_statement_312 (by decide) ?_
                        refine zc_Vv (n := 2) (As := [.int (iI ((0 : Nat) : Int)), .int (iI ((0 : Nat) : Int))]) (rest := []) S hAM hA (kX6_checked l X h Q s rd kp km tx lnn (sj_173 + 1) 0 wi gi 0 0 ht (by decide) (by decide) (by decide)) rfl gX6_statement_X6_checked  (by decide +kernel) ⟨Nat.le_of_ble_eq_true rfl, Nat.le_of_ble_eq_true rfl⟩ hH hS [0, 1, 2, 3, 4, 5, 6] rfl 7 rfl (List.Perm.refl _) 6 0 rfl rfl rfl hl.1 rfl (Nat.le_of_ble_eq_true rfl) dX6_statement_313 ⟨Nat.le_of_ble_eq_true rfl, Nat.le_of_ble_eq_true rfl⟩ (fun rj_224 H locs hp226 hH hS => ?_)
                        have hH : Hold X A [mO h Q km ((lnn : Nat) : Int) (((sj_173 + 1) : Nat) : Int) ((rj_224 : Nat) : Int), aW X (Q 0) 125 s, aW X (Q 1) 125 rd, aW X (Q 2) 625 kp, aW X (Q 3) 400 tx, aW X (Q 4) 8 wi, aW X (Q 5) 8 gi].flatten H := hH
                        have hc_313 := hp226
                        obtain rfl : rj_224 = 3 := hc_313.trans (by decide)
                        refine lv_aload_n S.1 S.2.1 dX6_statement_316 rfl (lv_at hl 5 rfl) ?_
                        refine zv_get (v := .int (iI ((3 : Nat) : Int))) S hAM hH nX6_statement_X6 0 rfl rfl 7 (by decide) mX6_statement_3 rfl rfl dX6_statement_317 ?_
                        refine zv_if_ne (tgt := 336) S dX6_statement_320 (by decide) (by decide) (fun c_320 => ?_) (fun c_320 => ?_)
                        · skip
                          refine lv_goto (tgt := 344) S.1 S.2.1 dX6_statement_336 (by decide) ?_
                          have eS : stm tx lnn p rd = (3, 0, rd) := by rw [stm, if_neg c_19, if_neg c_109, if_pos c_208, stEnter, hm_212, bnd_some, hm_217, bnd_some, hm_222, bnd_some, hm_228, bnd_some, if_pos hq_236, Int.toNat_natCast, if_neg (by omega)]
                          rw [eS] at hret
                          exact hret 344 ls _ _ ((sj_173 + 1), 3) dX6_statement_344 ⟨rfl, (fun z => absurd z (by decide)), (by omega)⟩ hH hS
                        · exact (show False by omega).elim
                      · skip
                        refine lv_iconst (v := iI (((1 : Nat) : Int))) S.1 S.2.1 dX6_statement_308 (by decide) ?_
                        refine lv_goto (tgt := 313) S.1 S.2.1 dX6_statement_309 (by decide) ?_
                        refine zc_Vv (n := 2) (As := [.int (iI ((0 : Nat) : Int)), .int (iI ((1 : Nat) : Int))]) (rest := []) S hAM hA (kX6_checked l X h Q s rd kp km tx lnn (sj_173 + 1) 0 wi gi 0 1 ht (by decide) (by decide) (by decide)) rfl gX6_statement_X6_checked  (by decide +kernel) ⟨Nat.le_of_ble_eq_true rfl, Nat.le_of_ble_eq_true rfl⟩ hH hS [0, 1, 2, 3, 4, 5, 6] rfl 7 rfl (List.Perm.refl _) 6 0 rfl rfl rfl hl.1 rfl (Nat.le_of_ble_eq_true rfl) dX6_statement_313 ⟨Nat.le_of_ble_eq_true rfl, Nat.le_of_ble_eq_true rfl⟩ (fun rj_227 H locs hp229 hH hS => ?_)
                        have hH : Hold X A [mO h Q km ((lnn : Nat) : Int) (((sj_173 + 1) : Nat) : Int) ((rj_227 : Nat) : Int), aW X (Q 0) 125 s, aW X (Q 1) 125 rd, aW X (Q 2) 625 kp, aW X (Q 3) 400 tx, aW X (Q 4) 8 wi, aW X (Q 5) 8 gi].flatten H := hH
                        have hc_313 := hp229
                        obtain rfl : rj_227 = 3 := hc_313.trans (by decide)
                        refine lv_aload_n S.1 S.2.1 dX6_statement_316 rfl (lv_at hl 5 rfl) ?_
                        refine zv_get (v := .int (iI ((3 : Nat) : Int))) S hAM hH nX6_statement_X6 0 rfl rfl 7 (by decide) mX6_statement_3 rfl rfl dX6_statement_317 ?_
                        refine zv_if_ne (tgt := 336) S dX6_statement_320 (by decide) (by decide) (fun c_320 => ?_) (fun c_320 => ?_)
                        · skip
                          refine lv_goto (tgt := 344) S.1 S.2.1 dX6_statement_336 (by decide) ?_
                          have eS : stm tx lnn p rd = (3, 0, rd) := by rw [stm, if_neg c_19, if_neg c_109, if_pos c_208, stEnter, hm_212, bnd_some, hm_217, bnd_some, hm_222, bnd_some, hm_228, bnd_some, if_pos hq_236, Int.toNat_natCast, if_neg (by omega)]
                          rw [eS] at hret
                          exact hret 344 ls _ _ ((sj_173 + 1), 3) dX6_statement_344 ⟨rfl, (fun z => absurd z (by decide)), (by omega)⟩ hH hS
                        · exact (show False by omega).elim
                    · skip
                      refine lv_iload S.1 S.2.1 dX6_statement_261 (lv_at hl 1 rfl) ?_
                      refine lv_iload S.1 S.2.1 dX6_statement_263 (lv_at hl 0 rfl) ?_
                      refine zv_icmp_ge (tgt := 295) S dX6_statement_265 (by decide) (by omega) (by omega) (fun c_265 => ?_) (fun c_265 => ?_)
                      · skip
                        refine lv_iconst (v := iI (((0 : Nat) : Int))) S.1 S.2.1 dX6_statement_295 (by decide) ?_
                        refine lv_aload_n S.1 S.2.1 dX6_statement_296 rfl (lv_at hl 5 rfl) ?_
                        refine zv_get (v := .ref (Q 1)) S hAM hH nX6_statement_X6 0 rfl rfl 1 (by decide) mX6_statement_2 rfl rfl dX6_statement_297 ?_
                        refine lv_bipush (v := iI (((44 : Nat) : Int))) S.1 S.2.1 dX6_statement_300 (by decide) ?_
                        refine zv_iald S hAM hH 2 rfl (44) rfl (by decide) (by decide) dX6_statement_302 ?_
                        refine zv_top (z := rd 44) (z2 := ((na rd : Nat) : Int)) hrd.e44 ?_
                        refine lv_bipush (v := iI (((20 : Nat) : Int))) S.1 S.2.1 dX6_statement_303 (by decide) ?_
                        refine zv_icmp_ge (tgt := 312) S dX6_statement_305 (by decide) (by omega) (by decide) (fun c_305 => ?_) (fun c_305 => ?_)
                        · skip
                          refine lv_iconst (v := iI (((0 : Nat) : Int))) S.1 S.2.1 dX6_statement_312 (by decide) ?_
                          refine zc_Vv (n := 2) (As := [.int (iI ((0 : Nat) : Int)), .int (iI ((0 : Nat) : Int))]) (rest := []) S hAM hA (kX6_checked l X h Q s rd kp km tx lnn (sj_173 + 1) 0 wi gi 0 0 ht (by decide) (by decide) (by decide)) rfl gX6_statement_X6_checked  (by decide +kernel) ⟨Nat.le_of_ble_eq_true rfl, Nat.le_of_ble_eq_true rfl⟩ hH hS [0, 1, 2, 3, 4, 5, 6] rfl 7 rfl (List.Perm.refl _) 6 0 rfl rfl rfl hl.1 rfl (Nat.le_of_ble_eq_true rfl) dX6_statement_313 ⟨Nat.le_of_ble_eq_true rfl, Nat.le_of_ble_eq_true rfl⟩ (fun rj_230 H locs hp232 hH hS => ?_)
                          have hH : Hold X A [mO h Q km ((lnn : Nat) : Int) (((sj_173 + 1) : Nat) : Int) ((rj_230 : Nat) : Int), aW X (Q 0) 125 s, aW X (Q 1) 125 rd, aW X (Q 2) 625 kp, aW X (Q 3) 400 tx, aW X (Q 4) 8 wi, aW X (Q 5) 8 gi].flatten H := hH
                          have hc_313 := hp232
                          obtain rfl : rj_230 = 3 := hc_313.trans (by decide)
                          refine lv_aload_n S.1 S.2.1 dX6_statement_316 rfl (lv_at hl 5 rfl) ?_
                          refine zv_get (v := .int (iI ((3 : Nat) : Int))) S hAM hH nX6_statement_X6 0 rfl rfl 7 (by decide) mX6_statement_3 rfl rfl dX6_statement_317 ?_
                          refine zv_if_ne (tgt := 336) S dX6_statement_320 (by decide) (by decide) (fun c_320 => ?_) (fun c_320 => ?_)
                          · skip
                            refine lv_goto (tgt := 344) S.1 S.2.1 dX6_statement_336 (by decide) ?_
                            have eS : stm tx lnn p rd = (3, 0, rd) := by rw [stm, if_neg c_19, if_neg c_109, if_pos c_208, stEnter, hm_212, bnd_some, hm_217, bnd_some, hm_222, bnd_some, hm_228, bnd_some, if_pos hq_236, Int.toNat_natCast, if_neg (by omega)]
                            rw [eS] at hret
                            exact hret 344 ls _ _ ((sj_173 + 1), 3) dX6_statement_344 ⟨rfl, (fun z => absurd z (by decide)), (by omega)⟩ hH hS
                          · exact (show False by omega).elim
                        · skip
                          refine lv_iconst (v := iI (((1 : Nat) : Int))) S.1 S.2.1 dX6_statement_308 (by decide) ?_
                          refine lv_goto (tgt := 313) S.1 S.2.1 dX6_statement_309 (by decide) ?_
                          refine zc_Vv (n := 2) (As := [.int (iI ((0 : Nat) : Int)), .int (iI ((1 : Nat) : Int))]) (rest := []) S hAM hA (kX6_checked l X h Q s rd kp km tx lnn (sj_173 + 1) 0 wi gi 0 1 ht (by decide) (by decide) (by decide)) rfl gX6_statement_X6_checked  (by decide +kernel) ⟨Nat.le_of_ble_eq_true rfl, Nat.le_of_ble_eq_true rfl⟩ hH hS [0, 1, 2, 3, 4, 5, 6] rfl 7 rfl (List.Perm.refl _) 6 0 rfl rfl rfl hl.1 rfl (Nat.le_of_ble_eq_true rfl) dX6_statement_313 ⟨Nat.le_of_ble_eq_true rfl, Nat.le_of_ble_eq_true rfl⟩ (fun rj_233 H locs hp235 hH hS => ?_)
                          have hH : Hold X A [mO h Q km ((lnn : Nat) : Int) (((sj_173 + 1) : Nat) : Int) ((rj_233 : Nat) : Int), aW X (Q 0) 125 s, aW X (Q 1) 125 rd, aW X (Q 2) 625 kp, aW X (Q 3) 400 tx, aW X (Q 4) 8 wi, aW X (Q 5) 8 gi].flatten H := hH
                          have hc_313 := hp235
                          obtain rfl : rj_233 = 3 := hc_313.trans (by decide)
                          refine lv_aload_n S.1 S.2.1 dX6_statement_316 rfl (lv_at hl 5 rfl) ?_
                          refine zv_get (v := .int (iI ((3 : Nat) : Int))) S hAM hH nX6_statement_X6 0 rfl rfl 7 (by decide) mX6_statement_3 rfl rfl dX6_statement_317 ?_
                          refine zv_if_ne (tgt := 336) S dX6_statement_320 (by decide) (by decide) (fun c_320 => ?_) (fun c_320 => ?_)
                          · skip
                            refine lv_goto (tgt := 344) S.1 S.2.1 dX6_statement_336 (by decide) ?_
                            have eS : stm tx lnn p rd = (3, 0, rd) := by rw [stm, if_neg c_19, if_neg c_109, if_pos c_208, stEnter, hm_212, bnd_some, hm_217, bnd_some, hm_222, bnd_some, hm_228, bnd_some, if_pos hq_236, Int.toNat_natCast, if_neg (by omega)]
                            rw [eS] at hret
                            exact hret 344 ls _ _ ((sj_173 + 1), 3) dX6_statement_344 ⟨rfl, (fun z => absurd z (by decide)), (by omega)⟩ hH hS
                          · exact (show False by omega).elim
                      · skip
                        refine lv_iload S.1 S.2.1 dX6_statement_268 (lv_at hl 0 rfl) ?_
                        refine lv_aload_n S.1 S.2.1 dX6_statement_270 rfl (lv_at hl 5 rfl) ?_
                        refine zv_get (v := .ref (Q 1)) S hAM hH nX6_statement_X6 0 rfl rfl 1 (by decide) mX6_statement_2 rfl rfl dX6_statement_271 ?_
                        refine lv_iconst (v := iI (((1 : Nat) : Int))) S.1 S.2.1 dX6_statement_274 (by decide) ?_
                        refine lv_iload_n S.1 S.2.1 dX6_statement_275 rfl (lv_at hl 2 rfl) ?_
                        refine lv_bipush (v := iI (((10 : Nat) : Int))) S.1 S.2.1 dX6_statement_276 (by decide) ?_
                        refine zv_icmp_ge (tgt := 285) S dX6_statement_278 (by decide) (by omega) (by decide) (fun c_278 => ?_) (fun c_278 => ?_)
                        · exact (show False by omega).elim
                        · skip
                          refine lv_iload_n S.1 S.2.1 dX6_statement_281 rfl (lv_at hl 2 rfl) ?_
                          refine lv_goto (tgt := 286) S.1 S.2.1 dX6_statement_282 (by decide) ?_
                          refine zv_iadd (z := (((1 + zz_72) : Nat) : Int)) S dX6_statement_286 (by omega) ?_
                          refine zv_iald S hAM hH 2 rfl ((1 + zz_72)) rfl (by omega) (by decide) dX6_statement_287 ?_
                          refine zv_icmp_gt (tgt := 295) S dX6_statement_288 (by decide) (by omega) (hrd.inRk _ (by omega)) (fun c_288 => ?_) (fun c_288 => ?_)
                          · skip
                            refine lv_iconst (v := iI (((0 : Nat) : Int))) S.1 S.2.1 dX6_statement_295 (by decide) ?_
                            refine lv_aload_n S.1 S.2.1 dX6_statement_296 rfl (lv_at hl 5 rfl) ?_
                            refine zv_get (v := .ref (Q 1)) S hAM hH nX6_statement_X6 0 rfl rfl 1 (by decide) mX6_statement_2 rfl rfl dX6_statement_297 ?_
                            refine lv_bipush (v := iI (((44 : Nat) : Int))) S.1 S.2.1 dX6_statement_300 (by decide) ?_
                            refine zv_iald S hAM hH 2 rfl (44) rfl (by decide) (by decide) dX6_statement_302 ?_
                            refine zv_top (z := rd 44) (z2 := ((na rd : Nat) : Int)) hrd.e44 ?_
                            refine lv_bipush (v := iI (((20 : Nat) : Int))) S.1 S.2.1 dX6_statement_303 (by decide) ?_
                            refine zv_icmp_ge (tgt := 312) S dX6_statement_305 (by decide) (by omega) (by decide) (fun c_305 => ?_) (fun c_305 => ?_)
                            · skip
                              refine lv_iconst (v := iI (((0 : Nat) : Int))) S.1 S.2.1 dX6_statement_312 (by decide) ?_
                              refine zc_Vv (n := 2) (As := [.int (iI ((0 : Nat) : Int)), .int (iI ((0 : Nat) : Int))]) (rest := []) S hAM hA (kX6_checked l X h Q s rd kp km tx lnn (sj_173 + 1) 0 wi gi 0 0 ht (by decide) (by decide) (by decide)) rfl gX6_statement_X6_checked  (by decide +kernel) ⟨Nat.le_of_ble_eq_true rfl, Nat.le_of_ble_eq_true rfl⟩ hH hS [0, 1, 2, 3, 4, 5, 6] rfl 7 rfl (List.Perm.refl _) 6 0 rfl rfl rfl hl.1 rfl (Nat.le_of_ble_eq_true rfl) dX6_statement_313 ⟨Nat.le_of_ble_eq_true rfl, Nat.le_of_ble_eq_true rfl⟩ (fun rj_236 H locs hp238 hH hS => ?_)
                              have hH : Hold X A [mO h Q km ((lnn : Nat) : Int) (((sj_173 + 1) : Nat) : Int) ((rj_236 : Nat) : Int), aW X (Q 0) 125 s, aW X (Q 1) 125 rd, aW X (Q 2) 625 kp, aW X (Q 3) 400 tx, aW X (Q 4) 8 wi, aW X (Q 5) 8 gi].flatten H := hH
                              have hc_313 := hp238
                              obtain rfl : rj_236 = 3 := hc_313.trans (by decide)
                              refine lv_aload_n S.1 S.2.1 dX6_statement_316 rfl (lv_at hl 5 rfl) ?_
                              refine zv_get (v := .int (iI ((3 : Nat) : Int))) S hAM hH nX6_statement_X6 0 rfl rfl 7 (by decide) mX6_statement_3 rfl rfl dX6_statement_317 ?_
                              refine zv_if_ne (tgt := 336) S dX6_statement_320 (by decide) (by decide) (fun c_320 => ?_) (fun c_320 => ?_)
                              · skip
                                refine lv_goto (tgt := 344) S.1 S.2.1 dX6_statement_336 (by decide) ?_
                                have eS : stm tx lnn p rd = (3, 0, rd) := by rw [stm, if_neg c_19, if_neg c_109, if_pos c_208, stEnter, hm_212, bnd_some, hm_217, bnd_some, hm_222, bnd_some, hm_228, bnd_some, if_pos hq_236, Int.toNat_natCast, if_neg (by omega)]
                                rw [eS] at hret
                                exact hret 344 ls _ _ ((sj_173 + 1), 3) dX6_statement_344 ⟨rfl, (fun z => absurd z (by decide)), (by omega)⟩ hH hS
                              · exact (show False by omega).elim
                            · skip
                              refine lv_iconst (v := iI (((1 : Nat) : Int))) S.1 S.2.1 dX6_statement_308 (by decide) ?_
                              refine lv_goto (tgt := 313) S.1 S.2.1 dX6_statement_309 (by decide) ?_
                              refine zc_Vv (n := 2) (As := [.int (iI ((0 : Nat) : Int)), .int (iI ((1 : Nat) : Int))]) (rest := []) S hAM hA (kX6_checked l X h Q s rd kp km tx lnn (sj_173 + 1) 0 wi gi 0 1 ht (by decide) (by decide) (by decide)) rfl gX6_statement_X6_checked  (by decide +kernel) ⟨Nat.le_of_ble_eq_true rfl, Nat.le_of_ble_eq_true rfl⟩ hH hS [0, 1, 2, 3, 4, 5, 6] rfl 7 rfl (List.Perm.refl _) 6 0 rfl rfl rfl hl.1 rfl (Nat.le_of_ble_eq_true rfl) dX6_statement_313 ⟨Nat.le_of_ble_eq_true rfl, Nat.le_of_ble_eq_true rfl⟩ (fun rj_239 H locs hp241 hH hS => ?_)
                              have hH : Hold X A [mO h Q km ((lnn : Nat) : Int) (((sj_173 + 1) : Nat) : Int) ((rj_239 : Nat) : Int), aW X (Q 0) 125 s, aW X (Q 1) 125 rd, aW X (Q 2) 625 kp, aW X (Q 3) 400 tx, aW X (Q 4) 8 wi, aW X (Q 5) 8 gi].flatten H := hH
                              have hc_313 := hp241
                              obtain rfl : rj_239 = 3 := hc_313.trans (by decide)
                              refine lv_aload_n S.1 S.2.1 dX6_statement_316 rfl (lv_at hl 5 rfl) ?_
                              refine zv_get (v := .int (iI ((3 : Nat) : Int))) S hAM hH nX6_statement_X6 0 rfl rfl 7 (by decide) mX6_statement_3 rfl rfl dX6_statement_317 ?_
                              refine zv_if_ne (tgt := 336) S dX6_statement_320 (by decide) (by decide) (fun c_320 => ?_) (fun c_320 => ?_)
                              · skip
                                refine lv_goto (tgt := 344) S.1 S.2.1 dX6_statement_336 (by decide) ?_
                                have eS : stm tx lnn p rd = (3, 0, rd) := by rw [stm, if_neg c_19, if_neg c_109, if_pos c_208, stEnter, hm_212, bnd_some, hm_217, bnd_some, hm_222, bnd_some, hm_228, bnd_some, if_pos hq_236, Int.toNat_natCast, if_neg (by omega)]
                                rw [eS] at hret
                                exact hret 344 ls _ _ ((sj_173 + 1), 3) dX6_statement_344 ⟨rfl, (fun z => absurd z (by decide)), (by omega)⟩ hH hS
                              · exact (show False by omega).elim
                          · skip
                            refine lv_iconst (v := iI (((1 : Nat) : Int))) S.1 S.2.1 dX6_statement_291 (by decide) ?_
                            refine lv_goto (tgt := 296) S.1 S.2.1 dX6_statement_292 (by decide) ?_
                            refine lv_aload_n S.1 S.2.1 dX6_statement_296 rfl (lv_at hl 5 rfl) ?_
                            refine zv_get (v := .ref (Q 1)) S hAM hH nX6_statement_X6 0 rfl rfl 1 (by decide) mX6_statement_2 rfl rfl dX6_statement_297 ?_
                            refine lv_bipush (v := iI (((44 : Nat) : Int))) S.1 S.2.1 dX6_statement_300 (by decide) ?_
                            refine zv_iald S hAM hH 2 rfl (44) rfl (by decide) (by decide) dX6_statement_302 ?_
                            refine zv_top (z := rd 44) (z2 := ((na rd : Nat) : Int)) hrd.e44 ?_
                            refine lv_bipush (v := iI (((20 : Nat) : Int))) S.1 S.2.1 dX6_statement_303 (by decide) ?_
                            refine zv_icmp_ge (tgt := 312) S dX6_statement_305 (by decide) (by omega) (by decide) (fun c_305 => ?_) (fun c_305 => ?_)
                            · skip
                              refine lv_iconst (v := iI (((0 : Nat) : Int))) S.1 S.2.1 dX6_statement_312 (by decide) ?_
                              refine zc_Vv (n := 2) (As := [.int (iI ((1 : Nat) : Int)), .int (iI ((0 : Nat) : Int))]) (rest := []) S hAM hA (kX6_checked l X h Q s rd kp km tx lnn (sj_173 + 1) 0 wi gi 1 0 ht (by decide) (by decide) (by decide)) rfl gX6_statement_X6_checked  (by decide +kernel) ⟨Nat.le_of_ble_eq_true rfl, Nat.le_of_ble_eq_true rfl⟩ hH hS [0, 1, 2, 3, 4, 5, 6] rfl 7 rfl (List.Perm.refl _) 6 0 rfl rfl rfl hl.1 rfl (Nat.le_of_ble_eq_true rfl) dX6_statement_313 ⟨Nat.le_of_ble_eq_true rfl, Nat.le_of_ble_eq_true rfl⟩ (fun rj_242 H locs hp244 hH hS => ?_)
                              have hH : Hold X A [mO h Q km ((lnn : Nat) : Int) (((sj_173 + 1) : Nat) : Int) ((rj_242 : Nat) : Int), aW X (Q 0) 125 s, aW X (Q 1) 125 rd, aW X (Q 2) 625 kp, aW X (Q 3) 400 tx, aW X (Q 4) 8 wi, aW X (Q 5) 8 gi].flatten H := hH
                              have hc_313 := hp244
                              obtain rfl : rj_242 = 4 := hc_313.trans (by decide)
                              refine lv_aload_n S.1 S.2.1 dX6_statement_316 rfl (lv_at hl 5 rfl) ?_
                              refine zv_get (v := .int (iI ((4 : Nat) : Int))) S hAM hH nX6_statement_X6 0 rfl rfl 7 (by decide) mX6_statement_3 rfl rfl dX6_statement_317 ?_
                              refine zv_if_ne (tgt := 336) S dX6_statement_320 (by decide) (by decide) (fun c_320 => ?_) (fun c_320 => ?_)
                              · skip
                                refine lv_goto (tgt := 344) S.1 S.2.1 dX6_statement_336 (by decide) ?_
                                have eS : stm tx lnn p rd = (4, 0, rd) := by rw [stm, if_neg c_19, if_neg c_109, if_pos c_208, stEnter, hm_212, bnd_some, hm_217, bnd_some, hm_222, bnd_some, hm_228, bnd_some, if_pos hq_236, Int.toNat_natCast, if_pos (by omega), if_neg (by omega)]
                                rw [eS] at hret
                                exact hret 344 ls _ _ ((sj_173 + 1), 4) dX6_statement_344 ⟨rfl, (fun z => absurd z (by decide)), (by omega)⟩ hH hS
                              · exact (show False by omega).elim
                            · skip
                              refine lv_iconst (v := iI (((1 : Nat) : Int))) S.1 S.2.1 dX6_statement_308 (by decide) ?_
                              refine lv_goto (tgt := 313) S.1 S.2.1 dX6_statement_309 (by decide) ?_
                              refine zc_Vv (n := 2) (As := [.int (iI ((1 : Nat) : Int)), .int (iI ((1 : Nat) : Int))]) (rest := []) S hAM hA (kX6_checked l X h Q s rd kp km tx lnn (sj_173 + 1) 0 wi gi 1 1 ht (by decide) (by decide) (by decide)) rfl gX6_statement_X6_checked  (by decide +kernel) ⟨Nat.le_of_ble_eq_true rfl, Nat.le_of_ble_eq_true rfl⟩ hH hS [0, 1, 2, 3, 4, 5, 6] rfl 7 rfl (List.Perm.refl _) 6 0 rfl rfl rfl hl.1 rfl (Nat.le_of_ble_eq_true rfl) dX6_statement_313 ⟨Nat.le_of_ble_eq_true rfl, Nat.le_of_ble_eq_true rfl⟩ (fun rj_245 H locs hp247 hH hS => ?_)
                              have hH : Hold X A [mO h Q km ((lnn : Nat) : Int) (((sj_173 + 1) : Nat) : Int) ((rj_245 : Nat) : Int), aW X (Q 0) 125 s, aW X (Q 1) 125 rd, aW X (Q 2) 625 kp, aW X (Q 3) 400 tx, aW X (Q 4) 8 wi, aW X (Q 5) 8 gi].flatten H := hH
                              have hc_313 := hp247
                              obtain rfl : rj_245 = 0 := hc_313.trans (by decide)
                              refine lv_aload_n S.1 S.2.1 dX6_statement_316 rfl (lv_at hl 5 rfl) ?_
                              refine zv_get (v := .int (iI ((0 : Nat) : Int))) S hAM hH nX6_statement_X6 0 rfl rfl 7 (by decide) mX6_statement_3 rfl rfl dX6_statement_317 ?_
                              refine zv_if_ne (tgt := 336) S dX6_statement_320 (by decide) (by decide) (fun c_320 => ?_) (fun c_320 => ?_)
                              · exact (show False by omega).elim
                              · skip
                                refine lv_aload_n S.1 S.2.1 dX6_statement_323 rfl (lv_at hl 5 rfl) ?_
                                refine zv_get (v := .ref (Q 1)) S hAM hH nX6_statement_X6 0 rfl rfl 1 (by decide) mX6_statement_2 rfl rfl dX6_statement_324 ?_
                                refine lv_iload_n S.1 S.2.1 dX6_statement_327 rfl (lv_at hl 3 rfl) ?_
                                refine lv_iload_n S.1 S.2.1 dX6_statement_328 rfl (lv_at hl 2 rfl) ?_
                                refine lv_iload S.1 S.2.1 dX6_statement_329 (lv_at hl 1 rfl) ?_
                                refine lv_iload S.1 S.2.1 dX6_statement_331 (lv_at hl 0 rfl) ?_
                                refine zc_Sv (n := 5) (As := [.ref (Q 1), .int (iI ((zz_13 : Nat) : Int)), .int (iI ((zz_72 : Nat) : Int)), .int (iI ((zz_125 : Nat) : Int)), .int (iI ((zz_172 : Nat) : Int))]) (rest := []) S hAM hA (kX6_appear l X (Q 1) rd ((zz_13 : Nat) : Int) ((zz_72 : Nat) : Int) ((zz_125 : Nat) : Int) ((zz_172 : Nat) : Int) hrd (by omega)) rfl gX6_statement_X6_appear  (by decide +kernel) ⟨Nat.le_of_ble_eq_true rfl, Nat.le_of_ble_eq_true rfl⟩ hH hS [2, 0, 1, 3, 4, 5, 6] rfl 7 rfl (by decide)  rfl hl.1 rfl (Nat.le_of_ble_eq_true rfl) dX6_statement_333 ⟨Nat.le_of_ble_eq_true rfl, Nat.le_of_ble_eq_true rfl⟩ (fun _ H locs hp250 hH hS => ?_)
                                have hH : Hold X A [aW X (Q 1) 125 (addApp rd ((zz_13 : Nat) : Int) ((zz_72 : Nat) : Int) ((zz_125 : Nat) : Int) ((zz_172 : Nat) : Int)), mO h Q km ((lnn : Nat) : Int) (((sj_173 + 1) : Nat) : Int) ((0 : Nat) : Int), aW X (Q 0) 125 s, aW X (Q 2) 625 kp, aW X (Q 3) 400 tx, aW X (Q 4) 8 wi, aW X (Q 5) 8 gi].flatten H := hH
                                refine lv_goto (tgt := 344) S.1 S.2.1 dX6_statement_336 (by decide) ?_
                                have hH : Hold X A [mO h Q km ((lnn : Nat) : Int) (((sj_173 + 1) : Nat) : Int) ((0 : Nat) : Int), aW X (Q 0) 125 s, aW X (Q 1) 125 (addApp rd ((zz_13 : Nat) : Int) ((zz_72 : Nat) : Int) ((zz_125 : Nat) : Int) ((zz_172 : Nat) : Int)), aW X (Q 2) 625 kp, aW X (Q 3) 400 tx, aW X (Q 4) 8 wi, aW X (Q 5) 8 gi].flatten _ := hH.pick [1, 2, 0, 3, 4, 5, 6] rfl 7 rfl (by decide)
                                have eS : stm tx lnn p rd = (0, (sj_173 + 1), (addApp rd ((zz_13 : Nat) : Int) ((zz_72 : Nat) : Int) ((zz_125 : Nat) : Int) ((zz_172 : Nat) : Int))) := by rw [stm, if_neg c_19, if_neg c_109, if_pos c_208, stEnter, hm_212, bnd_some, hm_217, bnd_some, hm_222, bnd_some, hm_228, bnd_some, if_pos hq_236, Int.toNat_natCast, if_pos (by omega), if_pos (by omega)]
                                rw [eS] at hret
                                exact hret 344 ls _ _ ((sj_173 + 1), 0) dX6_statement_344 ⟨rfl, (fun _ => rfl), (by omega)⟩ hH hS
                · skip
                  refine lv_aload_n S.1 S.2.1 dX6_statement_239 rfl (lv_at hl 5 rfl) ?_
                  refine lv_iload_n S.1 S.2.1 dX6_statement_240 rfl (lv_at hl 3 rfl) ?_
                  refine lv_aload_n S.1 S.2.1 dX6_statement_241 rfl (lv_at hl 5 rfl) ?_
                  refine zv_get (v := .ref (Q 1)) S hAM hH nX6_statement_X6 0 rfl rfl 1 (by decide) mX6_statement_2 rfl rfl dX6_statement_242 ?_
                  refine lv_bipush (v := iI (((11 : Nat) : Int))) S.1 S.2.1 dX6_statement_245 (by decide) ?_
                  refine zv_iald S hAM hH 2 rfl (11) rfl (by decide) (by decide) dX6_statement_247 ?_
                  refine zv_top (z := rd 11) (z2 := ((nr rd : Nat) : Int)) hrd.e11 ?_
                  refine zv_icmp_ge (tgt := 295) S dX6_statement_248 (by decide) (by omega) (by omega) (fun c_248 => ?_) (fun c_248 => ?_)
                  · skip
                    refine lv_iconst (v := iI (((0 : Nat) : Int))) S.1 S.2.1 dX6_statement_295 (by decide) ?_
                    refine lv_aload_n S.1 S.2.1 dX6_statement_296 rfl (lv_at hl 5 rfl) ?_
                    refine zv_get (v := .ref (Q 1)) S hAM hH nX6_statement_X6 0 rfl rfl 1 (by decide) mX6_statement_2 rfl rfl dX6_statement_297 ?_
                    refine lv_bipush (v := iI (((44 : Nat) : Int))) S.1 S.2.1 dX6_statement_300 (by decide) ?_
                    refine zv_iald S hAM hH 2 rfl (44) rfl (by decide) (by decide) dX6_statement_302 ?_
                    refine zv_top (z := rd 44) (z2 := ((na rd : Nat) : Int)) hrd.e44 ?_
                    refine lv_bipush (v := iI (((20 : Nat) : Int))) S.1 S.2.1 dX6_statement_303 (by decide) ?_
                    refine zv_icmp_ge (tgt := 312) S dX6_statement_305 (by decide) (by omega) (by decide) (fun c_305 => ?_) (fun c_305 => ?_)
                    · skip
                      refine lv_iconst (v := iI (((0 : Nat) : Int))) S.1 S.2.1 dX6_statement_312 (by decide) ?_
                      refine zc_Vv (n := 2) (As := [.int (iI ((0 : Nat) : Int)), .int (iI ((0 : Nat) : Int))]) (rest := []) S hAM hA (kX6_checked l X h Q s rd kp km tx lnn (sj_173 + 1) 2 wi gi 0 0 ht (by decide) (by decide) (by decide)) rfl gX6_statement_X6_checked  (by decide +kernel) ⟨Nat.le_of_ble_eq_true rfl, Nat.le_of_ble_eq_true rfl⟩ hH hS [0, 1, 2, 3, 4, 5, 6] rfl 7 rfl (List.Perm.refl _) 6 0 rfl rfl rfl hl.1 rfl (Nat.le_of_ble_eq_true rfl) dX6_statement_313 ⟨Nat.le_of_ble_eq_true rfl, Nat.le_of_ble_eq_true rfl⟩ (fun rj_251 H locs hp253 hH hS => ?_)
                      have hH : Hold X A [mO h Q km ((lnn : Nat) : Int) (((sj_173 + 1) : Nat) : Int) ((rj_251 : Nat) : Int), aW X (Q 0) 125 s, aW X (Q 1) 125 rd, aW X (Q 2) 625 kp, aW X (Q 3) 400 tx, aW X (Q 4) 8 wi, aW X (Q 5) 8 gi].flatten H := hH
                      have hc_313 := hp253
                      obtain rfl : rj_251 = 2 := hc_313.trans (by decide)
                      refine lv_aload_n S.1 S.2.1 dX6_statement_316 rfl (lv_at hl 5 rfl) ?_
                      refine zv_get (v := .int (iI ((2 : Nat) : Int))) S hAM hH nX6_statement_X6 0 rfl rfl 7 (by decide) mX6_statement_3 rfl rfl dX6_statement_317 ?_
                      refine zv_if_ne (tgt := 336) S dX6_statement_320 (by decide) (by decide) (fun c_320 => ?_) (fun c_320 => ?_)
                      · skip
                        refine lv_goto (tgt := 344) S.1 S.2.1 dX6_statement_336 (by decide) ?_
                        have eS : stm tx lnn p rd = (2, 0, rd) := by rw [stm, if_neg c_19, if_neg c_109, if_pos c_208, stEnter, hm_212, bnd_some, hm_217, bnd_some, hm_222, bnd_some, hm_228, bnd_some, if_neg hq_236]
                        rw [eS] at hret
                        exact hret 344 ls _ _ ((sj_173 + 1), 2) dX6_statement_344 ⟨rfl, (fun z => absurd z (by decide)), (by omega)⟩ hH hS
                      · exact (show False by omega).elim
                    · skip
                      refine lv_iconst (v := iI (((1 : Nat) : Int))) S.1 S.2.1 dX6_statement_308 (by decide) ?_
                      refine lv_goto (tgt := 313) S.1 S.2.1 dX6_statement_309 (by decide) ?_
                      refine zc_Vv (n := 2) (As := [.int (iI ((0 : Nat) : Int)), .int (iI ((1 : Nat) : Int))]) (rest := []) S hAM hA (kX6_checked l X h Q s rd kp km tx lnn (sj_173 + 1) 2 wi gi 0 1 ht (by decide) (by decide) (by decide)) rfl gX6_statement_X6_checked  (by decide +kernel) ⟨Nat.le_of_ble_eq_true rfl, Nat.le_of_ble_eq_true rfl⟩ hH hS [0, 1, 2, 3, 4, 5, 6] rfl 7 rfl (List.Perm.refl _) 6 0 rfl rfl rfl hl.1 rfl (Nat.le_of_ble_eq_true rfl) dX6_statement_313 ⟨Nat.le_of_ble_eq_true rfl, Nat.le_of_ble_eq_true rfl⟩ (fun rj_254 H locs hp256 hH hS => ?_)
                      have hH : Hold X A [mO h Q km ((lnn : Nat) : Int) (((sj_173 + 1) : Nat) : Int) ((rj_254 : Nat) : Int), aW X (Q 0) 125 s, aW X (Q 1) 125 rd, aW X (Q 2) 625 kp, aW X (Q 3) 400 tx, aW X (Q 4) 8 wi, aW X (Q 5) 8 gi].flatten H := hH
                      have hc_313 := hp256
                      obtain rfl : rj_254 = 2 := hc_313.trans (by decide)
                      refine lv_aload_n S.1 S.2.1 dX6_statement_316 rfl (lv_at hl 5 rfl) ?_
                      refine zv_get (v := .int (iI ((2 : Nat) : Int))) S hAM hH nX6_statement_X6 0 rfl rfl 7 (by decide) mX6_statement_3 rfl rfl dX6_statement_317 ?_
                      refine zv_if_ne (tgt := 336) S dX6_statement_320 (by decide) (by decide) (fun c_320 => ?_) (fun c_320 => ?_)
                      · skip
                        refine lv_goto (tgt := 344) S.1 S.2.1 dX6_statement_336 (by decide) ?_
                        have eS : stm tx lnn p rd = (2, 0, rd) := by rw [stm, if_neg c_19, if_neg c_109, if_pos c_208, stEnter, hm_212, bnd_some, hm_217, bnd_some, hm_222, bnd_some, hm_228, bnd_some, if_neg hq_236]
                        rw [eS] at hret
                        exact hret 344 ls _ _ ((sj_173 + 1), 2) dX6_statement_344 ⟨rfl, (fun z => absurd z (by decide)), (by omega)⟩ hH hS
                      · exact (show False by omega).elim
                  · skip
                    refine lv_iload_n S.1 S.2.1 dX6_statement_251 rfl (lv_at hl 2 rfl) ?_
                    refine lv_aload_n S.1 S.2.1 dX6_statement_252 rfl (lv_at hl 5 rfl) ?_
                    refine zv_get (v := .ref (Q 1)) S hAM hH nX6_statement_X6 0 rfl rfl 1 (by decide) mX6_statement_2 rfl rfl dX6_statement_253 ?_
                    refine lv_iconst (v := iI (((0 : Nat) : Int))) S.1 S.2.1 dX6_statement_256 (by decide) ?_
                    refine zv_iald S hAM hH 2 rfl (0) rfl (by decide) (by decide) dX6_statement_257 ?_
                    refine zv_top (z := rd 0) (z2 := ((ns rd : Nat) : Int)) hrd.e0 ?_
                    refine zv_icmp_ge (tgt := 295) S dX6_statement_258 (by decide) (by omega) (by omega) (fun c_258 => ?_) (fun c_258 => ?_)
                    · skip
                      refine lv_iconst (v := iI (((0 : Nat) : Int))) S.1 S.2.1 dX6_statement_295 (by decide) ?_
                      refine lv_aload_n S.1 S.2.1 dX6_statement_296 rfl (lv_at hl 5 rfl) ?_
                      refine zv_get (v := .ref (Q 1)) S hAM hH nX6_statement_X6 0 rfl rfl 1 (by decide) mX6_statement_2 rfl rfl dX6_statement_297 ?_
                      refine lv_bipush (v := iI (((44 : Nat) : Int))) S.1 S.2.1 dX6_statement_300 (by decide) ?_
                      refine zv_iald S hAM hH 2 rfl (44) rfl (by decide) (by decide) dX6_statement_302 ?_
                      refine zv_top (z := rd 44) (z2 := ((na rd : Nat) : Int)) hrd.e44 ?_
                      refine lv_bipush (v := iI (((20 : Nat) : Int))) S.1 S.2.1 dX6_statement_303 (by decide) ?_
                      refine zv_icmp_ge (tgt := 312) S dX6_statement_305 (by decide) (by omega) (by decide) (fun c_305 => ?_) (fun c_305 => ?_)
                      · skip
                        refine lv_iconst (v := iI (((0 : Nat) : Int))) S.1 S.2.1 dX6_statement_312 (by decide) ?_
                        refine zc_Vv (n := 2) (As := [.int (iI ((0 : Nat) : Int)), .int (iI ((0 : Nat) : Int))]) (rest := []) S hAM hA (kX6_checked l X h Q s rd kp km tx lnn (sj_173 + 1) 2 wi gi 0 0 ht (by decide) (by decide) (by decide)) rfl gX6_statement_X6_checked  (by decide +kernel) ⟨Nat.le_of_ble_eq_true rfl, Nat.le_of_ble_eq_true rfl⟩ hH hS [0, 1, 2, 3, 4, 5, 6] rfl 7 rfl (List.Perm.refl _) 6 0 rfl rfl rfl hl.1 rfl (Nat.le_of_ble_eq_true rfl) dX6_statement_313 ⟨Nat.le_of_ble_eq_true rfl, Nat.le_of_ble_eq_true rfl⟩ (fun rj_257 H locs hp259 hH hS => ?_)
                        have hH : Hold X A [mO h Q km ((lnn : Nat) : Int) (((sj_173 + 1) : Nat) : Int) ((rj_257 : Nat) : Int), aW X (Q 0) 125 s, aW X (Q 1) 125 rd, aW X (Q 2) 625 kp, aW X (Q 3) 400 tx, aW X (Q 4) 8 wi, aW X (Q 5) 8 gi].flatten H := hH
                        have hc_313 := hp259
                        obtain rfl : rj_257 = 2 := hc_313.trans (by decide)
                        refine lv_aload_n S.1 S.2.1 dX6_statement_316 rfl (lv_at hl 5 rfl) ?_
                        refine zv_get (v := .int (iI ((2 : Nat) : Int))) S hAM hH nX6_statement_X6 0 rfl rfl 7 (by decide) mX6_statement_3 rfl rfl dX6_statement_317 ?_
                        refine zv_if_ne (tgt := 336) S dX6_statement_320 (by decide) (by decide) (fun c_320 => ?_) (fun c_320 => ?_)
                        · skip
                          refine lv_goto (tgt := 344) S.1 S.2.1 dX6_statement_336 (by decide) ?_
                          have eS : stm tx lnn p rd = (2, 0, rd) := by rw [stm, if_neg c_19, if_neg c_109, if_pos c_208, stEnter, hm_212, bnd_some, hm_217, bnd_some, hm_222, bnd_some, hm_228, bnd_some, if_neg hq_236]
                          rw [eS] at hret
                          exact hret 344 ls _ _ ((sj_173 + 1), 2) dX6_statement_344 ⟨rfl, (fun z => absurd z (by decide)), (by omega)⟩ hH hS
                        · exact (show False by omega).elim
                      · skip
                        refine lv_iconst (v := iI (((1 : Nat) : Int))) S.1 S.2.1 dX6_statement_308 (by decide) ?_
                        refine lv_goto (tgt := 313) S.1 S.2.1 dX6_statement_309 (by decide) ?_
                        refine zc_Vv (n := 2) (As := [.int (iI ((0 : Nat) : Int)), .int (iI ((1 : Nat) : Int))]) (rest := []) S hAM hA (kX6_checked l X h Q s rd kp km tx lnn (sj_173 + 1) 2 wi gi 0 1 ht (by decide) (by decide) (by decide)) rfl gX6_statement_X6_checked  (by decide +kernel) ⟨Nat.le_of_ble_eq_true rfl, Nat.le_of_ble_eq_true rfl⟩ hH hS [0, 1, 2, 3, 4, 5, 6] rfl 7 rfl (List.Perm.refl _) 6 0 rfl rfl rfl hl.1 rfl (Nat.le_of_ble_eq_true rfl) dX6_statement_313 ⟨Nat.le_of_ble_eq_true rfl, Nat.le_of_ble_eq_true rfl⟩ (fun rj_260 H locs hp262 hH hS => ?_)
                        have hH : Hold X A [mO h Q km ((lnn : Nat) : Int) (((sj_173 + 1) : Nat) : Int) ((rj_260 : Nat) : Int), aW X (Q 0) 125 s, aW X (Q 1) 125 rd, aW X (Q 2) 625 kp, aW X (Q 3) 400 tx, aW X (Q 4) 8 wi, aW X (Q 5) 8 gi].flatten H := hH
                        have hc_313 := hp262
                        obtain rfl : rj_260 = 2 := hc_313.trans (by decide)
                        refine lv_aload_n S.1 S.2.1 dX6_statement_316 rfl (lv_at hl 5 rfl) ?_
                        refine zv_get (v := .int (iI ((2 : Nat) : Int))) S hAM hH nX6_statement_X6 0 rfl rfl 7 (by decide) mX6_statement_3 rfl rfl dX6_statement_317 ?_
                        refine zv_if_ne (tgt := 336) S dX6_statement_320 (by decide) (by decide) (fun c_320 => ?_) (fun c_320 => ?_)
                        · skip
                          refine lv_goto (tgt := 344) S.1 S.2.1 dX6_statement_336 (by decide) ?_
                          have eS : stm tx lnn p rd = (2, 0, rd) := by rw [stm, if_neg c_19, if_neg c_109, if_pos c_208, stEnter, hm_212, bnd_some, hm_217, bnd_some, hm_222, bnd_some, hm_228, bnd_some, if_neg hq_236]
                          rw [eS] at hret
                          exact hret 344 ls _ _ ((sj_173 + 1), 2) dX6_statement_344 ⟨rfl, (fun z => absurd z (by decide)), (by omega)⟩ hH hS
                        · exact (show False by omega).elim
                    · skip
                      refine lv_iload S.1 S.2.1 dX6_statement_261 (lv_at hl 1 rfl) ?_
                      refine lv_iload S.1 S.2.1 dX6_statement_263 (lv_at hl 0 rfl) ?_
                      refine zv_icmp_ge (tgt := 295) S dX6_statement_265 (by decide) (by omega) (by omega) (fun c_265 => ?_) (fun c_265 => ?_)
                      · skip
                        refine lv_iconst (v := iI (((0 : Nat) : Int))) S.1 S.2.1 dX6_statement_295 (by decide) ?_
                        refine lv_aload_n S.1 S.2.1 dX6_statement_296 rfl (lv_at hl 5 rfl) ?_
                        refine zv_get (v := .ref (Q 1)) S hAM hH nX6_statement_X6 0 rfl rfl 1 (by decide) mX6_statement_2 rfl rfl dX6_statement_297 ?_
                        refine lv_bipush (v := iI (((44 : Nat) : Int))) S.1 S.2.1 dX6_statement_300 (by decide) ?_
                        refine zv_iald S hAM hH 2 rfl (44) rfl (by decide) (by decide) dX6_statement_302 ?_
                        refine zv_top (z := rd 44) (z2 := ((na rd : Nat) : Int)) hrd.e44 ?_
                        refine lv_bipush (v := iI (((20 : Nat) : Int))) S.1 S.2.1 dX6_statement_303 (by decide) ?_
                        refine zv_icmp_ge (tgt := 312) S dX6_statement_305 (by decide) (by omega) (by decide) (fun c_305 => ?_) (fun c_305 => ?_)
                        · skip
                          refine lv_iconst (v := iI (((0 : Nat) : Int))) S.1 S.2.1 dX6_statement_312 (by decide) ?_
                          refine zc_Vv (n := 2) (As := [.int (iI ((0 : Nat) : Int)), .int (iI ((0 : Nat) : Int))]) (rest := []) S hAM hA (kX6_checked l X h Q s rd kp km tx lnn (sj_173 + 1) 2 wi gi 0 0 ht (by decide) (by decide) (by decide)) rfl gX6_statement_X6_checked  (by decide +kernel) ⟨Nat.le_of_ble_eq_true rfl, Nat.le_of_ble_eq_true rfl⟩ hH hS [0, 1, 2, 3, 4, 5, 6] rfl 7 rfl (List.Perm.refl _) 6 0 rfl rfl rfl hl.1 rfl (Nat.le_of_ble_eq_true rfl) dX6_statement_313 ⟨Nat.le_of_ble_eq_true rfl, Nat.le_of_ble_eq_true rfl⟩ (fun rj_263 H locs hp265 hH hS => ?_)
                          have hH : Hold X A [mO h Q km ((lnn : Nat) : Int) (((sj_173 + 1) : Nat) : Int) ((rj_263 : Nat) : Int), aW X (Q 0) 125 s, aW X (Q 1) 125 rd, aW X (Q 2) 625 kp, aW X (Q 3) 400 tx, aW X (Q 4) 8 wi, aW X (Q 5) 8 gi].flatten H := hH
                          have hc_313 := hp265
                          obtain rfl : rj_263 = 2 := hc_313.trans (by decide)
                          refine lv_aload_n S.1 S.2.1 dX6_statement_316 rfl (lv_at hl 5 rfl) ?_
                          refine zv_get (v := .int (iI ((2 : Nat) : Int))) S hAM hH nX6_statement_X6 0 rfl rfl 7 (by decide) mX6_statement_3 rfl rfl dX6_statement_317 ?_
                          refine zv_if_ne (tgt := 336) S dX6_statement_320 (by decide) (by decide) (fun c_320 => ?_) (fun c_320 => ?_)
                          · skip
                            refine lv_goto (tgt := 344) S.1 S.2.1 dX6_statement_336 (by decide) ?_
                            have eS : stm tx lnn p rd = (2, 0, rd) := by rw [stm, if_neg c_19, if_neg c_109, if_pos c_208, stEnter, hm_212, bnd_some, hm_217, bnd_some, hm_222, bnd_some, hm_228, bnd_some, if_neg hq_236]
                            rw [eS] at hret
                            exact hret 344 ls _ _ ((sj_173 + 1), 2) dX6_statement_344 ⟨rfl, (fun z => absurd z (by decide)), (by omega)⟩ hH hS
                          · exact (show False by omega).elim
                        · skip
                          refine lv_iconst (v := iI (((1 : Nat) : Int))) S.1 S.2.1 dX6_statement_308 (by decide) ?_
                          refine lv_goto (tgt := 313) S.1 S.2.1 dX6_statement_309 (by decide) ?_
                          refine zc_Vv (n := 2) (As := [.int (iI ((0 : Nat) : Int)), .int (iI ((1 : Nat) : Int))]) (rest := []) S hAM hA (kX6_checked l X h Q s rd kp km tx lnn (sj_173 + 1) 2 wi gi 0 1 ht (by decide) (by decide) (by decide)) rfl gX6_statement_X6_checked  (by decide +kernel) ⟨Nat.le_of_ble_eq_true rfl, Nat.le_of_ble_eq_true rfl⟩ hH hS [0, 1, 2, 3, 4, 5, 6] rfl 7 rfl (List.Perm.refl _) 6 0 rfl rfl rfl hl.1 rfl (Nat.le_of_ble_eq_true rfl) dX6_statement_313 ⟨Nat.le_of_ble_eq_true rfl, Nat.le_of_ble_eq_true rfl⟩ (fun rj_266 H locs hp268 hH hS => ?_)
                          have hH : Hold X A [mO h Q km ((lnn : Nat) : Int) (((sj_173 + 1) : Nat) : Int) ((rj_266 : Nat) : Int), aW X (Q 0) 125 s, aW X (Q 1) 125 rd, aW X (Q 2) 625 kp, aW X (Q 3) 400 tx, aW X (Q 4) 8 wi, aW X (Q 5) 8 gi].flatten H := hH
                          have hc_313 := hp268
                          obtain rfl : rj_266 = 2 := hc_313.trans (by decide)
                          refine lv_aload_n S.1 S.2.1 dX6_statement_316 rfl (lv_at hl 5 rfl) ?_
                          refine zv_get (v := .int (iI ((2 : Nat) : Int))) S hAM hH nX6_statement_X6 0 rfl rfl 7 (by decide) mX6_statement_3 rfl rfl dX6_statement_317 ?_
                          refine zv_if_ne (tgt := 336) S dX6_statement_320 (by decide) (by decide) (fun c_320 => ?_) (fun c_320 => ?_)
                          · skip
                            refine lv_goto (tgt := 344) S.1 S.2.1 dX6_statement_336 (by decide) ?_
                            have eS : stm tx lnn p rd = (2, 0, rd) := by rw [stm, if_neg c_19, if_neg c_109, if_pos c_208, stEnter, hm_212, bnd_some, hm_217, bnd_some, hm_222, bnd_some, hm_228, bnd_some, if_neg hq_236]
                            rw [eS] at hret
                            exact hret 344 ls _ _ ((sj_173 + 1), 2) dX6_statement_344 ⟨rfl, (fun z => absurd z (by decide)), (by omega)⟩ hH hS
                          · exact (show False by omega).elim
                      · skip
                        refine lv_iload S.1 S.2.1 dX6_statement_268 (lv_at hl 0 rfl) ?_
                        refine lv_aload_n S.1 S.2.1 dX6_statement_270 rfl (lv_at hl 5 rfl) ?_
                        refine zv_get (v := .ref (Q 1)) S hAM hH nX6_statement_X6 0 rfl rfl 1 (by decide) mX6_statement_2 rfl rfl dX6_statement_271 ?_
                        refine lv_iconst (v := iI (((1 : Nat) : Int))) S.1 S.2.1 dX6_statement_274 (by decide) ?_
                        refine lv_iload_n S.1 S.2.1 dX6_statement_275 rfl (lv_at hl 2 rfl) ?_
                        refine lv_bipush (v := iI (((10 : Nat) : Int))) S.1 S.2.1 dX6_statement_276 (by decide) ?_
                        refine zv_icmp_ge (tgt := 285) S dX6_statement_278 (by decide) (by omega) (by decide) (fun c_278 => ?_) (fun c_278 => ?_)
                        · exact (show False by omega).elim
                        · skip
                          refine lv_iload_n S.1 S.2.1 dX6_statement_281 rfl (lv_at hl 2 rfl) ?_
                          refine lv_goto (tgt := 286) S.1 S.2.1 dX6_statement_282 (by decide) ?_
                          refine zv_iadd (z := (((1 + zz_72) : Nat) : Int)) S dX6_statement_286 (by omega) ?_
                          refine zv_iald S hAM hH 2 rfl ((1 + zz_72)) rfl (by omega) (by decide) dX6_statement_287 ?_
                          refine zv_icmp_gt (tgt := 295) S dX6_statement_288 (by decide) (by omega) (hrd.inRk _ (by omega)) (fun c_288 => ?_) (fun c_288 => ?_)
                          · skip
                            refine lv_iconst (v := iI (((0 : Nat) : Int))) S.1 S.2.1 dX6_statement_295 (by decide) ?_
                            refine lv_aload_n S.1 S.2.1 dX6_statement_296 rfl (lv_at hl 5 rfl) ?_
                            refine zv_get (v := .ref (Q 1)) S hAM hH nX6_statement_X6 0 rfl rfl 1 (by decide) mX6_statement_2 rfl rfl dX6_statement_297 ?_
                            refine lv_bipush (v := iI (((44 : Nat) : Int))) S.1 S.2.1 dX6_statement_300 (by decide) ?_
                            refine zv_iald S hAM hH 2 rfl (44) rfl (by decide) (by decide) dX6_statement_302 ?_
                            refine zv_top (z := rd 44) (z2 := ((na rd : Nat) : Int)) hrd.e44 ?_
                            refine lv_bipush (v := iI (((20 : Nat) : Int))) S.1 S.2.1 dX6_statement_303 (by decide) ?_
                            refine zv_icmp_ge (tgt := 312) S dX6_statement_305 (by decide) (by omega) (by decide) (fun c_305 => ?_) (fun c_305 => ?_)
                            · skip
                              refine lv_iconst (v := iI (((0 : Nat) : Int))) S.1 S.2.1 dX6_statement_312 (by decide) ?_
                              refine zc_Vv (n := 2) (As := [.int (iI ((0 : Nat) : Int)), .int (iI ((0 : Nat) : Int))]) (rest := []) S hAM hA (kX6_checked l X h Q s rd kp km tx lnn (sj_173 + 1) 2 wi gi 0 0 ht (by decide) (by decide) (by decide)) rfl gX6_statement_X6_checked  (by decide +kernel) ⟨Nat.le_of_ble_eq_true rfl, Nat.le_of_ble_eq_true rfl⟩ hH hS [0, 1, 2, 3, 4, 5, 6] rfl 7 rfl (List.Perm.refl _) 6 0 rfl rfl rfl hl.1 rfl (Nat.le_of_ble_eq_true rfl) dX6_statement_313 ⟨Nat.le_of_ble_eq_true rfl, Nat.le_of_ble_eq_true rfl⟩ (fun rj_269 H locs hp271 hH hS => ?_)
                              have hH : Hold X A [mO h Q km ((lnn : Nat) : Int) (((sj_173 + 1) : Nat) : Int) ((rj_269 : Nat) : Int), aW X (Q 0) 125 s, aW X (Q 1) 125 rd, aW X (Q 2) 625 kp, aW X (Q 3) 400 tx, aW X (Q 4) 8 wi, aW X (Q 5) 8 gi].flatten H := hH
                              have hc_313 := hp271
                              obtain rfl : rj_269 = 2 := hc_313.trans (by decide)
                              refine lv_aload_n S.1 S.2.1 dX6_statement_316 rfl (lv_at hl 5 rfl) ?_
                              refine zv_get (v := .int (iI ((2 : Nat) : Int))) S hAM hH nX6_statement_X6 0 rfl rfl 7 (by decide) mX6_statement_3 rfl rfl dX6_statement_317 ?_
                              refine zv_if_ne (tgt := 336) S dX6_statement_320 (by decide) (by decide) (fun c_320 => ?_) (fun c_320 => ?_)
                              · skip
                                refine lv_goto (tgt := 344) S.1 S.2.1 dX6_statement_336 (by decide) ?_
                                have eS : stm tx lnn p rd = (2, 0, rd) := by rw [stm, if_neg c_19, if_neg c_109, if_pos c_208, stEnter, hm_212, bnd_some, hm_217, bnd_some, hm_222, bnd_some, hm_228, bnd_some, if_neg hq_236]
                                rw [eS] at hret
                                exact hret 344 ls _ _ ((sj_173 + 1), 2) dX6_statement_344 ⟨rfl, (fun z => absurd z (by decide)), (by omega)⟩ hH hS
                              · exact (show False by omega).elim
                            · skip
                              refine lv_iconst (v := iI (((1 : Nat) : Int))) S.1 S.2.1 dX6_statement_308 (by decide) ?_
                              refine lv_goto (tgt := 313) S.1 S.2.1 dX6_statement_309 (by decide) ?_
                              refine zc_Vv (n := 2) (As := [.int (iI ((0 : Nat) : Int)), .int (iI ((1 : Nat) : Int))]) (rest := []) S hAM hA (kX6_checked l X h Q s rd kp km tx lnn (sj_173 + 1) 2 wi gi 0 1 ht (by decide) (by decide) (by decide)) rfl gX6_statement_X6_checked  (by decide +kernel) ⟨Nat.le_of_ble_eq_true rfl, Nat.le_of_ble_eq_true rfl⟩ hH hS [0, 1, 2, 3, 4, 5, 6] rfl 7 rfl (List.Perm.refl _) 6 0 rfl rfl rfl hl.1 rfl (Nat.le_of_ble_eq_true rfl) dX6_statement_313 ⟨Nat.le_of_ble_eq_true rfl, Nat.le_of_ble_eq_true rfl⟩ (fun rj_272 H locs hp274 hH hS => ?_)
                              have hH : Hold X A [mO h Q km ((lnn : Nat) : Int) (((sj_173 + 1) : Nat) : Int) ((rj_272 : Nat) : Int), aW X (Q 0) 125 s, aW X (Q 1) 125 rd, aW X (Q 2) 625 kp, aW X (Q 3) 400 tx, aW X (Q 4) 8 wi, aW X (Q 5) 8 gi].flatten H := hH
                              have hc_313 := hp274
                              obtain rfl : rj_272 = 2 := hc_313.trans (by decide)
                              refine lv_aload_n S.1 S.2.1 dX6_statement_316 rfl (lv_at hl 5 rfl) ?_
                              refine zv_get (v := .int (iI ((2 : Nat) : Int))) S hAM hH nX6_statement_X6 0 rfl rfl 7 (by decide) mX6_statement_3 rfl rfl dX6_statement_317 ?_
                              refine zv_if_ne (tgt := 336) S dX6_statement_320 (by decide) (by decide) (fun c_320 => ?_) (fun c_320 => ?_)
                              · skip
                                refine lv_goto (tgt := 344) S.1 S.2.1 dX6_statement_336 (by decide) ?_
                                have eS : stm tx lnn p rd = (2, 0, rd) := by rw [stm, if_neg c_19, if_neg c_109, if_pos c_208, stEnter, hm_212, bnd_some, hm_217, bnd_some, hm_222, bnd_some, hm_228, bnd_some, if_neg hq_236]
                                rw [eS] at hret
                                exact hret 344 ls _ _ ((sj_173 + 1), 2) dX6_statement_344 ⟨rfl, (fun z => absurd z (by decide)), (by omega)⟩ hH hS
                              · exact (show False by omega).elim
                          · skip
                            refine lv_iconst (v := iI (((1 : Nat) : Int))) S.1 S.2.1 dX6_statement_291 (by decide) ?_
                            refine lv_goto (tgt := 296) S.1 S.2.1 dX6_statement_292 (by decide) ?_
                            refine lv_aload_n S.1 S.2.1 dX6_statement_296 rfl (lv_at hl 5 rfl) ?_
                            refine zv_get (v := .ref (Q 1)) S hAM hH nX6_statement_X6 0 rfl rfl 1 (by decide) mX6_statement_2 rfl rfl dX6_statement_297 ?_
                            refine lv_bipush (v := iI (((44 : Nat) : Int))) S.1 S.2.1 dX6_statement_300 (by decide) ?_
                            refine zv_iald S hAM hH 2 rfl (44) rfl (by decide) (by decide) dX6_statement_302 ?_
                            refine zv_top (z := rd 44) (z2 := ((na rd : Nat) : Int)) hrd.e44 ?_
                            refine lv_bipush (v := iI (((20 : Nat) : Int))) S.1 S.2.1 dX6_statement_303 (by decide) ?_
                            refine zv_icmp_ge (tgt := 312) S dX6_statement_305 (by decide) (by omega) (by decide) (fun c_305 => ?_) (fun c_305 => ?_)
                            · skip
                              refine lv_iconst (v := iI (((0 : Nat) : Int))) S.1 S.2.1 dX6_statement_312 (by decide) ?_
                              refine zc_Vv (n := 2) (As := [.int (iI ((1 : Nat) : Int)), .int (iI ((0 : Nat) : Int))]) (rest := []) S hAM hA (kX6_checked l X h Q s rd kp km tx lnn (sj_173 + 1) 2 wi gi 1 0 ht (by decide) (by decide) (by decide)) rfl gX6_statement_X6_checked  (by decide +kernel) ⟨Nat.le_of_ble_eq_true rfl, Nat.le_of_ble_eq_true rfl⟩ hH hS [0, 1, 2, 3, 4, 5, 6] rfl 7 rfl (List.Perm.refl _) 6 0 rfl rfl rfl hl.1 rfl (Nat.le_of_ble_eq_true rfl) dX6_statement_313 ⟨Nat.le_of_ble_eq_true rfl, Nat.le_of_ble_eq_true rfl⟩ (fun rj_275 H locs hp277 hH hS => ?_)
                              have hH : Hold X A [mO h Q km ((lnn : Nat) : Int) (((sj_173 + 1) : Nat) : Int) ((rj_275 : Nat) : Int), aW X (Q 0) 125 s, aW X (Q 1) 125 rd, aW X (Q 2) 625 kp, aW X (Q 3) 400 tx, aW X (Q 4) 8 wi, aW X (Q 5) 8 gi].flatten H := hH
                              have hc_313 := hp277
                              obtain rfl : rj_275 = 2 := hc_313.trans (by decide)
                              refine lv_aload_n S.1 S.2.1 dX6_statement_316 rfl (lv_at hl 5 rfl) ?_
                              refine zv_get (v := .int (iI ((2 : Nat) : Int))) S hAM hH nX6_statement_X6 0 rfl rfl 7 (by decide) mX6_statement_3 rfl rfl dX6_statement_317 ?_
                              refine zv_if_ne (tgt := 336) S dX6_statement_320 (by decide) (by decide) (fun c_320 => ?_) (fun c_320 => ?_)
                              · skip
                                refine lv_goto (tgt := 344) S.1 S.2.1 dX6_statement_336 (by decide) ?_
                                have eS : stm tx lnn p rd = (2, 0, rd) := by rw [stm, if_neg c_19, if_neg c_109, if_pos c_208, stEnter, hm_212, bnd_some, hm_217, bnd_some, hm_222, bnd_some, hm_228, bnd_some, if_neg hq_236]
                                rw [eS] at hret
                                exact hret 344 ls _ _ ((sj_173 + 1), 2) dX6_statement_344 ⟨rfl, (fun z => absurd z (by decide)), (by omega)⟩ hH hS
                              · exact (show False by omega).elim
                            · skip
                              refine lv_iconst (v := iI (((1 : Nat) : Int))) S.1 S.2.1 dX6_statement_308 (by decide) ?_
                              refine lv_goto (tgt := 313) S.1 S.2.1 dX6_statement_309 (by decide) ?_
                              refine zc_Vv (n := 2) (As := [.int (iI ((1 : Nat) : Int)), .int (iI ((1 : Nat) : Int))]) (rest := []) S hAM hA (kX6_checked l X h Q s rd kp km tx lnn (sj_173 + 1) 2 wi gi 1 1 ht (by decide) (by decide) (by decide)) rfl gX6_statement_X6_checked  (by decide +kernel) ⟨Nat.le_of_ble_eq_true rfl, Nat.le_of_ble_eq_true rfl⟩ hH hS [0, 1, 2, 3, 4, 5, 6] rfl 7 rfl (List.Perm.refl _) 6 0 rfl rfl rfl hl.1 rfl (Nat.le_of_ble_eq_true rfl) dX6_statement_313 ⟨Nat.le_of_ble_eq_true rfl, Nat.le_of_ble_eq_true rfl⟩ (fun rj_278 H locs hp280 hH hS => ?_)
                              have hH : Hold X A [mO h Q km ((lnn : Nat) : Int) (((sj_173 + 1) : Nat) : Int) ((rj_278 : Nat) : Int), aW X (Q 0) 125 s, aW X (Q 1) 125 rd, aW X (Q 2) 625 kp, aW X (Q 3) 400 tx, aW X (Q 4) 8 wi, aW X (Q 5) 8 gi].flatten H := hH
                              have hc_313 := hp280
                              obtain rfl : rj_278 = 2 := hc_313.trans (by decide)
                              refine lv_aload_n S.1 S.2.1 dX6_statement_316 rfl (lv_at hl 5 rfl) ?_
                              refine zv_get (v := .int (iI ((2 : Nat) : Int))) S hAM hH nX6_statement_X6 0 rfl rfl 7 (by decide) mX6_statement_3 rfl rfl dX6_statement_317 ?_
                              refine zv_if_ne (tgt := 336) S dX6_statement_320 (by decide) (by decide) (fun c_320 => ?_) (fun c_320 => ?_)
                              · skip
                                refine lv_goto (tgt := 344) S.1 S.2.1 dX6_statement_336 (by decide) ?_
                                have eS : stm tx lnn p rd = (2, 0, rd) := by rw [stm, if_neg c_19, if_neg c_109, if_pos c_208, stEnter, hm_212, bnd_some, hm_217, bnd_some, hm_222, bnd_some, hm_228, bnd_some, if_neg hq_236]
                                rw [eS] at hret
                                exact hret 344 ls _ _ ((sj_173 + 1), 2) dX6_statement_344 ⟨rfl, (fun z => absurd z (by decide)), (by omega)⟩ hH hS
                              · exact (show False by omega).elim
    · skip
      refine lv_aload_n S.1 S.2.1 dX6_statement_112 rfl (lv_at hl 1 rfl) ?_
      refine zc_Vi (n := 0) (As := []) (rest := []) S hAM hA (kX6_voice l X h Q s rd kp km tx lnn (we tx lnn p) wi gi ht (by omega)) rfl gX6_statement_X6_voice  (by decide +kernel) ⟨Nat.le_of_ble_eq_true rfl, Nat.le_of_ble_eq_true rfl⟩ hH hS [0, 1, 2, 3, 4, 5, 6] rfl 7 rfl (List.Perm.refl _) 6 0 rfl rfl rfl hl.1 rfl (Nat.le_of_ble_eq_true rfl) dX6_statement_113 ⟨Nat.le_of_ble_eq_true rfl, Nat.le_of_ble_eq_true rfl⟩ (fun z284 u283 H locs hp285 hH hS => ?_)
      obtain ⟨sj_281, rj_282⟩ := u283
      have hH : Hold X A [mO h Q km ((lnn : Nat) : Int) ((sj_281 : Nat) : Int) ((rj_282 : Nat) : Int), aW X (Q 0) 125 s, aW X (Q 1) 125 rd, aW X (Q 2) 625 kp, aW X (Q 3) 400 tx, aW X (Q 4) 8 wi, aW X (Q 5) 8 gi].flatten H := hH
      have hv_113 := hp285
      rcases hv_113 with ⟨rfl, rfl, hb_113, q1⟩ | ⟨rfl, rfl, rfl, q1, q2⟩ | ⟨rfl, rfl, rfl, q1, q2, q3⟩ | ⟨rfl, rfl, rfl, q1, q2, q3, q4⟩ | ⟨rfl, rfl, rfl, q1, q2, q3, q4⟩
      · skip
        refine zv_top (z := 0) (z2 := ((0 : Nat) : Int)) rfl ?_
        have hw5 := we_le tx lnn _ ((we tx lnn p) + 1) rfl
        refine lv_istore_n (lv' := [(2, .int (iI ((0 : Nat) : Int))), (1, .int (iI (wdV tx p (we tx lnn p - p)))), (0, .ref (h))]) S.1 S.2.1 dX6_statement_116 rfl hl (by decide) rfl (fun ls hl => ?_)
        refine lv_aload_n S.1 S.2.1 dX6_statement_117 rfl (lv_at hl 2 rfl) ?_
        refine zc_Vi (n := 0) (As := []) (rest := []) S hAM hA (kX6_number l X h Q s rd kp km tx lnn sj_281 2 wi gi ht (by omega) (by omega) (by omega)) rfl gX6_statement_X6_number  (by decide +kernel) ⟨Nat.le_of_ble_eq_true rfl, Nat.le_of_ble_eq_true rfl⟩ hH hS [0, 1, 2, 3, 4, 5, 6] rfl 7 rfl (List.Perm.refl _) 6 0 rfl rfl rfl hl.1 rfl (Nat.le_of_ble_eq_true rfl) dX6_statement_118 ⟨Nat.le_of_ble_eq_true rfl, Nat.le_of_ble_eq_true rfl⟩ (fun z290 u289 H locs hp291 hH hS => ?_)
        obtain ⟨zz_286, sj_287, rj_288⟩ := u289
        have hH : Hold X A [mO h Q km ((lnn : Nat) : Int) ((sj_287 : Nat) : Int) ((rj_288 : Nat) : Int), aW X (Q 0) 125 s, aW X (Q 1) 125 rd, aW X (Q 2) 625 kp, aW X (Q 3) 400 tx, aW X (Q 4) 8 wi, aW X (Q 5) 8 gi].flatten H := hH
        obtain ⟨rfl, hz_118, hn_118⟩ := hp291
        rcases hn_118 with ⟨-, rfl, rfl⟩ | ⟨q1, -⟩ | ⟨q1, -⟩
        · skip
          refine lv_istore_n (lv' := [(3, .int (iI ((zz_286 : Nat) : Int))), (2, .int (iI ((0 : Nat) : Int))), (1, .int (iI (wdV tx p (we tx lnn p - p)))), (0, .ref (h))]) S.1 S.2.1 dX6_statement_121 rfl hl (by decide) rfl (fun ls hl => ?_)
          refine lv_aload_n S.1 S.2.1 dX6_statement_122 rfl (lv_at hl 3 rfl) ?_
          refine zc_Vi (n := 0) (As := []) (rest := []) S hAM hA (kX6_number l X h Q s rd kp km tx lnn sj_281 2 wi gi ht (by omega) (by omega) (by omega)) rfl gX6_statement_X6_number  (by decide +kernel) ⟨Nat.le_of_ble_eq_true rfl, Nat.le_of_ble_eq_true rfl⟩ hH hS [0, 1, 2, 3, 4, 5, 6] rfl 7 rfl (List.Perm.refl _) 6 0 rfl rfl rfl hl.1 rfl (Nat.le_of_ble_eq_true rfl) dX6_statement_123 ⟨Nat.le_of_ble_eq_true rfl, Nat.le_of_ble_eq_true rfl⟩ (fun z296 u295 H locs hp297 hH hS => ?_)
          obtain ⟨zz_292, sj_293, rj_294⟩ := u295
          have hH : Hold X A [mO h Q km ((lnn : Nat) : Int) ((sj_293 : Nat) : Int) ((rj_294 : Nat) : Int), aW X (Q 0) 125 s, aW X (Q 1) 125 rd, aW X (Q 2) 625 kp, aW X (Q 3) 400 tx, aW X (Q 4) 8 wi, aW X (Q 5) 8 gi].flatten H := hH
          obtain ⟨rfl, hz_123, hn_123⟩ := hp297
          rcases hn_123 with ⟨-, rfl, rfl⟩ | ⟨q1, -⟩ | ⟨q1, -⟩
          · skip
            refine lv_istore (lv' := [(4, .int (iI ((zz_292 : Nat) : Int))), (3, .int (iI ((zz_286 : Nat) : Int))), (2, .int (iI ((0 : Nat) : Int))), (1, .int (iI (wdV tx p (we tx lnn p - p)))), (0, .ref (h))]) S.1 S.2.1 dX6_statement_126 hl (by decide) rfl (fun ls hl => ?_)
            refine lv_aload_n S.1 S.2.1 dX6_statement_128 rfl (lv_at hl 4 rfl) ?_
            refine lv_bipush (v := iI (((59 : Nat) : Int))) S.1 S.2.1 dX6_statement_129 (by decide) ?_
            refine zc_Vv (n := 1) (As := [.int (iI ((59 : Nat) : Int))]) (rest := []) S hAM hA (kX6_wants l X h Q s rd kp km tx lnn sj_281 2 wi gi 59 ht (by decide) (by omega) (by omega)) rfl gX6_statement_X6_wants  (by decide +kernel) ⟨Nat.le_of_ble_eq_true rfl, Nat.le_of_ble_eq_true rfl⟩ hH hS [0, 1, 2, 3, 4, 5, 6] rfl 7 rfl (List.Perm.refl _) 6 0 rfl rfl rfl hl.1 rfl (Nat.le_of_ble_eq_true rfl) dX6_statement_131 ⟨Nat.le_of_ble_eq_true rfl, Nat.le_of_ble_eq_true rfl⟩ (fun u300 H locs hp302 hH hS => ?_)
            obtain ⟨sj_298, rj_299⟩ := u300
            have hH : Hold X A [mO h Q km ((lnn : Nat) : Int) ((sj_298 : Nat) : Int) ((rj_299 : Nat) : Int), aW X (Q 0) 125 s, aW X (Q 1) 125 rd, aW X (Q 2) 625 kp, aW X (Q 3) 400 tx, aW X (Q 4) 8 wi, aW X (Q 5) 8 gi].flatten H := hH
            have hw_131 := hp302
            rcases hw_131 with ⟨-, rfl, rfl⟩ | ⟨q1, -⟩ | ⟨q1, -⟩
            · skip
              refine lv_aload_n S.1 S.2.1 dX6_statement_134 rfl (lv_at hl 4 rfl) ?_
              refine lv_iload_n S.1 S.2.1 dX6_statement_135 rfl (lv_at hl 1 rfl) ?_
              refine lv_bipush (v := iI (((60 : Nat) : Int))) S.1 S.2.1 dX6_statement_136 (by decide) ?_
              refine zv_icmp_gt (tgt := 152) S dX6_statement_138 (by decide) (by omega) (by decide) (fun c_138 => ?_) (fun c_138 => ?_)
              · skip
                refine lv_iconst (v := iI (((0 : Nat) : Int))) S.1 S.2.1 dX6_statement_152 (by decide) ?_
                refine lv_aload_n S.1 S.2.1 dX6_statement_153 rfl (lv_at hl 4 rfl) ?_
                refine zv_get (v := .ref (Q 1)) S hAM hH nX6_statement_X6 0 rfl rfl 1 (by decide) mX6_statement_2 rfl rfl dX6_statement_154 ?_
                refine lv_bipush (v := iI (((11 : Nat) : Int))) S.1 S.2.1 dX6_statement_157 (by decide) ?_
                refine zv_iald S hAM hH 2 rfl (11) rfl (by decide) (by decide) dX6_statement_159 ?_
                refine zv_top (z := rd 11) (z2 := ((nr rd : Nat) : Int)) hrd.e11 ?_
                refine lv_bipush (v := iI (((8 : Nat) : Int))) S.1 S.2.1 dX6_statement_160 (by decide) ?_
                refine zv_icmp_ge (tgt := 169) S dX6_statement_162 (by decide) (by omega) (by decide) (fun c_162 => ?_) (fun c_162 => ?_)
                · skip
                  refine lv_iconst (v := iI (((0 : Nat) : Int))) S.1 S.2.1 dX6_statement_169 (by decide) ?_
                  refine zc_Vv (n := 2) (As := [.int (iI ((0 : Nat) : Int)), .int (iI ((0 : Nat) : Int))]) (rest := []) S hAM hA (kX6_checked l X h Q s rd kp km tx lnn sj_281 2 wi gi 0 0 ht (by decide) (by decide) (by decide)) rfl gX6_statement_X6_checked  (by decide +kernel) ⟨Nat.le_of_ble_eq_true rfl, Nat.le_of_ble_eq_true rfl⟩ hH hS [0, 1, 2, 3, 4, 5, 6] rfl 7 rfl (List.Perm.refl _) 6 0 rfl rfl rfl hl.1 rfl (Nat.le_of_ble_eq_true rfl) dX6_statement_170 ⟨Nat.le_of_ble_eq_true rfl, Nat.le_of_ble_eq_true rfl⟩ (fun rj_303 H locs hp305 hH hS => ?_)
                  have hH : Hold X A [mO h Q km ((lnn : Nat) : Int) ((sj_281 : Nat) : Int) ((rj_303 : Nat) : Int), aW X (Q 0) 125 s, aW X (Q 1) 125 rd, aW X (Q 2) 625 kp, aW X (Q 3) 400 tx, aW X (Q 4) 8 wi, aW X (Q 5) 8 gi].flatten H := hH
                  have hc_170 := hp305
                  obtain rfl : rj_303 = 2 := hc_170.trans (by decide)
                  refine lv_aload_n S.1 S.2.1 dX6_statement_173 rfl (lv_at hl 4 rfl) ?_
                  refine zv_get (v := .int (iI ((2 : Nat) : Int))) S hAM hH nX6_statement_X6 0 rfl rfl 7 (by decide) mX6_statement_3 rfl rfl dX6_statement_174 ?_
                  refine zv_if_ne (tgt := 191) S dX6_statement_177 (by decide) (by decide) (fun c_177 => ?_) (fun c_177 => ?_)
                  · skip
                    refine lv_goto (tgt := 344) S.1 S.2.1 dX6_statement_191 (by decide) ?_
                    have eS : stm tx lnn p rd = (2, 0, rd) := by rw [stm, if_neg c_19, if_pos c_109, stRole, if_neg q1]
                    rw [eS] at hret
                    exact hret 344 ls _ _ (sj_281, 2) dX6_statement_344 ⟨rfl, (fun z => absurd z (by decide)), (by omega)⟩ hH hS
                  · exact (show False by omega).elim
                · skip
                  refine lv_iconst (v := iI (((1 : Nat) : Int))) S.1 S.2.1 dX6_statement_165 (by decide) ?_
                  refine lv_goto (tgt := 170) S.1 S.2.1 dX6_statement_166 (by decide) ?_
                  refine zc_Vv (n := 2) (As := [.int (iI ((0 : Nat) : Int)), .int (iI ((1 : Nat) : Int))]) (rest := []) S hAM hA (kX6_checked l X h Q s rd kp km tx lnn sj_281 2 wi gi 0 1 ht (by decide) (by decide) (by decide)) rfl gX6_statement_X6_checked  (by decide +kernel) ⟨Nat.le_of_ble_eq_true rfl, Nat.le_of_ble_eq_true rfl⟩ hH hS [0, 1, 2, 3, 4, 5, 6] rfl 7 rfl (List.Perm.refl _) 6 0 rfl rfl rfl hl.1 rfl (Nat.le_of_ble_eq_true rfl) dX6_statement_170 ⟨Nat.le_of_ble_eq_true rfl, Nat.le_of_ble_eq_true rfl⟩ (fun rj_306 H locs hp308 hH hS => ?_)
                  have hH : Hold X A [mO h Q km ((lnn : Nat) : Int) ((sj_281 : Nat) : Int) ((rj_306 : Nat) : Int), aW X (Q 0) 125 s, aW X (Q 1) 125 rd, aW X (Q 2) 625 kp, aW X (Q 3) 400 tx, aW X (Q 4) 8 wi, aW X (Q 5) 8 gi].flatten H := hH
                  have hc_170 := hp308
                  obtain rfl : rj_306 = 2 := hc_170.trans (by decide)
                  refine lv_aload_n S.1 S.2.1 dX6_statement_173 rfl (lv_at hl 4 rfl) ?_
                  refine zv_get (v := .int (iI ((2 : Nat) : Int))) S hAM hH nX6_statement_X6 0 rfl rfl 7 (by decide) mX6_statement_3 rfl rfl dX6_statement_174 ?_
                  refine zv_if_ne (tgt := 191) S dX6_statement_177 (by decide) (by decide) (fun c_177 => ?_) (fun c_177 => ?_)
                  · skip
                    refine lv_goto (tgt := 344) S.1 S.2.1 dX6_statement_191 (by decide) ?_
                    have eS : stm tx lnn p rd = (2, 0, rd) := by rw [stm, if_neg c_19, if_pos c_109, stRole, if_neg q1]
                    rw [eS] at hret
                    exact hret 344 ls _ _ (sj_281, 2) dX6_statement_344 ⟨rfl, (fun z => absurd z (by decide)), (by omega)⟩ hH hS
                  · exact (show False by omega).elim
              · skip
                refine lv_iload S.1 S.2.1 dX6_statement_141 (lv_at hl 0 rfl) ?_
                refine lv_bipush (v := iI (((60 : Nat) : Int))) S.1 S.2.1 dX6_statement_143 (by decide) ?_
                refine zv_icmp_gt (tgt := 152) S dX6_statement_145 (by decide) (by omega) (by decide) (fun c_145 => ?_) (fun c_145 => ?_)
                · skip
                  refine lv_iconst (v := iI (((0 : Nat) : Int))) S.1 S.2.1 dX6_statement_152 (by decide) ?_
                  refine lv_aload_n S.1 S.2.1 dX6_statement_153 rfl (lv_at hl 4 rfl) ?_
                  refine zv_get (v := .ref (Q 1)) S hAM hH nX6_statement_X6 0 rfl rfl 1 (by decide) mX6_statement_2 rfl rfl dX6_statement_154 ?_
                  refine lv_bipush (v := iI (((11 : Nat) : Int))) S.1 S.2.1 dX6_statement_157 (by decide) ?_
                  refine zv_iald S hAM hH 2 rfl (11) rfl (by decide) (by decide) dX6_statement_159 ?_
                  refine zv_top (z := rd 11) (z2 := ((nr rd : Nat) : Int)) hrd.e11 ?_
                  refine lv_bipush (v := iI (((8 : Nat) : Int))) S.1 S.2.1 dX6_statement_160 (by decide) ?_
                  refine zv_icmp_ge (tgt := 169) S dX6_statement_162 (by decide) (by omega) (by decide) (fun c_162 => ?_) (fun c_162 => ?_)
                  · skip
                    refine lv_iconst (v := iI (((0 : Nat) : Int))) S.1 S.2.1 dX6_statement_169 (by decide) ?_
                    refine zc_Vv (n := 2) (As := [.int (iI ((0 : Nat) : Int)), .int (iI ((0 : Nat) : Int))]) (rest := []) S hAM hA (kX6_checked l X h Q s rd kp km tx lnn sj_281 2 wi gi 0 0 ht (by decide) (by decide) (by decide)) rfl gX6_statement_X6_checked  (by decide +kernel) ⟨Nat.le_of_ble_eq_true rfl, Nat.le_of_ble_eq_true rfl⟩ hH hS [0, 1, 2, 3, 4, 5, 6] rfl 7 rfl (List.Perm.refl _) 6 0 rfl rfl rfl hl.1 rfl (Nat.le_of_ble_eq_true rfl) dX6_statement_170 ⟨Nat.le_of_ble_eq_true rfl, Nat.le_of_ble_eq_true rfl⟩ (fun rj_309 H locs hp311 hH hS => ?_)
                    have hH : Hold X A [mO h Q km ((lnn : Nat) : Int) ((sj_281 : Nat) : Int) ((rj_309 : Nat) : Int), aW X (Q 0) 125 s, aW X (Q 1) 125 rd, aW X (Q 2) 625 kp, aW X (Q 3) 400 tx, aW X (Q 4) 8 wi, aW X (Q 5) 8 gi].flatten H := hH
                    have hc_170 := hp311
                    obtain rfl : rj_309 = 2 := hc_170.trans (by decide)
                    refine lv_aload_n S.1 S.2.1 dX6_statement_173 rfl (lv_at hl 4 rfl) ?_
                    refine zv_get (v := .int (iI ((2 : Nat) : Int))) S hAM hH nX6_statement_X6 0 rfl rfl 7 (by decide) mX6_statement_3 rfl rfl dX6_statement_174 ?_
                    refine zv_if_ne (tgt := 191) S dX6_statement_177 (by decide) (by decide) (fun c_177 => ?_) (fun c_177 => ?_)
                    · skip
                      refine lv_goto (tgt := 344) S.1 S.2.1 dX6_statement_191 (by decide) ?_
                      have eS : stm tx lnn p rd = (2, 0, rd) := by rw [stm, if_neg c_19, if_pos c_109, stRole, if_neg q1]
                      rw [eS] at hret
                      exact hret 344 ls _ _ (sj_281, 2) dX6_statement_344 ⟨rfl, (fun z => absurd z (by decide)), (by omega)⟩ hH hS
                    · exact (show False by omega).elim
                  · skip
                    refine lv_iconst (v := iI (((1 : Nat) : Int))) S.1 S.2.1 dX6_statement_165 (by decide) ?_
                    refine lv_goto (tgt := 170) S.1 S.2.1 dX6_statement_166 (by decide) ?_
                    refine zc_Vv (n := 2) (As := [.int (iI ((0 : Nat) : Int)), .int (iI ((1 : Nat) : Int))]) (rest := []) S hAM hA (kX6_checked l X h Q s rd kp km tx lnn sj_281 2 wi gi 0 1 ht (by decide) (by decide) (by decide)) rfl gX6_statement_X6_checked  (by decide +kernel) ⟨Nat.le_of_ble_eq_true rfl, Nat.le_of_ble_eq_true rfl⟩ hH hS [0, 1, 2, 3, 4, 5, 6] rfl 7 rfl (List.Perm.refl _) 6 0 rfl rfl rfl hl.1 rfl (Nat.le_of_ble_eq_true rfl) dX6_statement_170 ⟨Nat.le_of_ble_eq_true rfl, Nat.le_of_ble_eq_true rfl⟩ (fun rj_312 H locs hp314 hH hS => ?_)
                    have hH : Hold X A [mO h Q km ((lnn : Nat) : Int) ((sj_281 : Nat) : Int) ((rj_312 : Nat) : Int), aW X (Q 0) 125 s, aW X (Q 1) 125 rd, aW X (Q 2) 625 kp, aW X (Q 3) 400 tx, aW X (Q 4) 8 wi, aW X (Q 5) 8 gi].flatten H := hH
                    have hc_170 := hp314
                    obtain rfl : rj_312 = 2 := hc_170.trans (by decide)
                    refine lv_aload_n S.1 S.2.1 dX6_statement_173 rfl (lv_at hl 4 rfl) ?_
                    refine zv_get (v := .int (iI ((2 : Nat) : Int))) S hAM hH nX6_statement_X6 0 rfl rfl 7 (by decide) mX6_statement_3 rfl rfl dX6_statement_174 ?_
                    refine zv_if_ne (tgt := 191) S dX6_statement_177 (by decide) (by decide) (fun c_177 => ?_) (fun c_177 => ?_)
                    · skip
                      refine lv_goto (tgt := 344) S.1 S.2.1 dX6_statement_191 (by decide) ?_
                      have eS : stm tx lnn p rd = (2, 0, rd) := by rw [stm, if_neg c_19, if_pos c_109, stRole, if_neg q1]
                      rw [eS] at hret
                      exact hret 344 ls _ _ (sj_281, 2) dX6_statement_344 ⟨rfl, (fun z => absurd z (by decide)), (by omega)⟩ hH hS
                    · exact (show False by omega).elim
                · skip
                  refine lv_iconst (v := iI (((1 : Nat) : Int))) S.1 S.2.1 dX6_statement_148 (by decide) ?_
                  refine lv_goto (tgt := 153) S.1 S.2.1 dX6_statement_149 (by decide) ?_
                  refine lv_aload_n S.1 S.2.1 dX6_statement_153 rfl (lv_at hl 4 rfl) ?_
                  refine zv_get (v := .ref (Q 1)) S hAM hH nX6_statement_X6 0 rfl rfl 1 (by decide) mX6_statement_2 rfl rfl dX6_statement_154 ?_
                  refine lv_bipush (v := iI (((11 : Nat) : Int))) S.1 S.2.1 dX6_statement_157 (by decide) ?_
                  refine zv_iald S hAM hH 2 rfl (11) rfl (by decide) (by decide) dX6_statement_159 ?_
                  refine zv_top (z := rd 11) (z2 := ((nr rd : Nat) : Int)) hrd.e11 ?_
                  refine lv_bipush (v := iI (((8 : Nat) : Int))) S.1 S.2.1 dX6_statement_160 (by decide) ?_
                  refine zv_icmp_ge (tgt := 169) S dX6_statement_162 (by decide) (by omega) (by decide) (fun c_162 => ?_) (fun c_162 => ?_)
                  · skip
                    refine lv_iconst (v := iI (((0 : Nat) : Int))) S.1 S.2.1 dX6_statement_169 (by decide) ?_
                    refine zc_Vv (n := 2) (As := [.int (iI ((1 : Nat) : Int)), .int (iI ((0 : Nat) : Int))]) (rest := []) S hAM hA (kX6_checked l X h Q s rd kp km tx lnn sj_281 2 wi gi 1 0 ht (by decide) (by decide) (by decide)) rfl gX6_statement_X6_checked  (by decide +kernel) ⟨Nat.le_of_ble_eq_true rfl, Nat.le_of_ble_eq_true rfl⟩ hH hS [0, 1, 2, 3, 4, 5, 6] rfl 7 rfl (List.Perm.refl _) 6 0 rfl rfl rfl hl.1 rfl (Nat.le_of_ble_eq_true rfl) dX6_statement_170 ⟨Nat.le_of_ble_eq_true rfl, Nat.le_of_ble_eq_true rfl⟩ (fun rj_315 H locs hp317 hH hS => ?_)
                    have hH : Hold X A [mO h Q km ((lnn : Nat) : Int) ((sj_281 : Nat) : Int) ((rj_315 : Nat) : Int), aW X (Q 0) 125 s, aW X (Q 1) 125 rd, aW X (Q 2) 625 kp, aW X (Q 3) 400 tx, aW X (Q 4) 8 wi, aW X (Q 5) 8 gi].flatten H := hH
                    have hc_170 := hp317
                    obtain rfl : rj_315 = 2 := hc_170.trans (by decide)
                    refine lv_aload_n S.1 S.2.1 dX6_statement_173 rfl (lv_at hl 4 rfl) ?_
                    refine zv_get (v := .int (iI ((2 : Nat) : Int))) S hAM hH nX6_statement_X6 0 rfl rfl 7 (by decide) mX6_statement_3 rfl rfl dX6_statement_174 ?_
                    refine zv_if_ne (tgt := 191) S dX6_statement_177 (by decide) (by decide) (fun c_177 => ?_) (fun c_177 => ?_)
                    · skip
                      refine lv_goto (tgt := 344) S.1 S.2.1 dX6_statement_191 (by decide) ?_
                      have eS : stm tx lnn p rd = (2, 0, rd) := by rw [stm, if_neg c_19, if_pos c_109, stRole, if_neg q1]
                      rw [eS] at hret
                      exact hret 344 ls _ _ (sj_281, 2) dX6_statement_344 ⟨rfl, (fun z => absurd z (by decide)), (by omega)⟩ hH hS
                    · exact (show False by omega).elim
                  · skip
                    refine lv_iconst (v := iI (((1 : Nat) : Int))) S.1 S.2.1 dX6_statement_165 (by decide) ?_
                    refine lv_goto (tgt := 170) S.1 S.2.1 dX6_statement_166 (by decide) ?_
                    refine zc_Vv (n := 2) (As := [.int (iI ((1 : Nat) : Int)), .int (iI ((1 : Nat) : Int))]) (rest := []) S hAM hA (kX6_checked l X h Q s rd kp km tx lnn sj_281 2 wi gi 1 1 ht (by decide) (by decide) (by decide)) rfl gX6_statement_X6_checked  (by decide +kernel) ⟨Nat.le_of_ble_eq_true rfl, Nat.le_of_ble_eq_true rfl⟩ hH hS [0, 1, 2, 3, 4, 5, 6] rfl 7 rfl (List.Perm.refl _) 6 0 rfl rfl rfl hl.1 rfl (Nat.le_of_ble_eq_true rfl) dX6_statement_170 ⟨Nat.le_of_ble_eq_true rfl, Nat.le_of_ble_eq_true rfl⟩ (fun rj_318 H locs hp320 hH hS => ?_)
                    have hH : Hold X A [mO h Q km ((lnn : Nat) : Int) ((sj_281 : Nat) : Int) ((rj_318 : Nat) : Int), aW X (Q 0) 125 s, aW X (Q 1) 125 rd, aW X (Q 2) 625 kp, aW X (Q 3) 400 tx, aW X (Q 4) 8 wi, aW X (Q 5) 8 gi].flatten H := hH
                    have hc_170 := hp320
                    obtain rfl : rj_318 = 2 := hc_170.trans (by decide)
                    refine lv_aload_n S.1 S.2.1 dX6_statement_173 rfl (lv_at hl 4 rfl) ?_
                    refine zv_get (v := .int (iI ((2 : Nat) : Int))) S hAM hH nX6_statement_X6 0 rfl rfl 7 (by decide) mX6_statement_3 rfl rfl dX6_statement_174 ?_
                    refine zv_if_ne (tgt := 191) S dX6_statement_177 (by decide) (by decide) (fun c_177 => ?_) (fun c_177 => ?_)
                    · skip
                      refine lv_goto (tgt := 344) S.1 S.2.1 dX6_statement_191 (by decide) ?_
                      have eS : stm tx lnn p rd = (2, 0, rd) := by rw [stm, if_neg c_19, if_pos c_109, stRole, if_neg q1]
                      rw [eS] at hret
                      exact hret 344 ls _ _ (sj_281, 2) dX6_statement_344 ⟨rfl, (fun z => absurd z (by decide)), (by omega)⟩ hH hS
                    · exact (show False by omega).elim
            · exact absurd q1 (by decide)
            · exact absurd q1 (by decide)
          · exact absurd q1 (by decide)
          · exact absurd q1 (by decide)
        · exact absurd q1 (by decide)
        · exact absurd q1 (by decide)
      · skip
        refine zv_top (z := 0) (z2 := ((0 : Nat) : Int)) rfl ?_
        have hw5 := we_le tx lnn _ ((we tx lnn p) + 1) rfl
        refine lv_istore_n (lv' := [(2, .int (iI ((0 : Nat) : Int))), (1, .int (iI (wdV tx p (we tx lnn p - p)))), (0, .ref (h))]) S.1 S.2.1 dX6_statement_116 rfl hl (by decide) rfl (fun ls hl => ?_)
        refine lv_aload_n S.1 S.2.1 dX6_statement_117 rfl (lv_at hl 2 rfl) ?_
        refine zc_Vi (n := 0) (As := []) (rest := []) S hAM hA (kX6_number l X h Q s rd kp km tx lnn (we tx lnn ((we tx lnn p) + 1)) 0 wi gi ht (by omega) (by omega) (by omega)) rfl gX6_statement_X6_number  (by decide +kernel) ⟨Nat.le_of_ble_eq_true rfl, Nat.le_of_ble_eq_true rfl⟩ hH hS [0, 1, 2, 3, 4, 5, 6] rfl 7 rfl (List.Perm.refl _) 6 0 rfl rfl rfl hl.1 rfl (Nat.le_of_ble_eq_true rfl) dX6_statement_118 ⟨Nat.le_of_ble_eq_true rfl, Nat.le_of_ble_eq_true rfl⟩ (fun z325 u324 H locs hp326 hH hS => ?_)
        obtain ⟨zz_321, sj_322, rj_323⟩ := u324
        have hH : Hold X A [mO h Q km ((lnn : Nat) : Int) ((sj_322 : Nat) : Int) ((rj_323 : Nat) : Int), aW X (Q 0) 125 s, aW X (Q 1) 125 rd, aW X (Q 2) 625 kp, aW X (Q 3) 400 tx, aW X (Q 4) 8 wi, aW X (Q 5) 8 gi].flatten H := hH
        obtain ⟨rfl, hz_118, hn_118⟩ := hp326
        rcases hn_118 with ⟨q1, -⟩ | ⟨-, rfl, hm_118, hb_118⟩ | ⟨-, rfl, hm_118, hb_118⟩
        · exact absurd rfl q1
        · skip
          refine lv_istore_n (lv' := [(3, .int (iI ((zz_321 : Nat) : Int))), (2, .int (iI ((0 : Nat) : Int))), (1, .int (iI (wdV tx p (we tx lnn p - p)))), (0, .ref (h))]) S.1 S.2.1 dX6_statement_121 rfl hl (by decide) rfl (fun ls hl => ?_)
          refine lv_aload_n S.1 S.2.1 dX6_statement_122 rfl (lv_at hl 3 rfl) ?_
          refine zc_Vi (n := 0) (As := []) (rest := []) S hAM hA (kX6_number l X h Q s rd kp km tx lnn sj_322 2 wi gi ht (by omega) (by omega) (by omega)) rfl gX6_statement_X6_number  (by decide +kernel) ⟨Nat.le_of_ble_eq_true rfl, Nat.le_of_ble_eq_true rfl⟩ hH hS [0, 1, 2, 3, 4, 5, 6] rfl 7 rfl (List.Perm.refl _) 6 0 rfl rfl rfl hl.1 rfl (Nat.le_of_ble_eq_true rfl) dX6_statement_123 ⟨Nat.le_of_ble_eq_true rfl, Nat.le_of_ble_eq_true rfl⟩ (fun z331 u330 H locs hp332 hH hS => ?_)
          obtain ⟨zz_327, sj_328, rj_329⟩ := u330
          have hH : Hold X A [mO h Q km ((lnn : Nat) : Int) ((sj_328 : Nat) : Int) ((rj_329 : Nat) : Int), aW X (Q 0) 125 s, aW X (Q 1) 125 rd, aW X (Q 2) 625 kp, aW X (Q 3) 400 tx, aW X (Q 4) 8 wi, aW X (Q 5) 8 gi].flatten H := hH
          obtain ⟨rfl, hz_123, hn_123⟩ := hp332
          rcases hn_123 with ⟨-, rfl, rfl⟩ | ⟨q1, -⟩ | ⟨q1, -⟩
          · skip
            refine lv_istore (lv' := [(4, .int (iI ((zz_327 : Nat) : Int))), (3, .int (iI ((zz_321 : Nat) : Int))), (2, .int (iI ((0 : Nat) : Int))), (1, .int (iI (wdV tx p (we tx lnn p - p)))), (0, .ref (h))]) S.1 S.2.1 dX6_statement_126 hl (by decide) rfl (fun ls hl => ?_)
            refine lv_aload_n S.1 S.2.1 dX6_statement_128 rfl (lv_at hl 4 rfl) ?_
            refine lv_bipush (v := iI (((59 : Nat) : Int))) S.1 S.2.1 dX6_statement_129 (by decide) ?_
            refine zc_Vv (n := 1) (As := [.int (iI ((59 : Nat) : Int))]) (rest := []) S hAM hA (kX6_wants l X h Q s rd kp km tx lnn sj_322 2 wi gi 59 ht (by decide) (by omega) (by omega)) rfl gX6_statement_X6_wants  (by decide +kernel) ⟨Nat.le_of_ble_eq_true rfl, Nat.le_of_ble_eq_true rfl⟩ hH hS [0, 1, 2, 3, 4, 5, 6] rfl 7 rfl (List.Perm.refl _) 6 0 rfl rfl rfl hl.1 rfl (Nat.le_of_ble_eq_true rfl) dX6_statement_131 ⟨Nat.le_of_ble_eq_true rfl, Nat.le_of_ble_eq_true rfl⟩ (fun u335 H locs hp337 hH hS => ?_)
            obtain ⟨sj_333, rj_334⟩ := u335
            have hH : Hold X A [mO h Q km ((lnn : Nat) : Int) ((sj_333 : Nat) : Int) ((rj_334 : Nat) : Int), aW X (Q 0) 125 s, aW X (Q 1) 125 rd, aW X (Q 2) 625 kp, aW X (Q 3) 400 tx, aW X (Q 4) 8 wi, aW X (Q 5) 8 gi].flatten H := hH
            have hw_131 := hp337
            rcases hw_131 with ⟨-, rfl, rfl⟩ | ⟨q1, -⟩ | ⟨q1, -⟩
            · skip
              refine lv_aload_n S.1 S.2.1 dX6_statement_134 rfl (lv_at hl 4 rfl) ?_
              refine lv_iload_n S.1 S.2.1 dX6_statement_135 rfl (lv_at hl 1 rfl) ?_
              refine lv_bipush (v := iI (((60 : Nat) : Int))) S.1 S.2.1 dX6_statement_136 (by decide) ?_
              refine zv_icmp_gt (tgt := 152) S dX6_statement_138 (by decide) (by omega) (by decide) (fun c_138 => ?_) (fun c_138 => ?_)
              · skip
                refine lv_iconst (v := iI (((0 : Nat) : Int))) S.1 S.2.1 dX6_statement_152 (by decide) ?_
                refine lv_aload_n S.1 S.2.1 dX6_statement_153 rfl (lv_at hl 4 rfl) ?_
                refine zv_get (v := .ref (Q 1)) S hAM hH nX6_statement_X6 0 rfl rfl 1 (by decide) mX6_statement_2 rfl rfl dX6_statement_154 ?_
                refine lv_bipush (v := iI (((11 : Nat) : Int))) S.1 S.2.1 dX6_statement_157 (by decide) ?_
                refine zv_iald S hAM hH 2 rfl (11) rfl (by decide) (by decide) dX6_statement_159 ?_
                refine zv_top (z := rd 11) (z2 := ((nr rd : Nat) : Int)) hrd.e11 ?_
                refine lv_bipush (v := iI (((8 : Nat) : Int))) S.1 S.2.1 dX6_statement_160 (by decide) ?_
                refine zv_icmp_ge (tgt := 169) S dX6_statement_162 (by decide) (by omega) (by decide) (fun c_162 => ?_) (fun c_162 => ?_)
                · skip
                  refine lv_iconst (v := iI (((0 : Nat) : Int))) S.1 S.2.1 dX6_statement_169 (by decide) ?_
                  refine zc_Vv (n := 2) (As := [.int (iI ((0 : Nat) : Int)), .int (iI ((0 : Nat) : Int))]) (rest := []) S hAM hA (kX6_checked l X h Q s rd kp km tx lnn sj_322 2 wi gi 0 0 ht (by decide) (by decide) (by decide)) rfl gX6_statement_X6_checked  (by decide +kernel) ⟨Nat.le_of_ble_eq_true rfl, Nat.le_of_ble_eq_true rfl⟩ hH hS [0, 1, 2, 3, 4, 5, 6] rfl 7 rfl (List.Perm.refl _) 6 0 rfl rfl rfl hl.1 rfl (Nat.le_of_ble_eq_true rfl) dX6_statement_170 ⟨Nat.le_of_ble_eq_true rfl, Nat.le_of_ble_eq_true rfl⟩ (fun rj_338 H locs hp340 hH hS => ?_)
                  have hH : Hold X A [mO h Q km ((lnn : Nat) : Int) ((sj_322 : Nat) : Int) ((rj_338 : Nat) : Int), aW X (Q 0) 125 s, aW X (Q 1) 125 rd, aW X (Q 2) 625 kp, aW X (Q 3) 400 tx, aW X (Q 4) 8 wi, aW X (Q 5) 8 gi].flatten H := hH
                  have hc_170 := hp340
                  obtain rfl : rj_338 = 2 := hc_170.trans (by decide)
                  refine lv_aload_n S.1 S.2.1 dX6_statement_173 rfl (lv_at hl 4 rfl) ?_
                  refine zv_get (v := .int (iI ((2 : Nat) : Int))) S hAM hH nX6_statement_X6 0 rfl rfl 7 (by decide) mX6_statement_3 rfl rfl dX6_statement_174 ?_
                  refine zv_if_ne (tgt := 191) S dX6_statement_177 (by decide) (by decide) (fun c_177 => ?_) (fun c_177 => ?_)
                  · skip
                    refine lv_goto (tgt := 344) S.1 S.2.1 dX6_statement_191 (by decide) ?_
                    have eS : stm tx lnn p rd = (2, 0, rd) := by rw [stm, if_neg c_19, if_pos c_109, stRole, if_pos q1, if_pos q2, stNums, hm_118, bnd_none]
                    rw [eS] at hret
                    exact hret 344 ls _ _ (sj_322, 2) dX6_statement_344 ⟨rfl, (fun z => absurd z (by decide)), (by omega)⟩ hH hS
                  · exact (show False by omega).elim
                · skip
                  refine lv_iconst (v := iI (((1 : Nat) : Int))) S.1 S.2.1 dX6_statement_165 (by decide) ?_
                  refine lv_goto (tgt := 170) S.1 S.2.1 dX6_statement_166 (by decide) ?_
                  refine zc_Vv (n := 2) (As := [.int (iI ((0 : Nat) : Int)), .int (iI ((1 : Nat) : Int))]) (rest := []) S hAM hA (kX6_checked l X h Q s rd kp km tx lnn sj_322 2 wi gi 0 1 ht (by decide) (by decide) (by decide)) rfl gX6_statement_X6_checked  (by decide +kernel) ⟨Nat.le_of_ble_eq_true rfl, Nat.le_of_ble_eq_true rfl⟩ hH hS [0, 1, 2, 3, 4, 5, 6] rfl 7 rfl (List.Perm.refl _) 6 0 rfl rfl rfl hl.1 rfl (Nat.le_of_ble_eq_true rfl) dX6_statement_170 ⟨Nat.le_of_ble_eq_true rfl, Nat.le_of_ble_eq_true rfl⟩ (fun rj_341 H locs hp343 hH hS => ?_)
                  have hH : Hold X A [mO h Q km ((lnn : Nat) : Int) ((sj_322 : Nat) : Int) ((rj_341 : Nat) : Int), aW X (Q 0) 125 s, aW X (Q 1) 125 rd, aW X (Q 2) 625 kp, aW X (Q 3) 400 tx, aW X (Q 4) 8 wi, aW X (Q 5) 8 gi].flatten H := hH
                  have hc_170 := hp343
                  obtain rfl : rj_341 = 2 := hc_170.trans (by decide)
                  refine lv_aload_n S.1 S.2.1 dX6_statement_173 rfl (lv_at hl 4 rfl) ?_
                  refine zv_get (v := .int (iI ((2 : Nat) : Int))) S hAM hH nX6_statement_X6 0 rfl rfl 7 (by decide) mX6_statement_3 rfl rfl dX6_statement_174 ?_
                  refine zv_if_ne (tgt := 191) S dX6_statement_177 (by decide) (by decide) (fun c_177 => ?_) (fun c_177 => ?_)
                  · skip
                    refine lv_goto (tgt := 344) S.1 S.2.1 dX6_statement_191 (by decide) ?_
                    have eS : stm tx lnn p rd = (2, 0, rd) := by rw [stm, if_neg c_19, if_pos c_109, stRole, if_pos q1, if_pos q2, stNums, hm_118, bnd_none]
                    rw [eS] at hret
                    exact hret 344 ls _ _ (sj_322, 2) dX6_statement_344 ⟨rfl, (fun z => absurd z (by decide)), (by omega)⟩ hH hS
                  · exact (show False by omega).elim
              · skip
                refine lv_iload S.1 S.2.1 dX6_statement_141 (lv_at hl 0 rfl) ?_
                refine lv_bipush (v := iI (((60 : Nat) : Int))) S.1 S.2.1 dX6_statement_143 (by decide) ?_
                refine zv_icmp_gt (tgt := 152) S dX6_statement_145 (by decide) (by omega) (by decide) (fun c_145 => ?_) (fun c_145 => ?_)
                · skip
                  refine lv_iconst (v := iI (((0 : Nat) : Int))) S.1 S.2.1 dX6_statement_152 (by decide) ?_
                  refine lv_aload_n S.1 S.2.1 dX6_statement_153 rfl (lv_at hl 4 rfl) ?_
                  refine zv_get (v := .ref (Q 1)) S hAM hH nX6_statement_X6 0 rfl rfl 1 (by decide) mX6_statement_2 rfl rfl dX6_statement_154 ?_
                  refine lv_bipush (v := iI (((11 : Nat) : Int))) S.1 S.2.1 dX6_statement_157 (by decide) ?_
                  refine zv_iald S hAM hH 2 rfl (11) rfl (by decide) (by decide) dX6_statement_159 ?_
                  refine zv_top (z := rd 11) (z2 := ((nr rd : Nat) : Int)) hrd.e11 ?_
                  refine lv_bipush (v := iI (((8 : Nat) : Int))) S.1 S.2.1 dX6_statement_160 (by decide) ?_
                  refine zv_icmp_ge (tgt := 169) S dX6_statement_162 (by decide) (by omega) (by decide) (fun c_162 => ?_) (fun c_162 => ?_)
                  · skip
                    refine lv_iconst (v := iI (((0 : Nat) : Int))) S.1 S.2.1 dX6_statement_169 (by decide) ?_
                    refine zc_Vv (n := 2) (As := [.int (iI ((0 : Nat) : Int)), .int (iI ((0 : Nat) : Int))]) (rest := []) S hAM hA (kX6_checked l X h Q s rd kp km tx lnn sj_322 2 wi gi 0 0 ht (by decide) (by decide) (by decide)) rfl gX6_statement_X6_checked  (by decide +kernel) ⟨Nat.le_of_ble_eq_true rfl, Nat.le_of_ble_eq_true rfl⟩ hH hS [0, 1, 2, 3, 4, 5, 6] rfl 7 rfl (List.Perm.refl _) 6 0 rfl rfl rfl hl.1 rfl (Nat.le_of_ble_eq_true rfl) dX6_statement_170 ⟨Nat.le_of_ble_eq_true rfl, Nat.le_of_ble_eq_true rfl⟩ (fun rj_344 H locs hp346 hH hS => ?_)
                    have hH : Hold X A [mO h Q km ((lnn : Nat) : Int) ((sj_322 : Nat) : Int) ((rj_344 : Nat) : Int), aW X (Q 0) 125 s, aW X (Q 1) 125 rd, aW X (Q 2) 625 kp, aW X (Q 3) 400 tx, aW X (Q 4) 8 wi, aW X (Q 5) 8 gi].flatten H := hH
                    have hc_170 := hp346
                    obtain rfl : rj_344 = 2 := hc_170.trans (by decide)
                    refine lv_aload_n S.1 S.2.1 dX6_statement_173 rfl (lv_at hl 4 rfl) ?_
                    refine zv_get (v := .int (iI ((2 : Nat) : Int))) S hAM hH nX6_statement_X6 0 rfl rfl 7 (by decide) mX6_statement_3 rfl rfl dX6_statement_174 ?_
                    refine zv_if_ne (tgt := 191) S dX6_statement_177 (by decide) (by decide) (fun c_177 => ?_) (fun c_177 => ?_)
                    · skip
                      refine lv_goto (tgt := 344) S.1 S.2.1 dX6_statement_191 (by decide) ?_
                      have eS : stm tx lnn p rd = (2, 0, rd) := by rw [stm, if_neg c_19, if_pos c_109, stRole, if_pos q1, if_pos q2, stNums, hm_118, bnd_none]
                      rw [eS] at hret
                      exact hret 344 ls _ _ (sj_322, 2) dX6_statement_344 ⟨rfl, (fun z => absurd z (by decide)), (by omega)⟩ hH hS
                    · exact (show False by omega).elim
                  · skip
                    refine lv_iconst (v := iI (((1 : Nat) : Int))) S.1 S.2.1 dX6_statement_165 (by decide) ?_
                    refine lv_goto (tgt := 170) S.1 S.2.1 dX6_statement_166 (by decide) ?_
                    refine zc_Vv (n := 2) (As := [.int (iI ((0 : Nat) : Int)), .int (iI ((1 : Nat) : Int))]) (rest := []) S hAM hA (kX6_checked l X h Q s rd kp km tx lnn sj_322 2 wi gi 0 1 ht (by decide) (by decide) (by decide)) rfl gX6_statement_X6_checked  (by decide +kernel) ⟨Nat.le_of_ble_eq_true rfl, Nat.le_of_ble_eq_true rfl⟩ hH hS [0, 1, 2, 3, 4, 5, 6] rfl 7 rfl (List.Perm.refl _) 6 0 rfl rfl rfl hl.1 rfl (Nat.le_of_ble_eq_true rfl) dX6_statement_170 ⟨Nat.le_of_ble_eq_true rfl, Nat.le_of_ble_eq_true rfl⟩ (fun rj_347 H locs hp349 hH hS => ?_)
                    have hH : Hold X A [mO h Q km ((lnn : Nat) : Int) ((sj_322 : Nat) : Int) ((rj_347 : Nat) : Int), aW X (Q 0) 125 s, aW X (Q 1) 125 rd, aW X (Q 2) 625 kp, aW X (Q 3) 400 tx, aW X (Q 4) 8 wi, aW X (Q 5) 8 gi].flatten H := hH
                    have hc_170 := hp349
                    obtain rfl : rj_347 = 2 := hc_170.trans (by decide)
                    refine lv_aload_n S.1 S.2.1 dX6_statement_173 rfl (lv_at hl 4 rfl) ?_
                    refine zv_get (v := .int (iI ((2 : Nat) : Int))) S hAM hH nX6_statement_X6 0 rfl rfl 7 (by decide) mX6_statement_3 rfl rfl dX6_statement_174 ?_
                    refine zv_if_ne (tgt := 191) S dX6_statement_177 (by decide) (by decide) (fun c_177 => ?_) (fun c_177 => ?_)
                    · skip
                      refine lv_goto (tgt := 344) S.1 S.2.1 dX6_statement_191 (by decide) ?_
                      have eS : stm tx lnn p rd = (2, 0, rd) := by rw [stm, if_neg c_19, if_pos c_109, stRole, if_pos q1, if_pos q2, stNums, hm_118, bnd_none]
                      rw [eS] at hret
                      exact hret 344 ls _ _ (sj_322, 2) dX6_statement_344 ⟨rfl, (fun z => absurd z (by decide)), (by omega)⟩ hH hS
                    · exact (show False by omega).elim
                · skip
                  refine lv_iconst (v := iI (((1 : Nat) : Int))) S.1 S.2.1 dX6_statement_148 (by decide) ?_
                  refine lv_goto (tgt := 153) S.1 S.2.1 dX6_statement_149 (by decide) ?_
                  refine lv_aload_n S.1 S.2.1 dX6_statement_153 rfl (lv_at hl 4 rfl) ?_
                  refine zv_get (v := .ref (Q 1)) S hAM hH nX6_statement_X6 0 rfl rfl 1 (by decide) mX6_statement_2 rfl rfl dX6_statement_154 ?_
                  refine lv_bipush (v := iI (((11 : Nat) : Int))) S.1 S.2.1 dX6_statement_157 (by decide) ?_
                  refine zv_iald S hAM hH 2 rfl (11) rfl (by decide) (by decide) dX6_statement_159 ?_
                  refine zv_top (z := rd 11) (z2 := ((nr rd : Nat) : Int)) hrd.e11 ?_
                  refine lv_bipush (v := iI (((8 : Nat) : Int))) S.1 S.2.1 dX6_statement_160 (by decide) ?_
                  refine zv_icmp_ge (tgt := 169) S dX6_statement_162 (by decide) (by omega) (by decide) (fun c_162 => ?_) (fun c_162 => ?_)
                  · skip
                    refine lv_iconst (v := iI (((0 : Nat) : Int))) S.1 S.2.1 dX6_statement_169 (by decide) ?_
                    refine zc_Vv (n := 2) (As := [.int (iI ((1 : Nat) : Int)), .int (iI ((0 : Nat) : Int))]) (rest := []) S hAM hA (kX6_checked l X h Q s rd kp km tx lnn sj_322 2 wi gi 1 0 ht (by decide) (by decide) (by decide)) rfl gX6_statement_X6_checked  (by decide +kernel) ⟨Nat.le_of_ble_eq_true rfl, Nat.le_of_ble_eq_true rfl⟩ hH hS [0, 1, 2, 3, 4, 5, 6] rfl 7 rfl (List.Perm.refl _) 6 0 rfl rfl rfl hl.1 rfl (Nat.le_of_ble_eq_true rfl) dX6_statement_170 ⟨Nat.le_of_ble_eq_true rfl, Nat.le_of_ble_eq_true rfl⟩ (fun rj_350 H locs hp352 hH hS => ?_)
                    have hH : Hold X A [mO h Q km ((lnn : Nat) : Int) ((sj_322 : Nat) : Int) ((rj_350 : Nat) : Int), aW X (Q 0) 125 s, aW X (Q 1) 125 rd, aW X (Q 2) 625 kp, aW X (Q 3) 400 tx, aW X (Q 4) 8 wi, aW X (Q 5) 8 gi].flatten H := hH
                    have hc_170 := hp352
                    obtain rfl : rj_350 = 2 := hc_170.trans (by decide)
                    refine lv_aload_n S.1 S.2.1 dX6_statement_173 rfl (lv_at hl 4 rfl) ?_
                    refine zv_get (v := .int (iI ((2 : Nat) : Int))) S hAM hH nX6_statement_X6 0 rfl rfl 7 (by decide) mX6_statement_3 rfl rfl dX6_statement_174 ?_
                    refine zv_if_ne (tgt := 191) S dX6_statement_177 (by decide) (by decide) (fun c_177 => ?_) (fun c_177 => ?_)
                    · skip
                      refine lv_goto (tgt := 344) S.1 S.2.1 dX6_statement_191 (by decide) ?_
                      have eS : stm tx lnn p rd = (2, 0, rd) := by rw [stm, if_neg c_19, if_pos c_109, stRole, if_pos q1, if_pos q2, stNums, hm_118, bnd_none]
                      rw [eS] at hret
                      exact hret 344 ls _ _ (sj_322, 2) dX6_statement_344 ⟨rfl, (fun z => absurd z (by decide)), (by omega)⟩ hH hS
                    · exact (show False by omega).elim
                  · skip
                    refine lv_iconst (v := iI (((1 : Nat) : Int))) S.1 S.2.1 dX6_statement_165 (by decide) ?_
                    refine lv_goto (tgt := 170) S.1 S.2.1 dX6_statement_166 (by decide) ?_
                    refine zc_Vv (n := 2) (As := [.int (iI ((1 : Nat) : Int)), .int (iI ((1 : Nat) : Int))]) (rest := []) S hAM hA (kX6_checked l X h Q s rd kp km tx lnn sj_322 2 wi gi 1 1 ht (by decide) (by decide) (by decide)) rfl gX6_statement_X6_checked  (by decide +kernel) ⟨Nat.le_of_ble_eq_true rfl, Nat.le_of_ble_eq_true rfl⟩ hH hS [0, 1, 2, 3, 4, 5, 6] rfl 7 rfl (List.Perm.refl _) 6 0 rfl rfl rfl hl.1 rfl (Nat.le_of_ble_eq_true rfl) dX6_statement_170 ⟨Nat.le_of_ble_eq_true rfl, Nat.le_of_ble_eq_true rfl⟩ (fun rj_353 H locs hp355 hH hS => ?_)
                    have hH : Hold X A [mO h Q km ((lnn : Nat) : Int) ((sj_322 : Nat) : Int) ((rj_353 : Nat) : Int), aW X (Q 0) 125 s, aW X (Q 1) 125 rd, aW X (Q 2) 625 kp, aW X (Q 3) 400 tx, aW X (Q 4) 8 wi, aW X (Q 5) 8 gi].flatten H := hH
                    have hc_170 := hp355
                    obtain rfl : rj_353 = 2 := hc_170.trans (by decide)
                    refine lv_aload_n S.1 S.2.1 dX6_statement_173 rfl (lv_at hl 4 rfl) ?_
                    refine zv_get (v := .int (iI ((2 : Nat) : Int))) S hAM hH nX6_statement_X6 0 rfl rfl 7 (by decide) mX6_statement_3 rfl rfl dX6_statement_174 ?_
                    refine zv_if_ne (tgt := 191) S dX6_statement_177 (by decide) (by decide) (fun c_177 => ?_) (fun c_177 => ?_)
                    · skip
                      refine lv_goto (tgt := 344) S.1 S.2.1 dX6_statement_191 (by decide) ?_
                      have eS : stm tx lnn p rd = (2, 0, rd) := by rw [stm, if_neg c_19, if_pos c_109, stRole, if_pos q1, if_pos q2, stNums, hm_118, bnd_none]
                      rw [eS] at hret
                      exact hret 344 ls _ _ (sj_322, 2) dX6_statement_344 ⟨rfl, (fun z => absurd z (by decide)), (by omega)⟩ hH hS
                    · exact (show False by omega).elim
            · exact absurd q1 (by decide)
            · exact absurd q1 (by decide)
          · exact absurd q1 (by decide)
          · exact absurd q1 (by decide)
        · skip
          refine lv_istore_n (lv' := [(3, .int (iI ((zz_321 : Nat) : Int))), (2, .int (iI ((0 : Nat) : Int))), (1, .int (iI (wdV tx p (we tx lnn p - p)))), (0, .ref (h))]) S.1 S.2.1 dX6_statement_121 rfl hl (by decide) rfl (fun ls hl => ?_)
          refine lv_aload_n S.1 S.2.1 dX6_statement_122 rfl (lv_at hl 3 rfl) ?_
          refine zc_Vi (n := 0) (As := []) (rest := []) S hAM hA (kX6_number l X h Q s rd kp km tx lnn sj_322 0 wi gi ht (by omega) (by omega) (by omega)) rfl gX6_statement_X6_number  (by decide +kernel) ⟨Nat.le_of_ble_eq_true rfl, Nat.le_of_ble_eq_true rfl⟩ hH hS [0, 1, 2, 3, 4, 5, 6] rfl 7 rfl (List.Perm.refl _) 6 0 rfl rfl rfl hl.1 rfl (Nat.le_of_ble_eq_true rfl) dX6_statement_123 ⟨Nat.le_of_ble_eq_true rfl, Nat.le_of_ble_eq_true rfl⟩ (fun z360 u359 H locs hp361 hH hS => ?_)
          obtain ⟨zz_356, sj_357, rj_358⟩ := u359
          have hH : Hold X A [mO h Q km ((lnn : Nat) : Int) ((sj_357 : Nat) : Int) ((rj_358 : Nat) : Int), aW X (Q 0) 125 s, aW X (Q 1) 125 rd, aW X (Q 2) 625 kp, aW X (Q 3) 400 tx, aW X (Q 4) 8 wi, aW X (Q 5) 8 gi].flatten H := hH
          obtain ⟨rfl, hz_123, hn_123⟩ := hp361
          rcases hn_123 with ⟨q1, -⟩ | ⟨-, rfl, hm_123, hb_123⟩ | ⟨-, rfl, hm_123, hb_123⟩
          · exact absurd rfl q1
          · skip
            refine lv_istore (lv' := [(4, .int (iI ((zz_356 : Nat) : Int))), (3, .int (iI ((zz_321 : Nat) : Int))), (2, .int (iI ((0 : Nat) : Int))), (1, .int (iI (wdV tx p (we tx lnn p - p)))), (0, .ref (h))]) S.1 S.2.1 dX6_statement_126 hl (by decide) rfl (fun ls hl => ?_)
            refine lv_aload_n S.1 S.2.1 dX6_statement_128 rfl (lv_at hl 4 rfl) ?_
            refine lv_bipush (v := iI (((59 : Nat) : Int))) S.1 S.2.1 dX6_statement_129 (by decide) ?_
            refine zc_Vv (n := 1) (As := [.int (iI ((59 : Nat) : Int))]) (rest := []) S hAM hA (kX6_wants l X h Q s rd kp km tx lnn sj_357 2 wi gi 59 ht (by decide) (by omega) (by omega)) rfl gX6_statement_X6_wants  (by decide +kernel) ⟨Nat.le_of_ble_eq_true rfl, Nat.le_of_ble_eq_true rfl⟩ hH hS [0, 1, 2, 3, 4, 5, 6] rfl 7 rfl (List.Perm.refl _) 6 0 rfl rfl rfl hl.1 rfl (Nat.le_of_ble_eq_true rfl) dX6_statement_131 ⟨Nat.le_of_ble_eq_true rfl, Nat.le_of_ble_eq_true rfl⟩ (fun u364 H locs hp366 hH hS => ?_)
            obtain ⟨sj_362, rj_363⟩ := u364
            have hH : Hold X A [mO h Q km ((lnn : Nat) : Int) ((sj_362 : Nat) : Int) ((rj_363 : Nat) : Int), aW X (Q 0) 125 s, aW X (Q 1) 125 rd, aW X (Q 2) 625 kp, aW X (Q 3) 400 tx, aW X (Q 4) 8 wi, aW X (Q 5) 8 gi].flatten H := hH
            have hw_131 := hp366
            rcases hw_131 with ⟨-, rfl, rfl⟩ | ⟨q1, -⟩ | ⟨q1, -⟩
            · skip
              refine lv_aload_n S.1 S.2.1 dX6_statement_134 rfl (lv_at hl 4 rfl) ?_
              refine lv_iload_n S.1 S.2.1 dX6_statement_135 rfl (lv_at hl 1 rfl) ?_
              refine lv_bipush (v := iI (((60 : Nat) : Int))) S.1 S.2.1 dX6_statement_136 (by decide) ?_
              refine zv_icmp_gt (tgt := 152) S dX6_statement_138 (by decide) (by omega) (by decide) (fun c_138 => ?_) (fun c_138 => ?_)
              · skip
                refine lv_iconst (v := iI (((0 : Nat) : Int))) S.1 S.2.1 dX6_statement_152 (by decide) ?_
                refine lv_aload_n S.1 S.2.1 dX6_statement_153 rfl (lv_at hl 4 rfl) ?_
                refine zv_get (v := .ref (Q 1)) S hAM hH nX6_statement_X6 0 rfl rfl 1 (by decide) mX6_statement_2 rfl rfl dX6_statement_154 ?_
                refine lv_bipush (v := iI (((11 : Nat) : Int))) S.1 S.2.1 dX6_statement_157 (by decide) ?_
                refine zv_iald S hAM hH 2 rfl (11) rfl (by decide) (by decide) dX6_statement_159 ?_
                refine zv_top (z := rd 11) (z2 := ((nr rd : Nat) : Int)) hrd.e11 ?_
                refine lv_bipush (v := iI (((8 : Nat) : Int))) S.1 S.2.1 dX6_statement_160 (by decide) ?_
                refine zv_icmp_ge (tgt := 169) S dX6_statement_162 (by decide) (by omega) (by decide) (fun c_162 => ?_) (fun c_162 => ?_)
                · skip
                  refine lv_iconst (v := iI (((0 : Nat) : Int))) S.1 S.2.1 dX6_statement_169 (by decide) ?_
                  refine zc_Vv (n := 2) (As := [.int (iI ((0 : Nat) : Int)), .int (iI ((0 : Nat) : Int))]) (rest := []) S hAM hA (kX6_checked l X h Q s rd kp km tx lnn sj_357 2 wi gi 0 0 ht (by decide) (by decide) (by decide)) rfl gX6_statement_X6_checked  (by decide +kernel) ⟨Nat.le_of_ble_eq_true rfl, Nat.le_of_ble_eq_true rfl⟩ hH hS [0, 1, 2, 3, 4, 5, 6] rfl 7 rfl (List.Perm.refl _) 6 0 rfl rfl rfl hl.1 rfl (Nat.le_of_ble_eq_true rfl) dX6_statement_170 ⟨Nat.le_of_ble_eq_true rfl, Nat.le_of_ble_eq_true rfl⟩ (fun rj_367 H locs hp369 hH hS => ?_)
                  have hH : Hold X A [mO h Q km ((lnn : Nat) : Int) ((sj_357 : Nat) : Int) ((rj_367 : Nat) : Int), aW X (Q 0) 125 s, aW X (Q 1) 125 rd, aW X (Q 2) 625 kp, aW X (Q 3) 400 tx, aW X (Q 4) 8 wi, aW X (Q 5) 8 gi].flatten H := hH
                  have hc_170 := hp369
                  obtain rfl : rj_367 = 2 := hc_170.trans (by decide)
                  refine lv_aload_n S.1 S.2.1 dX6_statement_173 rfl (lv_at hl 4 rfl) ?_
                  refine zv_get (v := .int (iI ((2 : Nat) : Int))) S hAM hH nX6_statement_X6 0 rfl rfl 7 (by decide) mX6_statement_3 rfl rfl dX6_statement_174 ?_
                  refine zv_if_ne (tgt := 191) S dX6_statement_177 (by decide) (by decide) (fun c_177 => ?_) (fun c_177 => ?_)
                  · skip
                    refine lv_goto (tgt := 344) S.1 S.2.1 dX6_statement_191 (by decide) ?_
                    have eS : stm tx lnn p rd = (2, 0, rd) := by rw [stm, if_neg c_19, if_pos c_109, stRole, if_pos q1, if_pos q2, stNums, hm_118, bnd_some, hm_123, bnd_none]
                    rw [eS] at hret
                    exact hret 344 ls _ _ (sj_357, 2) dX6_statement_344 ⟨rfl, (fun z => absurd z (by decide)), (by omega)⟩ hH hS
                  · exact (show False by omega).elim
                · skip
                  refine lv_iconst (v := iI (((1 : Nat) : Int))) S.1 S.2.1 dX6_statement_165 (by decide) ?_
                  refine lv_goto (tgt := 170) S.1 S.2.1 dX6_statement_166 (by decide) ?_
                  refine zc_Vv (n := 2) (As := [.int (iI ((0 : Nat) : Int)), .int (iI ((1 : Nat) : Int))]) (rest := []) S hAM hA (kX6_checked l X h Q s rd kp km tx lnn sj_357 2 wi gi 0 1 ht (by decide) (by decide) (by decide)) rfl gX6_statement_X6_checked  (by decide +kernel) ⟨Nat.le_of_ble_eq_true rfl, Nat.le_of_ble_eq_true rfl⟩ hH hS [0, 1, 2, 3, 4, 5, 6] rfl 7 rfl (List.Perm.refl _) 6 0 rfl rfl rfl hl.1 rfl (Nat.le_of_ble_eq_true rfl) dX6_statement_170 ⟨Nat.le_of_ble_eq_true rfl, Nat.le_of_ble_eq_true rfl⟩ (fun rj_370 H locs hp372 hH hS => ?_)
                  have hH : Hold X A [mO h Q km ((lnn : Nat) : Int) ((sj_357 : Nat) : Int) ((rj_370 : Nat) : Int), aW X (Q 0) 125 s, aW X (Q 1) 125 rd, aW X (Q 2) 625 kp, aW X (Q 3) 400 tx, aW X (Q 4) 8 wi, aW X (Q 5) 8 gi].flatten H := hH
                  have hc_170 := hp372
                  obtain rfl : rj_370 = 2 := hc_170.trans (by decide)
                  refine lv_aload_n S.1 S.2.1 dX6_statement_173 rfl (lv_at hl 4 rfl) ?_
                  refine zv_get (v := .int (iI ((2 : Nat) : Int))) S hAM hH nX6_statement_X6 0 rfl rfl 7 (by decide) mX6_statement_3 rfl rfl dX6_statement_174 ?_
                  refine zv_if_ne (tgt := 191) S dX6_statement_177 (by decide) (by decide) (fun c_177 => ?_) (fun c_177 => ?_)
                  · skip
                    refine lv_goto (tgt := 344) S.1 S.2.1 dX6_statement_191 (by decide) ?_
                    have eS : stm tx lnn p rd = (2, 0, rd) := by rw [stm, if_neg c_19, if_pos c_109, stRole, if_pos q1, if_pos q2, stNums, hm_118, bnd_some, hm_123, bnd_none]
                    rw [eS] at hret
                    exact hret 344 ls _ _ (sj_357, 2) dX6_statement_344 ⟨rfl, (fun z => absurd z (by decide)), (by omega)⟩ hH hS
                  · exact (show False by omega).elim
              · skip
                refine lv_iload S.1 S.2.1 dX6_statement_141 (lv_at hl 0 rfl) ?_
                refine lv_bipush (v := iI (((60 : Nat) : Int))) S.1 S.2.1 dX6_statement_143 (by decide) ?_
                refine zv_icmp_gt (tgt := 152) S dX6_statement_145 (by decide) (by omega) (by decide) (fun c_145 => ?_) (fun c_145 => ?_)
                · skip
                  refine lv_iconst (v := iI (((0 : Nat) : Int))) S.1 S.2.1 dX6_statement_152 (by decide) ?_
                  refine lv_aload_n S.1 S.2.1 dX6_statement_153 rfl (lv_at hl 4 rfl) ?_
                  refine zv_get (v := .ref (Q 1)) S hAM hH nX6_statement_X6 0 rfl rfl 1 (by decide) mX6_statement_2 rfl rfl dX6_statement_154 ?_
                  refine lv_bipush (v := iI (((11 : Nat) : Int))) S.1 S.2.1 dX6_statement_157 (by decide) ?_
                  refine zv_iald S hAM hH 2 rfl (11) rfl (by decide) (by decide) dX6_statement_159 ?_
                  refine zv_top (z := rd 11) (z2 := ((nr rd : Nat) : Int)) hrd.e11 ?_
                  refine lv_bipush (v := iI (((8 : Nat) : Int))) S.1 S.2.1 dX6_statement_160 (by decide) ?_
                  refine zv_icmp_ge (tgt := 169) S dX6_statement_162 (by decide) (by omega) (by decide) (fun c_162 => ?_) (fun c_162 => ?_)
                  · skip
                    refine lv_iconst (v := iI (((0 : Nat) : Int))) S.1 S.2.1 dX6_statement_169 (by decide) ?_
                    refine zc_Vv (n := 2) (As := [.int (iI ((0 : Nat) : Int)), .int (iI ((0 : Nat) : Int))]) (rest := []) S hAM hA (kX6_checked l X h Q s rd kp km tx lnn sj_357 2 wi gi 0 0 ht (by decide) (by decide) (by decide)) rfl gX6_statement_X6_checked  (by decide +kernel) ⟨Nat.le_of_ble_eq_true rfl, Nat.le_of_ble_eq_true rfl⟩ hH hS [0, 1, 2, 3, 4, 5, 6] rfl 7 rfl (List.Perm.refl _) 6 0 rfl rfl rfl hl.1 rfl (Nat.le_of_ble_eq_true rfl) dX6_statement_170 ⟨Nat.le_of_ble_eq_true rfl, Nat.le_of_ble_eq_true rfl⟩ (fun rj_373 H locs hp375 hH hS => ?_)
                    have hH : Hold X A [mO h Q km ((lnn : Nat) : Int) ((sj_357 : Nat) : Int) ((rj_373 : Nat) : Int), aW X (Q 0) 125 s, aW X (Q 1) 125 rd, aW X (Q 2) 625 kp, aW X (Q 3) 400 tx, aW X (Q 4) 8 wi, aW X (Q 5) 8 gi].flatten H := hH
                    have hc_170 := hp375
                    obtain rfl : rj_373 = 2 := hc_170.trans (by decide)
                    refine lv_aload_n S.1 S.2.1 dX6_statement_173 rfl (lv_at hl 4 rfl) ?_
                    refine zv_get (v := .int (iI ((2 : Nat) : Int))) S hAM hH nX6_statement_X6 0 rfl rfl 7 (by decide) mX6_statement_3 rfl rfl dX6_statement_174 ?_
                    refine zv_if_ne (tgt := 191) S dX6_statement_177 (by decide) (by decide) (fun c_177 => ?_) (fun c_177 => ?_)
                    · skip
                      refine lv_goto (tgt := 344) S.1 S.2.1 dX6_statement_191 (by decide) ?_
                      have eS : stm tx lnn p rd = (2, 0, rd) := by rw [stm, if_neg c_19, if_pos c_109, stRole, if_pos q1, if_pos q2, stNums, hm_118, bnd_some, hm_123, bnd_none]
                      rw [eS] at hret
                      exact hret 344 ls _ _ (sj_357, 2) dX6_statement_344 ⟨rfl, (fun z => absurd z (by decide)), (by omega)⟩ hH hS
                    · exact (show False by omega).elim
                  · skip
                    refine lv_iconst (v := iI (((1 : Nat) : Int))) S.1 S.2.1 dX6_statement_165 (by decide) ?_
                    refine lv_goto (tgt := 170) S.1 S.2.1 dX6_statement_166 (by decide) ?_
                    refine zc_Vv (n := 2) (As := [.int (iI ((0 : Nat) : Int)), .int (iI ((1 : Nat) : Int))]) (rest := []) S hAM hA (kX6_checked l X h Q s rd kp km tx lnn sj_357 2 wi gi 0 1 ht (by decide) (by decide) (by decide)) rfl gX6_statement_X6_checked  (by decide +kernel) ⟨Nat.le_of_ble_eq_true rfl, Nat.le_of_ble_eq_true rfl⟩ hH hS [0, 1, 2, 3, 4, 5, 6] rfl 7 rfl (List.Perm.refl _) 6 0 rfl rfl rfl hl.1 rfl (Nat.le_of_ble_eq_true rfl) dX6_statement_170 ⟨Nat.le_of_ble_eq_true rfl, Nat.le_of_ble_eq_true rfl⟩ (fun rj_376 H locs hp378 hH hS => ?_)
                    have hH : Hold X A [mO h Q km ((lnn : Nat) : Int) ((sj_357 : Nat) : Int) ((rj_376 : Nat) : Int), aW X (Q 0) 125 s, aW X (Q 1) 125 rd, aW X (Q 2) 625 kp, aW X (Q 3) 400 tx, aW X (Q 4) 8 wi, aW X (Q 5) 8 gi].flatten H := hH
                    have hc_170 := hp378
                    obtain rfl : rj_376 = 2 := hc_170.trans (by decide)
                    refine lv_aload_n S.1 S.2.1 dX6_statement_173 rfl (lv_at hl 4 rfl) ?_
                    refine zv_get (v := .int (iI ((2 : Nat) : Int))) S hAM hH nX6_statement_X6 0 rfl rfl 7 (by decide) mX6_statement_3 rfl rfl dX6_statement_174 ?_
                    refine zv_if_ne (tgt := 191) S dX6_statement_177 (by decide) (by decide) (fun c_177 => ?_) (fun c_177 => ?_)
                    · skip
                      refine lv_goto (tgt := 344) S.1 S.2.1 dX6_statement_191 (by decide) ?_
                      have eS : stm tx lnn p rd = (2, 0, rd) := by rw [stm, if_neg c_19, if_pos c_109, stRole, if_pos q1, if_pos q2, stNums, hm_118, bnd_some, hm_123, bnd_none]
                      rw [eS] at hret
                      exact hret 344 ls _ _ (sj_357, 2) dX6_statement_344 ⟨rfl, (fun z => absurd z (by decide)), (by omega)⟩ hH hS
                    · exact (show False by omega).elim
                · skip
                  refine lv_iconst (v := iI (((1 : Nat) : Int))) S.1 S.2.1 dX6_statement_148 (by decide) ?_
                  refine lv_goto (tgt := 153) S.1 S.2.1 dX6_statement_149 (by decide) ?_
                  refine lv_aload_n S.1 S.2.1 dX6_statement_153 rfl (lv_at hl 4 rfl) ?_
                  refine zv_get (v := .ref (Q 1)) S hAM hH nX6_statement_X6 0 rfl rfl 1 (by decide) mX6_statement_2 rfl rfl dX6_statement_154 ?_
                  refine lv_bipush (v := iI (((11 : Nat) : Int))) S.1 S.2.1 dX6_statement_157 (by decide) ?_
                  refine zv_iald S hAM hH 2 rfl (11) rfl (by decide) (by decide) dX6_statement_159 ?_
                  refine zv_top (z := rd 11) (z2 := ((nr rd : Nat) : Int)) hrd.e11 ?_
                  refine lv_bipush (v := iI (((8 : Nat) : Int))) S.1 S.2.1 dX6_statement_160 (by decide) ?_
                  refine zv_icmp_ge (tgt := 169) S dX6_statement_162 (by decide) (by omega) (by decide) (fun c_162 => ?_) (fun c_162 => ?_)
                  · skip
                    refine lv_iconst (v := iI (((0 : Nat) : Int))) S.1 S.2.1 dX6_statement_169 (by decide) ?_
                    refine zc_Vv (n := 2) (As := [.int (iI ((1 : Nat) : Int)), .int (iI ((0 : Nat) : Int))]) (rest := []) S hAM hA (kX6_checked l X h Q s rd kp km tx lnn sj_357 2 wi gi 1 0 ht (by decide) (by decide) (by decide)) rfl gX6_statement_X6_checked  (by decide +kernel) ⟨Nat.le_of_ble_eq_true rfl, Nat.le_of_ble_eq_true rfl⟩ hH hS [0, 1, 2, 3, 4, 5, 6] rfl 7 rfl (List.Perm.refl _) 6 0 rfl rfl rfl hl.1 rfl (Nat.le_of_ble_eq_true rfl) dX6_statement_170 ⟨Nat.le_of_ble_eq_true rfl, Nat.le_of_ble_eq_true rfl⟩ (fun rj_379 H locs hp381 hH hS => ?_)
                    have hH : Hold X A [mO h Q km ((lnn : Nat) : Int) ((sj_357 : Nat) : Int) ((rj_379 : Nat) : Int), aW X (Q 0) 125 s, aW X (Q 1) 125 rd, aW X (Q 2) 625 kp, aW X (Q 3) 400 tx, aW X (Q 4) 8 wi, aW X (Q 5) 8 gi].flatten H := hH
                    have hc_170 := hp381
                    obtain rfl : rj_379 = 2 := hc_170.trans (by decide)
                    refine lv_aload_n S.1 S.2.1 dX6_statement_173 rfl (lv_at hl 4 rfl) ?_
                    refine zv_get (v := .int (iI ((2 : Nat) : Int))) S hAM hH nX6_statement_X6 0 rfl rfl 7 (by decide) mX6_statement_3 rfl rfl dX6_statement_174 ?_
                    refine zv_if_ne (tgt := 191) S dX6_statement_177 (by decide) (by decide) (fun c_177 => ?_) (fun c_177 => ?_)
                    · skip
                      refine lv_goto (tgt := 344) S.1 S.2.1 dX6_statement_191 (by decide) ?_
                      have eS : stm tx lnn p rd = (2, 0, rd) := by rw [stm, if_neg c_19, if_pos c_109, stRole, if_pos q1, if_pos q2, stNums, hm_118, bnd_some, hm_123, bnd_none]
                      rw [eS] at hret
                      exact hret 344 ls _ _ (sj_357, 2) dX6_statement_344 ⟨rfl, (fun z => absurd z (by decide)), (by omega)⟩ hH hS
                    · exact (show False by omega).elim
                  · skip
                    refine lv_iconst (v := iI (((1 : Nat) : Int))) S.1 S.2.1 dX6_statement_165 (by decide) ?_
                    refine lv_goto (tgt := 170) S.1 S.2.1 dX6_statement_166 (by decide) ?_
                    refine zc_Vv (n := 2) (As := [.int (iI ((1 : Nat) : Int)), .int (iI ((1 : Nat) : Int))]) (rest := []) S hAM hA (kX6_checked l X h Q s rd kp km tx lnn sj_357 2 wi gi 1 1 ht (by decide) (by decide) (by decide)) rfl gX6_statement_X6_checked  (by decide +kernel) ⟨Nat.le_of_ble_eq_true rfl, Nat.le_of_ble_eq_true rfl⟩ hH hS [0, 1, 2, 3, 4, 5, 6] rfl 7 rfl (List.Perm.refl _) 6 0 rfl rfl rfl hl.1 rfl (Nat.le_of_ble_eq_true rfl) dX6_statement_170 ⟨Nat.le_of_ble_eq_true rfl, Nat.le_of_ble_eq_true rfl⟩ (fun rj_382 H locs hp384 hH hS => ?_)
                    have hH : Hold X A [mO h Q km ((lnn : Nat) : Int) ((sj_357 : Nat) : Int) ((rj_382 : Nat) : Int), aW X (Q 0) 125 s, aW X (Q 1) 125 rd, aW X (Q 2) 625 kp, aW X (Q 3) 400 tx, aW X (Q 4) 8 wi, aW X (Q 5) 8 gi].flatten H := hH
                    have hc_170 := hp384
                    obtain rfl : rj_382 = 2 := hc_170.trans (by decide)
                    refine lv_aload_n S.1 S.2.1 dX6_statement_173 rfl (lv_at hl 4 rfl) ?_
                    refine zv_get (v := .int (iI ((2 : Nat) : Int))) S hAM hH nX6_statement_X6 0 rfl rfl 7 (by decide) mX6_statement_3 rfl rfl dX6_statement_174 ?_
                    refine zv_if_ne (tgt := 191) S dX6_statement_177 (by decide) (by decide) (fun c_177 => ?_) (fun c_177 => ?_)
                    · skip
                      refine lv_goto (tgt := 344) S.1 S.2.1 dX6_statement_191 (by decide) ?_
                      have eS : stm tx lnn p rd = (2, 0, rd) := by rw [stm, if_neg c_19, if_pos c_109, stRole, if_pos q1, if_pos q2, stNums, hm_118, bnd_some, hm_123, bnd_none]
                      rw [eS] at hret
                      exact hret 344 ls _ _ (sj_357, 2) dX6_statement_344 ⟨rfl, (fun z => absurd z (by decide)), (by omega)⟩ hH hS
                    · exact (show False by omega).elim
            · exact absurd q1 (by decide)
            · exact absurd q1 (by decide)
          · skip
            refine lv_istore (lv' := [(4, .int (iI ((zz_356 : Nat) : Int))), (3, .int (iI ((zz_321 : Nat) : Int))), (2, .int (iI ((0 : Nat) : Int))), (1, .int (iI (wdV tx p (we tx lnn p - p)))), (0, .ref (h))]) S.1 S.2.1 dX6_statement_126 hl (by decide) rfl (fun ls hl => ?_)
            refine lv_aload_n S.1 S.2.1 dX6_statement_128 rfl (lv_at hl 4 rfl) ?_
            refine lv_bipush (v := iI (((59 : Nat) : Int))) S.1 S.2.1 dX6_statement_129 (by decide) ?_
            refine zc_Vv (n := 1) (As := [.int (iI ((59 : Nat) : Int))]) (rest := []) S hAM hA (kX6_wants l X h Q s rd kp km tx lnn sj_357 0 wi gi 59 ht (by decide) (by omega) (by omega)) rfl gX6_statement_X6_wants  (by decide +kernel) ⟨Nat.le_of_ble_eq_true rfl, Nat.le_of_ble_eq_true rfl⟩ hH hS [0, 1, 2, 3, 4, 5, 6] rfl 7 rfl (List.Perm.refl _) 6 0 rfl rfl rfl hl.1 rfl (Nat.le_of_ble_eq_true rfl) dX6_statement_131 ⟨Nat.le_of_ble_eq_true rfl, Nat.le_of_ble_eq_true rfl⟩ (fun u387 H locs hp389 hH hS => ?_)
            obtain ⟨sj_385, rj_386⟩ := u387
            have hH : Hold X A [mO h Q km ((lnn : Nat) : Int) ((sj_385 : Nat) : Int) ((rj_386 : Nat) : Int), aW X (Q 0) 125 s, aW X (Q 1) 125 rd, aW X (Q 2) 625 kp, aW X (Q 3) 400 tx, aW X (Q 4) 8 wi, aW X (Q 5) 8 gi].flatten H := hH
            have hw_131 := hp389
            rcases hw_131 with ⟨q1, -⟩ | ⟨-, rfl, rfl, hq_131⟩ | ⟨-, rfl, rfl, hq_131⟩
            · exact absurd rfl q1
            · skip
              refine lv_aload_n S.1 S.2.1 dX6_statement_134 rfl (lv_at hl 4 rfl) ?_
              refine lv_iload_n S.1 S.2.1 dX6_statement_135 rfl (lv_at hl 1 rfl) ?_
              refine lv_bipush (v := iI (((60 : Nat) : Int))) S.1 S.2.1 dX6_statement_136 (by decide) ?_
              refine zv_icmp_gt (tgt := 152) S dX6_statement_138 (by decide) (by omega) (by decide) (fun c_138 => ?_) (fun c_138 => ?_)
              · skip
                refine lv_iconst (v := iI (((0 : Nat) : Int))) S.1 S.2.1 dX6_statement_152 (by decide) ?_
                refine lv_aload_n S.1 S.2.1 dX6_statement_153 rfl (lv_at hl 4 rfl) ?_
                refine zv_get (v := .ref (Q 1)) S hAM hH nX6_statement_X6 0 rfl rfl 1 (by decide) mX6_statement_2 rfl rfl dX6_statement_154 ?_
                refine lv_bipush (v := iI (((11 : Nat) : Int))) S.1 S.2.1 dX6_statement_157 (by decide) ?_
                refine zv_iald S hAM hH 2 rfl (11) rfl (by decide) (by decide) dX6_statement_159 ?_
                refine zv_top (z := rd 11) (z2 := ((nr rd : Nat) : Int)) hrd.e11 ?_
                refine lv_bipush (v := iI (((8 : Nat) : Int))) S.1 S.2.1 dX6_statement_160 (by decide) ?_
                refine zv_icmp_ge (tgt := 169) S dX6_statement_162 (by decide) (by omega) (by decide) (fun c_162 => ?_) (fun c_162 => ?_)
                · skip
                  refine lv_iconst (v := iI (((0 : Nat) : Int))) S.1 S.2.1 dX6_statement_169 (by decide) ?_
                  refine zc_Vv (n := 2) (As := [.int (iI ((0 : Nat) : Int)), .int (iI ((0 : Nat) : Int))]) (rest := []) S hAM hA (kX6_checked l X h Q s rd kp km tx lnn (sj_357 + 1) 0 wi gi 0 0 ht (by decide) (by decide) (by decide)) rfl gX6_statement_X6_checked  (by decide +kernel) ⟨Nat.le_of_ble_eq_true rfl, Nat.le_of_ble_eq_true rfl⟩ hH hS [0, 1, 2, 3, 4, 5, 6] rfl 7 rfl (List.Perm.refl _) 6 0 rfl rfl rfl hl.1 rfl (Nat.le_of_ble_eq_true rfl) dX6_statement_170 ⟨Nat.le_of_ble_eq_true rfl, Nat.le_of_ble_eq_true rfl⟩ (fun rj_390 H locs hp392 hH hS => ?_)
                  have hH : Hold X A [mO h Q km ((lnn : Nat) : Int) (((sj_357 + 1) : Nat) : Int) ((rj_390 : Nat) : Int), aW X (Q 0) 125 s, aW X (Q 1) 125 rd, aW X (Q 2) 625 kp, aW X (Q 3) 400 tx, aW X (Q 4) 8 wi, aW X (Q 5) 8 gi].flatten H := hH
                  have hc_170 := hp392
                  obtain rfl : rj_390 = 3 := hc_170.trans (by decide)
                  refine lv_aload_n S.1 S.2.1 dX6_statement_173 rfl (lv_at hl 4 rfl) ?_
                  refine zv_get (v := .int (iI ((3 : Nat) : Int))) S hAM hH nX6_statement_X6 0 rfl rfl 7 (by decide) mX6_statement_3 rfl rfl dX6_statement_174 ?_
                  refine zv_if_ne (tgt := 191) S dX6_statement_177 (by decide) (by decide) (fun c_177 => ?_) (fun c_177 => ?_)
                  · skip
                    refine lv_goto (tgt := 344) S.1 S.2.1 dX6_statement_191 (by decide) ?_
                    have eS : stm tx lnn p rd = (3, 0, rd) := by rw [stm, if_neg c_19, if_pos c_109, stRole, if_pos q1, if_pos q2, stNums, hm_118, bnd_some, hm_123, bnd_some, if_pos hq_131, if_neg (by omega)]
                    rw [eS] at hret
                    exact hret 344 ls _ _ ((sj_357 + 1), 3) dX6_statement_344 ⟨rfl, (fun z => absurd z (by decide)), (by omega)⟩ hH hS
                  · exact (show False by omega).elim
                · skip
                  refine lv_iconst (v := iI (((1 : Nat) : Int))) S.1 S.2.1 dX6_statement_165 (by decide) ?_
                  refine lv_goto (tgt := 170) S.1 S.2.1 dX6_statement_166 (by decide) ?_
                  refine zc_Vv (n := 2) (As := [.int (iI ((0 : Nat) : Int)), .int (iI ((1 : Nat) : Int))]) (rest := []) S hAM hA (kX6_checked l X h Q s rd kp km tx lnn (sj_357 + 1) 0 wi gi 0 1 ht (by decide) (by decide) (by decide)) rfl gX6_statement_X6_checked  (by decide +kernel) ⟨Nat.le_of_ble_eq_true rfl, Nat.le_of_ble_eq_true rfl⟩ hH hS [0, 1, 2, 3, 4, 5, 6] rfl 7 rfl (List.Perm.refl _) 6 0 rfl rfl rfl hl.1 rfl (Nat.le_of_ble_eq_true rfl) dX6_statement_170 ⟨Nat.le_of_ble_eq_true rfl, Nat.le_of_ble_eq_true rfl⟩ (fun rj_393 H locs hp395 hH hS => ?_)
                  have hH : Hold X A [mO h Q km ((lnn : Nat) : Int) (((sj_357 + 1) : Nat) : Int) ((rj_393 : Nat) : Int), aW X (Q 0) 125 s, aW X (Q 1) 125 rd, aW X (Q 2) 625 kp, aW X (Q 3) 400 tx, aW X (Q 4) 8 wi, aW X (Q 5) 8 gi].flatten H := hH
                  have hc_170 := hp395
                  obtain rfl : rj_393 = 3 := hc_170.trans (by decide)
                  refine lv_aload_n S.1 S.2.1 dX6_statement_173 rfl (lv_at hl 4 rfl) ?_
                  refine zv_get (v := .int (iI ((3 : Nat) : Int))) S hAM hH nX6_statement_X6 0 rfl rfl 7 (by decide) mX6_statement_3 rfl rfl dX6_statement_174 ?_
                  refine zv_if_ne (tgt := 191) S dX6_statement_177 (by decide) (by decide) (fun c_177 => ?_) (fun c_177 => ?_)
                  · skip
                    refine lv_goto (tgt := 344) S.1 S.2.1 dX6_statement_191 (by decide) ?_
                    have eS : stm tx lnn p rd = (3, 0, rd) := by rw [stm, if_neg c_19, if_pos c_109, stRole, if_pos q1, if_pos q2, stNums, hm_118, bnd_some, hm_123, bnd_some, if_pos hq_131, if_neg (by omega)]
                    rw [eS] at hret
                    exact hret 344 ls _ _ ((sj_357 + 1), 3) dX6_statement_344 ⟨rfl, (fun z => absurd z (by decide)), (by omega)⟩ hH hS
                  · exact (show False by omega).elim
              · skip
                refine lv_iload S.1 S.2.1 dX6_statement_141 (lv_at hl 0 rfl) ?_
                refine lv_bipush (v := iI (((60 : Nat) : Int))) S.1 S.2.1 dX6_statement_143 (by decide) ?_
                refine zv_icmp_gt (tgt := 152) S dX6_statement_145 (by decide) (by omega) (by decide) (fun c_145 => ?_) (fun c_145 => ?_)
                · skip
                  refine lv_iconst (v := iI (((0 : Nat) : Int))) S.1 S.2.1 dX6_statement_152 (by decide) ?_
                  refine lv_aload_n S.1 S.2.1 dX6_statement_153 rfl (lv_at hl 4 rfl) ?_
                  refine zv_get (v := .ref (Q 1)) S hAM hH nX6_statement_X6 0 rfl rfl 1 (by decide) mX6_statement_2 rfl rfl dX6_statement_154 ?_
                  refine lv_bipush (v := iI (((11 : Nat) : Int))) S.1 S.2.1 dX6_statement_157 (by decide) ?_
                  refine zv_iald S hAM hH 2 rfl (11) rfl (by decide) (by decide) dX6_statement_159 ?_
                  refine zv_top (z := rd 11) (z2 := ((nr rd : Nat) : Int)) hrd.e11 ?_
                  refine lv_bipush (v := iI (((8 : Nat) : Int))) S.1 S.2.1 dX6_statement_160 (by decide) ?_
                  refine zv_icmp_ge (tgt := 169) S dX6_statement_162 (by decide) (by omega) (by decide) (fun c_162 => ?_) (fun c_162 => ?_)
                  · skip
                    refine lv_iconst (v := iI (((0 : Nat) : Int))) S.1 S.2.1 dX6_statement_169 (by decide) ?_
                    refine zc_Vv (n := 2) (As := [.int (iI ((0 : Nat) : Int)), .int (iI ((0 : Nat) : Int))]) (rest := []) S hAM hA (kX6_checked l X h Q s rd kp km tx lnn (sj_357 + 1) 0 wi gi 0 0 ht (by decide) (by decide) (by decide)) rfl gX6_statement_X6_checked  (by decide +kernel) ⟨Nat.le_of_ble_eq_true rfl, Nat.le_of_ble_eq_true rfl⟩ hH hS [0, 1, 2, 3, 4, 5, 6] rfl 7 rfl (List.Perm.refl _) 6 0 rfl rfl rfl hl.1 rfl (Nat.le_of_ble_eq_true rfl) dX6_statement_170 ⟨Nat.le_of_ble_eq_true rfl, Nat.le_of_ble_eq_true rfl⟩ (fun rj_396 H locs hp398 hH hS => ?_)
                    have hH : Hold X A [mO h Q km ((lnn : Nat) : Int) (((sj_357 + 1) : Nat) : Int) ((rj_396 : Nat) : Int), aW X (Q 0) 125 s, aW X (Q 1) 125 rd, aW X (Q 2) 625 kp, aW X (Q 3) 400 tx, aW X (Q 4) 8 wi, aW X (Q 5) 8 gi].flatten H := hH
                    have hc_170 := hp398
                    obtain rfl : rj_396 = 3 := hc_170.trans (by decide)
                    refine lv_aload_n S.1 S.2.1 dX6_statement_173 rfl (lv_at hl 4 rfl) ?_
                    refine zv_get (v := .int (iI ((3 : Nat) : Int))) S hAM hH nX6_statement_X6 0 rfl rfl 7 (by decide) mX6_statement_3 rfl rfl dX6_statement_174 ?_
                    refine zv_if_ne (tgt := 191) S dX6_statement_177 (by decide) (by decide) (fun c_177 => ?_) (fun c_177 => ?_)
                    · skip
                      refine lv_goto (tgt := 344) S.1 S.2.1 dX6_statement_191 (by decide) ?_
                      have eS : stm tx lnn p rd = (3, 0, rd) := by rw [stm, if_neg c_19, if_pos c_109, stRole, if_pos q1, if_pos q2, stNums, hm_118, bnd_some, hm_123, bnd_some, if_pos hq_131, if_neg (by omega)]
                      rw [eS] at hret
                      exact hret 344 ls _ _ ((sj_357 + 1), 3) dX6_statement_344 ⟨rfl, (fun z => absurd z (by decide)), (by omega)⟩ hH hS
                    · exact (show False by omega).elim
                  · skip
                    refine lv_iconst (v := iI (((1 : Nat) : Int))) S.1 S.2.1 dX6_statement_165 (by decide) ?_
                    refine lv_goto (tgt := 170) S.1 S.2.1 dX6_statement_166 (by decide) ?_
                    refine zc_Vv (n := 2) (As := [.int (iI ((0 : Nat) : Int)), .int (iI ((1 : Nat) : Int))]) (rest := []) S hAM hA (kX6_checked l X h Q s rd kp km tx lnn (sj_357 + 1) 0 wi gi 0 1 ht (by decide) (by decide) (by decide)) rfl gX6_statement_X6_checked  (by decide +kernel) ⟨Nat.le_of_ble_eq_true rfl, Nat.le_of_ble_eq_true rfl⟩ hH hS [0, 1, 2, 3, 4, 5, 6] rfl 7 rfl (List.Perm.refl _) 6 0 rfl rfl rfl hl.1 rfl (Nat.le_of_ble_eq_true rfl) dX6_statement_170 ⟨Nat.le_of_ble_eq_true rfl, Nat.le_of_ble_eq_true rfl⟩ (fun rj_399 H locs hp401 hH hS => ?_)
                    have hH : Hold X A [mO h Q km ((lnn : Nat) : Int) (((sj_357 + 1) : Nat) : Int) ((rj_399 : Nat) : Int), aW X (Q 0) 125 s, aW X (Q 1) 125 rd, aW X (Q 2) 625 kp, aW X (Q 3) 400 tx, aW X (Q 4) 8 wi, aW X (Q 5) 8 gi].flatten H := hH
                    have hc_170 := hp401
                    obtain rfl : rj_399 = 3 := hc_170.trans (by decide)
                    refine lv_aload_n S.1 S.2.1 dX6_statement_173 rfl (lv_at hl 4 rfl) ?_
                    refine zv_get (v := .int (iI ((3 : Nat) : Int))) S hAM hH nX6_statement_X6 0 rfl rfl 7 (by decide) mX6_statement_3 rfl rfl dX6_statement_174 ?_
                    refine zv_if_ne (tgt := 191) S dX6_statement_177 (by decide) (by decide) (fun c_177 => ?_) (fun c_177 => ?_)
                    · skip
                      refine lv_goto (tgt := 344) S.1 S.2.1 dX6_statement_191 (by decide) ?_
                      have eS : stm tx lnn p rd = (3, 0, rd) := by rw [stm, if_neg c_19, if_pos c_109, stRole, if_pos q1, if_pos q2, stNums, hm_118, bnd_some, hm_123, bnd_some, if_pos hq_131, if_neg (by omega)]
                      rw [eS] at hret
                      exact hret 344 ls _ _ ((sj_357 + 1), 3) dX6_statement_344 ⟨rfl, (fun z => absurd z (by decide)), (by omega)⟩ hH hS
                    · exact (show False by omega).elim
                · skip
                  refine lv_iconst (v := iI (((1 : Nat) : Int))) S.1 S.2.1 dX6_statement_148 (by decide) ?_
                  refine lv_goto (tgt := 153) S.1 S.2.1 dX6_statement_149 (by decide) ?_
                  refine lv_aload_n S.1 S.2.1 dX6_statement_153 rfl (lv_at hl 4 rfl) ?_
                  refine zv_get (v := .ref (Q 1)) S hAM hH nX6_statement_X6 0 rfl rfl 1 (by decide) mX6_statement_2 rfl rfl dX6_statement_154 ?_
                  refine lv_bipush (v := iI (((11 : Nat) : Int))) S.1 S.2.1 dX6_statement_157 (by decide) ?_
                  refine zv_iald S hAM hH 2 rfl (11) rfl (by decide) (by decide) dX6_statement_159 ?_
                  refine zv_top (z := rd 11) (z2 := ((nr rd : Nat) : Int)) hrd.e11 ?_
                  refine lv_bipush (v := iI (((8 : Nat) : Int))) S.1 S.2.1 dX6_statement_160 (by decide) ?_
                  refine zv_icmp_ge (tgt := 169) S dX6_statement_162 (by decide) (by omega) (by decide) (fun c_162 => ?_) (fun c_162 => ?_)
                  · skip
                    refine lv_iconst (v := iI (((0 : Nat) : Int))) S.1 S.2.1 dX6_statement_169 (by decide) ?_
                    refine zc_Vv (n := 2) (As := [.int (iI ((1 : Nat) : Int)), .int (iI ((0 : Nat) : Int))]) (rest := []) S hAM hA (kX6_checked l X h Q s rd kp km tx lnn (sj_357 + 1) 0 wi gi 1 0 ht (by decide) (by decide) (by decide)) rfl gX6_statement_X6_checked  (by decide +kernel) ⟨Nat.le_of_ble_eq_true rfl, Nat.le_of_ble_eq_true rfl⟩ hH hS [0, 1, 2, 3, 4, 5, 6] rfl 7 rfl (List.Perm.refl _) 6 0 rfl rfl rfl hl.1 rfl (Nat.le_of_ble_eq_true rfl) dX6_statement_170 ⟨Nat.le_of_ble_eq_true rfl, Nat.le_of_ble_eq_true rfl⟩ (fun rj_402 H locs hp404 hH hS => ?_)
                    have hH : Hold X A [mO h Q km ((lnn : Nat) : Int) (((sj_357 + 1) : Nat) : Int) ((rj_402 : Nat) : Int), aW X (Q 0) 125 s, aW X (Q 1) 125 rd, aW X (Q 2) 625 kp, aW X (Q 3) 400 tx, aW X (Q 4) 8 wi, aW X (Q 5) 8 gi].flatten H := hH
                    have hc_170 := hp404
                    obtain rfl : rj_402 = 4 := hc_170.trans (by decide)
                    refine lv_aload_n S.1 S.2.1 dX6_statement_173 rfl (lv_at hl 4 rfl) ?_
                    refine zv_get (v := .int (iI ((4 : Nat) : Int))) S hAM hH nX6_statement_X6 0 rfl rfl 7 (by decide) mX6_statement_3 rfl rfl dX6_statement_174 ?_
                    refine zv_if_ne (tgt := 191) S dX6_statement_177 (by decide) (by decide) (fun c_177 => ?_) (fun c_177 => ?_)
                    · skip
                      refine lv_goto (tgt := 344) S.1 S.2.1 dX6_statement_191 (by decide) ?_
                      have eS : stm tx lnn p rd = (4, 0, rd) := by rw [stm, if_neg c_19, if_pos c_109, stRole, if_pos q1, if_pos q2, stNums, hm_118, bnd_some, hm_123, bnd_some, if_pos hq_131, if_pos (by omega), if_neg (by omega)]
                      rw [eS] at hret
                      exact hret 344 ls _ _ ((sj_357 + 1), 4) dX6_statement_344 ⟨rfl, (fun z => absurd z (by decide)), (by omega)⟩ hH hS
                    · exact (show False by omega).elim
                  · skip
                    refine lv_iconst (v := iI (((1 : Nat) : Int))) S.1 S.2.1 dX6_statement_165 (by decide) ?_
                    refine lv_goto (tgt := 170) S.1 S.2.1 dX6_statement_166 (by decide) ?_
                    refine zc_Vv (n := 2) (As := [.int (iI ((1 : Nat) : Int)), .int (iI ((1 : Nat) : Int))]) (rest := []) S hAM hA (kX6_checked l X h Q s rd kp km tx lnn (sj_357 + 1) 0 wi gi 1 1 ht (by decide) (by decide) (by decide)) rfl gX6_statement_X6_checked  (by decide +kernel) ⟨Nat.le_of_ble_eq_true rfl, Nat.le_of_ble_eq_true rfl⟩ hH hS [0, 1, 2, 3, 4, 5, 6] rfl 7 rfl (List.Perm.refl _) 6 0 rfl rfl rfl hl.1 rfl (Nat.le_of_ble_eq_true rfl) dX6_statement_170 ⟨Nat.le_of_ble_eq_true rfl, Nat.le_of_ble_eq_true rfl⟩ (fun rj_405 H locs hp407 hH hS => ?_)
                    have hH : Hold X A [mO h Q km ((lnn : Nat) : Int) (((sj_357 + 1) : Nat) : Int) ((rj_405 : Nat) : Int), aW X (Q 0) 125 s, aW X (Q 1) 125 rd, aW X (Q 2) 625 kp, aW X (Q 3) 400 tx, aW X (Q 4) 8 wi, aW X (Q 5) 8 gi].flatten H := hH
                    have hc_170 := hp407
                    obtain rfl : rj_405 = 0 := hc_170.trans (by decide)
                    refine lv_aload_n S.1 S.2.1 dX6_statement_173 rfl (lv_at hl 4 rfl) ?_
                    refine zv_get (v := .int (iI ((0 : Nat) : Int))) S hAM hH nX6_statement_X6 0 rfl rfl 7 (by decide) mX6_statement_3 rfl rfl dX6_statement_174 ?_
                    refine zv_if_ne (tgt := 191) S dX6_statement_177 (by decide) (by decide) (fun c_177 => ?_) (fun c_177 => ?_)
                    · exact (show False by omega).elim
                    · skip
                      refine lv_aload_n S.1 S.2.1 dX6_statement_180 rfl (lv_at hl 4 rfl) ?_
                      refine zv_get (v := .ref (Q 1)) S hAM hH nX6_statement_X6 0 rfl rfl 1 (by decide) mX6_statement_2 rfl rfl dX6_statement_181 ?_
                      refine lv_iload_n S.1 S.2.1 dX6_statement_184 rfl (lv_at hl 2 rfl) ?_
                      refine lv_iload_n S.1 S.2.1 dX6_statement_185 rfl (lv_at hl 1 rfl) ?_
                      refine lv_iload S.1 S.2.1 dX6_statement_186 (lv_at hl 0 rfl) ?_
                      refine zc_Sv (n := 4) (As := [.ref (Q 1), .int (iI ((0 : Nat) : Int)), .int (iI ((zz_321 : Nat) : Int)), .int (iI ((zz_356 : Nat) : Int))]) (rest := []) S hAM hA (kX6_role l X (Q 1) rd 0 ((zz_321 : Nat) : Int) ((zz_356 : Nat) : Int) hrd (by omega)) rfl gX6_statement_X6_role  (by decide +kernel) ⟨Nat.le_of_ble_eq_true rfl, Nat.le_of_ble_eq_true rfl⟩ hH hS [2, 0, 1, 3, 4, 5, 6] rfl 7 rfl (by decide)  rfl hl.1 rfl (Nat.le_of_ble_eq_true rfl) dX6_statement_188 ⟨Nat.le_of_ble_eq_true rfl, Nat.le_of_ble_eq_true rfl⟩ (fun _ H locs hp410 hH hS => ?_)
                      have hH : Hold X A [aW X (Q 1) 125 (addRole rd 0 ((zz_321 : Nat) : Int) ((zz_356 : Nat) : Int)), mO h Q km ((lnn : Nat) : Int) (((sj_357 + 1) : Nat) : Int) ((0 : Nat) : Int), aW X (Q 0) 125 s, aW X (Q 2) 625 kp, aW X (Q 3) 400 tx, aW X (Q 4) 8 wi, aW X (Q 5) 8 gi].flatten H := hH
                      refine lv_goto (tgt := 344) S.1 S.2.1 dX6_statement_191 (by decide) ?_
                      have hH : Hold X A [mO h Q km ((lnn : Nat) : Int) (((sj_357 + 1) : Nat) : Int) ((0 : Nat) : Int), aW X (Q 0) 125 s, aW X (Q 1) 125 (addRole rd 0 ((zz_321 : Nat) : Int) ((zz_356 : Nat) : Int)), aW X (Q 2) 625 kp, aW X (Q 3) 400 tx, aW X (Q 4) 8 wi, aW X (Q 5) 8 gi].flatten _ := hH.pick [1, 2, 0, 3, 4, 5, 6] rfl 7 rfl (by decide)
                      have eS : stm tx lnn p rd = (0, (sj_357 + 1), (addRole rd 0 ((zz_321 : Nat) : Int) ((zz_356 : Nat) : Int))) := by rw [stm, if_neg c_19, if_pos c_109, stRole, if_pos q1, if_pos q2, stNums, hm_118, bnd_some, hm_123, bnd_some, if_pos hq_131, if_pos (by omega), if_pos (by omega)]
                      rw [eS] at hret
                      exact hret 344 ls _ _ ((sj_357 + 1), 0) dX6_statement_344 ⟨rfl, (fun _ => rfl), (by omega)⟩ hH hS
            · skip
              refine lv_aload_n S.1 S.2.1 dX6_statement_134 rfl (lv_at hl 4 rfl) ?_
              refine lv_iload_n S.1 S.2.1 dX6_statement_135 rfl (lv_at hl 1 rfl) ?_
              refine lv_bipush (v := iI (((60 : Nat) : Int))) S.1 S.2.1 dX6_statement_136 (by decide) ?_
              refine zv_icmp_gt (tgt := 152) S dX6_statement_138 (by decide) (by omega) (by decide) (fun c_138 => ?_) (fun c_138 => ?_)
              · skip
                refine lv_iconst (v := iI (((0 : Nat) : Int))) S.1 S.2.1 dX6_statement_152 (by decide) ?_
                refine lv_aload_n S.1 S.2.1 dX6_statement_153 rfl (lv_at hl 4 rfl) ?_
                refine zv_get (v := .ref (Q 1)) S hAM hH nX6_statement_X6 0 rfl rfl 1 (by decide) mX6_statement_2 rfl rfl dX6_statement_154 ?_
                refine lv_bipush (v := iI (((11 : Nat) : Int))) S.1 S.2.1 dX6_statement_157 (by decide) ?_
                refine zv_iald S hAM hH 2 rfl (11) rfl (by decide) (by decide) dX6_statement_159 ?_
                refine zv_top (z := rd 11) (z2 := ((nr rd : Nat) : Int)) hrd.e11 ?_
                refine lv_bipush (v := iI (((8 : Nat) : Int))) S.1 S.2.1 dX6_statement_160 (by decide) ?_
                refine zv_icmp_ge (tgt := 169) S dX6_statement_162 (by decide) (by omega) (by decide) (fun c_162 => ?_) (fun c_162 => ?_)
                · skip
                  refine lv_iconst (v := iI (((0 : Nat) : Int))) S.1 S.2.1 dX6_statement_169 (by decide) ?_
                  refine zc_Vv (n := 2) (As := [.int (iI ((0 : Nat) : Int)), .int (iI ((0 : Nat) : Int))]) (rest := []) S hAM hA (kX6_checked l X h Q s rd kp km tx lnn (sj_357 + 1) 2 wi gi 0 0 ht (by decide) (by decide) (by decide)) rfl gX6_statement_X6_checked  (by decide +kernel) ⟨Nat.le_of_ble_eq_true rfl, Nat.le_of_ble_eq_true rfl⟩ hH hS [0, 1, 2, 3, 4, 5, 6] rfl 7 rfl (List.Perm.refl _) 6 0 rfl rfl rfl hl.1 rfl (Nat.le_of_ble_eq_true rfl) dX6_statement_170 ⟨Nat.le_of_ble_eq_true rfl, Nat.le_of_ble_eq_true rfl⟩ (fun rj_411 H locs hp413 hH hS => ?_)
                  have hH : Hold X A [mO h Q km ((lnn : Nat) : Int) (((sj_357 + 1) : Nat) : Int) ((rj_411 : Nat) : Int), aW X (Q 0) 125 s, aW X (Q 1) 125 rd, aW X (Q 2) 625 kp, aW X (Q 3) 400 tx, aW X (Q 4) 8 wi, aW X (Q 5) 8 gi].flatten H := hH
                  have hc_170 := hp413
                  obtain rfl : rj_411 = 2 := hc_170.trans (by decide)
                  refine lv_aload_n S.1 S.2.1 dX6_statement_173 rfl (lv_at hl 4 rfl) ?_
                  refine zv_get (v := .int (iI ((2 : Nat) : Int))) S hAM hH nX6_statement_X6 0 rfl rfl 7 (by decide) mX6_statement_3 rfl rfl dX6_statement_174 ?_
                  refine zv_if_ne (tgt := 191) S dX6_statement_177 (by decide) (by decide) (fun c_177 => ?_) (fun c_177 => ?_)
                  · skip
                    refine lv_goto (tgt := 344) S.1 S.2.1 dX6_statement_191 (by decide) ?_
                    have eS : stm tx lnn p rd = (2, 0, rd) := by rw [stm, if_neg c_19, if_pos c_109, stRole, if_pos q1, if_pos q2, stNums, hm_118, bnd_some, hm_123, bnd_some, if_neg hq_131]
                    rw [eS] at hret
                    exact hret 344 ls _ _ ((sj_357 + 1), 2) dX6_statement_344 ⟨rfl, (fun z => absurd z (by decide)), (by omega)⟩ hH hS
                  · exact (show False by omega).elim
                · skip
                  refine lv_iconst (v := iI (((1 : Nat) : Int))) S.1 S.2.1 dX6_statement_165 (by decide) ?_
                  refine lv_goto (tgt := 170) S.1 S.2.1 dX6_statement_166 (by decide) ?_
                  refine zc_Vv (n := 2) (As := [.int (iI ((0 : Nat) : Int)), .int (iI ((1 : Nat) : Int))]) (rest := []) S hAM hA (kX6_checked l X h Q s rd kp km tx lnn (sj_357 + 1) 2 wi gi 0 1 ht (by decide) (by decide) (by decide)) rfl gX6_statement_X6_checked  (by decide +kernel) ⟨Nat.le_of_ble_eq_true rfl, Nat.le_of_ble_eq_true rfl⟩ hH hS [0, 1, 2, 3, 4, 5, 6] rfl 7 rfl (List.Perm.refl _) 6 0 rfl rfl rfl hl.1 rfl (Nat.le_of_ble_eq_true rfl) dX6_statement_170 ⟨Nat.le_of_ble_eq_true rfl, Nat.le_of_ble_eq_true rfl⟩ (fun rj_414 H locs hp416 hH hS => ?_)
                  have hH : Hold X A [mO h Q km ((lnn : Nat) : Int) (((sj_357 + 1) : Nat) : Int) ((rj_414 : Nat) : Int), aW X (Q 0) 125 s, aW X (Q 1) 125 rd, aW X (Q 2) 625 kp, aW X (Q 3) 400 tx, aW X (Q 4) 8 wi, aW X (Q 5) 8 gi].flatten H := hH
                  have hc_170 := hp416
                  obtain rfl : rj_414 = 2 := hc_170.trans (by decide)
                  refine lv_aload_n S.1 S.2.1 dX6_statement_173 rfl (lv_at hl 4 rfl) ?_
                  refine zv_get (v := .int (iI ((2 : Nat) : Int))) S hAM hH nX6_statement_X6 0 rfl rfl 7 (by decide) mX6_statement_3 rfl rfl dX6_statement_174 ?_
                  refine zv_if_ne (tgt := 191) S dX6_statement_177 (by decide) (by decide) (fun c_177 => ?_) (fun c_177 => ?_)
                  · skip
                    refine lv_goto (tgt := 344) S.1 S.2.1 dX6_statement_191 (by decide) ?_
                    have eS : stm tx lnn p rd = (2, 0, rd) := by rw [stm, if_neg c_19, if_pos c_109, stRole, if_pos q1, if_pos q2, stNums, hm_118, bnd_some, hm_123, bnd_some, if_neg hq_131]
                    rw [eS] at hret
                    exact hret 344 ls _ _ ((sj_357 + 1), 2) dX6_statement_344 ⟨rfl, (fun z => absurd z (by decide)), (by omega)⟩ hH hS
                  · exact (show False by omega).elim
              · skip
                refine lv_iload S.1 S.2.1 dX6_statement_141 (lv_at hl 0 rfl) ?_
                refine lv_bipush (v := iI (((60 : Nat) : Int))) S.1 S.2.1 dX6_statement_143 (by decide) ?_
                refine zv_icmp_gt (tgt := 152) S dX6_statement_145 (by decide) (by omega) (by decide) (fun c_145 => ?_) (fun c_145 => ?_)
                · skip
                  refine lv_iconst (v := iI (((0 : Nat) : Int))) S.1 S.2.1 dX6_statement_152 (by decide) ?_
                  refine lv_aload_n S.1 S.2.1 dX6_statement_153 rfl (lv_at hl 4 rfl) ?_
                  refine zv_get (v := .ref (Q 1)) S hAM hH nX6_statement_X6 0 rfl rfl 1 (by decide) mX6_statement_2 rfl rfl dX6_statement_154 ?_
                  refine lv_bipush (v := iI (((11 : Nat) : Int))) S.1 S.2.1 dX6_statement_157 (by decide) ?_
                  refine zv_iald S hAM hH 2 rfl (11) rfl (by decide) (by decide) dX6_statement_159 ?_
                  refine zv_top (z := rd 11) (z2 := ((nr rd : Nat) : Int)) hrd.e11 ?_
                  refine lv_bipush (v := iI (((8 : Nat) : Int))) S.1 S.2.1 dX6_statement_160 (by decide) ?_
                  refine zv_icmp_ge (tgt := 169) S dX6_statement_162 (by decide) (by omega) (by decide) (fun c_162 => ?_) (fun c_162 => ?_)
                  · skip
                    refine lv_iconst (v := iI (((0 : Nat) : Int))) S.1 S.2.1 dX6_statement_169 (by decide) ?_
                    refine zc_Vv (n := 2) (As := [.int (iI ((0 : Nat) : Int)), .int (iI ((0 : Nat) : Int))]) (rest := []) S hAM hA (kX6_checked l X h Q s rd kp km tx lnn (sj_357 + 1) 2 wi gi 0 0 ht (by decide) (by decide) (by decide)) rfl gX6_statement_X6_checked  (by decide +kernel) ⟨Nat.le_of_ble_eq_true rfl, Nat.le_of_ble_eq_true rfl⟩ hH hS [0, 1, 2, 3, 4, 5, 6] rfl 7 rfl (List.Perm.refl _) 6 0 rfl rfl rfl hl.1 rfl (Nat.le_of_ble_eq_true rfl) dX6_statement_170 ⟨Nat.le_of_ble_eq_true rfl, Nat.le_of_ble_eq_true rfl⟩ (fun rj_417 H locs hp419 hH hS => ?_)
                    have hH : Hold X A [mO h Q km ((lnn : Nat) : Int) (((sj_357 + 1) : Nat) : Int) ((rj_417 : Nat) : Int), aW X (Q 0) 125 s, aW X (Q 1) 125 rd, aW X (Q 2) 625 kp, aW X (Q 3) 400 tx, aW X (Q 4) 8 wi, aW X (Q 5) 8 gi].flatten H := hH
                    have hc_170 := hp419
                    obtain rfl : rj_417 = 2 := hc_170.trans (by decide)
                    refine lv_aload_n S.1 S.2.1 dX6_statement_173 rfl (lv_at hl 4 rfl) ?_
                    refine zv_get (v := .int (iI ((2 : Nat) : Int))) S hAM hH nX6_statement_X6 0 rfl rfl 7 (by decide) mX6_statement_3 rfl rfl dX6_statement_174 ?_
                    refine zv_if_ne (tgt := 191) S dX6_statement_177 (by decide) (by decide) (fun c_177 => ?_) (fun c_177 => ?_)
                    · skip
                      refine lv_goto (tgt := 344) S.1 S.2.1 dX6_statement_191 (by decide) ?_
                      have eS : stm tx lnn p rd = (2, 0, rd) := by rw [stm, if_neg c_19, if_pos c_109, stRole, if_pos q1, if_pos q2, stNums, hm_118, bnd_some, hm_123, bnd_some, if_neg hq_131]
                      rw [eS] at hret
                      exact hret 344 ls _ _ ((sj_357 + 1), 2) dX6_statement_344 ⟨rfl, (fun z => absurd z (by decide)), (by omega)⟩ hH hS
                    · exact (show False by omega).elim
                  · skip
                    refine lv_iconst (v := iI (((1 : Nat) : Int))) S.1 S.2.1 dX6_statement_165 (by decide) ?_
                    refine lv_goto (tgt := 170) S.1 S.2.1 dX6_statement_166 (by decide) ?_
                    refine zc_Vv (n := 2) (As := [.int (iI ((0 : Nat) : Int)), .int (iI ((1 : Nat) : Int))]) (rest := []) S hAM hA (kX6_checked l X h Q s rd kp km tx lnn (sj_357 + 1) 2 wi gi 0 1 ht (by decide) (by decide) (by decide)) rfl gX6_statement_X6_checked  (by decide +kernel) ⟨Nat.le_of_ble_eq_true rfl, Nat.le_of_ble_eq_true rfl⟩ hH hS [0, 1, 2, 3, 4, 5, 6] rfl 7 rfl (List.Perm.refl _) 6 0 rfl rfl rfl hl.1 rfl (Nat.le_of_ble_eq_true rfl) dX6_statement_170 ⟨Nat.le_of_ble_eq_true rfl, Nat.le_of_ble_eq_true rfl⟩ (fun rj_420 H locs hp422 hH hS => ?_)
                    have hH : Hold X A [mO h Q km ((lnn : Nat) : Int) (((sj_357 + 1) : Nat) : Int) ((rj_420 : Nat) : Int), aW X (Q 0) 125 s, aW X (Q 1) 125 rd, aW X (Q 2) 625 kp, aW X (Q 3) 400 tx, aW X (Q 4) 8 wi, aW X (Q 5) 8 gi].flatten H := hH
                    have hc_170 := hp422
                    obtain rfl : rj_420 = 2 := hc_170.trans (by decide)
                    refine lv_aload_n S.1 S.2.1 dX6_statement_173 rfl (lv_at hl 4 rfl) ?_
                    refine zv_get (v := .int (iI ((2 : Nat) : Int))) S hAM hH nX6_statement_X6 0 rfl rfl 7 (by decide) mX6_statement_3 rfl rfl dX6_statement_174 ?_
                    refine zv_if_ne (tgt := 191) S dX6_statement_177 (by decide) (by decide) (fun c_177 => ?_) (fun c_177 => ?_)
                    · skip
                      refine lv_goto (tgt := 344) S.1 S.2.1 dX6_statement_191 (by decide) ?_
                      have eS : stm tx lnn p rd = (2, 0, rd) := by rw [stm, if_neg c_19, if_pos c_109, stRole, if_pos q1, if_pos q2, stNums, hm_118, bnd_some, hm_123, bnd_some, if_neg hq_131]
                      rw [eS] at hret
                      exact hret 344 ls _ _ ((sj_357 + 1), 2) dX6_statement_344 ⟨rfl, (fun z => absurd z (by decide)), (by omega)⟩ hH hS
                    · exact (show False by omega).elim
                · skip
                  refine lv_iconst (v := iI (((1 : Nat) : Int))) S.1 S.2.1 dX6_statement_148 (by decide) ?_
                  refine lv_goto (tgt := 153) S.1 S.2.1 dX6_statement_149 (by decide) ?_
                  refine lv_aload_n S.1 S.2.1 dX6_statement_153 rfl (lv_at hl 4 rfl) ?_
                  refine zv_get (v := .ref (Q 1)) S hAM hH nX6_statement_X6 0 rfl rfl 1 (by decide) mX6_statement_2 rfl rfl dX6_statement_154 ?_
                  refine lv_bipush (v := iI (((11 : Nat) : Int))) S.1 S.2.1 dX6_statement_157 (by decide) ?_
                  refine zv_iald S hAM hH 2 rfl (11) rfl (by decide) (by decide) dX6_statement_159 ?_
                  refine zv_top (z := rd 11) (z2 := ((nr rd : Nat) : Int)) hrd.e11 ?_
                  refine lv_bipush (v := iI (((8 : Nat) : Int))) S.1 S.2.1 dX6_statement_160 (by decide) ?_
                  refine zv_icmp_ge (tgt := 169) S dX6_statement_162 (by decide) (by omega) (by decide) (fun c_162 => ?_) (fun c_162 => ?_)
                  · skip
                    refine lv_iconst (v := iI (((0 : Nat) : Int))) S.1 S.2.1 dX6_statement_169 (by decide) ?_
                    refine zc_Vv (n := 2) (As := [.int (iI ((1 : Nat) : Int)), .int (iI ((0 : Nat) : Int))]) (rest := []) S hAM hA (kX6_checked l X h Q s rd kp km tx lnn (sj_357 + 1) 2 wi gi 1 0 ht (by decide) (by decide) (by decide)) rfl gX6_statement_X6_checked  (by decide +kernel) ⟨Nat.le_of_ble_eq_true rfl, Nat.le_of_ble_eq_true rfl⟩ hH hS [0, 1, 2, 3, 4, 5, 6] rfl 7 rfl (List.Perm.refl _) 6 0 rfl rfl rfl hl.1 rfl (Nat.le_of_ble_eq_true rfl) dX6_statement_170 ⟨Nat.le_of_ble_eq_true rfl, Nat.le_of_ble_eq_true rfl⟩ (fun rj_423 H locs hp425 hH hS => ?_)
                    have hH : Hold X A [mO h Q km ((lnn : Nat) : Int) (((sj_357 + 1) : Nat) : Int) ((rj_423 : Nat) : Int), aW X (Q 0) 125 s, aW X (Q 1) 125 rd, aW X (Q 2) 625 kp, aW X (Q 3) 400 tx, aW X (Q 4) 8 wi, aW X (Q 5) 8 gi].flatten H := hH
                    have hc_170 := hp425
                    obtain rfl : rj_423 = 2 := hc_170.trans (by decide)
                    refine lv_aload_n S.1 S.2.1 dX6_statement_173 rfl (lv_at hl 4 rfl) ?_
                    refine zv_get (v := .int (iI ((2 : Nat) : Int))) S hAM hH nX6_statement_X6 0 rfl rfl 7 (by decide) mX6_statement_3 rfl rfl dX6_statement_174 ?_
                    refine zv_if_ne (tgt := 191) S dX6_statement_177 (by decide) (by decide) (fun c_177 => ?_) (fun c_177 => ?_)
                    · skip
                      refine lv_goto (tgt := 344) S.1 S.2.1 dX6_statement_191 (by decide) ?_
                      have eS : stm tx lnn p rd = (2, 0, rd) := by rw [stm, if_neg c_19, if_pos c_109, stRole, if_pos q1, if_pos q2, stNums, hm_118, bnd_some, hm_123, bnd_some, if_neg hq_131]
                      rw [eS] at hret
                      exact hret 344 ls _ _ ((sj_357 + 1), 2) dX6_statement_344 ⟨rfl, (fun z => absurd z (by decide)), (by omega)⟩ hH hS
                    · exact (show False by omega).elim
                  · skip
                    refine lv_iconst (v := iI (((1 : Nat) : Int))) S.1 S.2.1 dX6_statement_165 (by decide) ?_
                    refine lv_goto (tgt := 170) S.1 S.2.1 dX6_statement_166 (by decide) ?_
                    refine zc_Vv (n := 2) (As := [.int (iI ((1 : Nat) : Int)), .int (iI ((1 : Nat) : Int))]) (rest := []) S hAM hA (kX6_checked l X h Q s rd kp km tx lnn (sj_357 + 1) 2 wi gi 1 1 ht (by decide) (by decide) (by decide)) rfl gX6_statement_X6_checked  (by decide +kernel) ⟨Nat.le_of_ble_eq_true rfl, Nat.le_of_ble_eq_true rfl⟩ hH hS [0, 1, 2, 3, 4, 5, 6] rfl 7 rfl (List.Perm.refl _) 6 0 rfl rfl rfl hl.1 rfl (Nat.le_of_ble_eq_true rfl) dX6_statement_170 ⟨Nat.le_of_ble_eq_true rfl, Nat.le_of_ble_eq_true rfl⟩ (fun rj_426 H locs hp428 hH hS => ?_)
                    have hH : Hold X A [mO h Q km ((lnn : Nat) : Int) (((sj_357 + 1) : Nat) : Int) ((rj_426 : Nat) : Int), aW X (Q 0) 125 s, aW X (Q 1) 125 rd, aW X (Q 2) 625 kp, aW X (Q 3) 400 tx, aW X (Q 4) 8 wi, aW X (Q 5) 8 gi].flatten H := hH
                    have hc_170 := hp428
                    obtain rfl : rj_426 = 2 := hc_170.trans (by decide)
                    refine lv_aload_n S.1 S.2.1 dX6_statement_173 rfl (lv_at hl 4 rfl) ?_
                    refine zv_get (v := .int (iI ((2 : Nat) : Int))) S hAM hH nX6_statement_X6 0 rfl rfl 7 (by decide) mX6_statement_3 rfl rfl dX6_statement_174 ?_
                    refine zv_if_ne (tgt := 191) S dX6_statement_177 (by decide) (by decide) (fun c_177 => ?_) (fun c_177 => ?_)
                    · skip
                      refine lv_goto (tgt := 344) S.1 S.2.1 dX6_statement_191 (by decide) ?_
                      have eS : stm tx lnn p rd = (2, 0, rd) := by rw [stm, if_neg c_19, if_pos c_109, stRole, if_pos q1, if_pos q2, stNums, hm_118, bnd_some, hm_123, bnd_some, if_neg hq_131]
                      rw [eS] at hret
                      exact hret 344 ls _ _ ((sj_357 + 1), 2) dX6_statement_344 ⟨rfl, (fun z => absurd z (by decide)), (by omega)⟩ hH hS
                    · exact (show False by omega).elim
      · skip
        refine zv_top (z := 1) (z2 := ((1 : Nat) : Int)) rfl ?_
        have hw5 := we_le tx lnn _ ((we tx lnn p) + 1) rfl
        refine lv_istore_n (lv' := [(2, .int (iI ((1 : Nat) : Int))), (1, .int (iI (wdV tx p (we tx lnn p - p)))), (0, .ref (h))]) S.1 S.2.1 dX6_statement_116 rfl hl (by decide) rfl (fun ls hl => ?_)
        refine lv_aload_n S.1 S.2.1 dX6_statement_117 rfl (lv_at hl 2 rfl) ?_
        refine zc_Vi (n := 0) (As := []) (rest := []) S hAM hA (kX6_number l X h Q s rd kp km tx lnn (we tx lnn ((we tx lnn p) + 1)) 0 wi gi ht (by omega) (by omega) (by omega)) rfl gX6_statement_X6_number  (by decide +kernel) ⟨Nat.le_of_ble_eq_true rfl, Nat.le_of_ble_eq_true rfl⟩ hH hS [0, 1, 2, 3, 4, 5, 6] rfl 7 rfl (List.Perm.refl _) 6 0 rfl rfl rfl hl.1 rfl (Nat.le_of_ble_eq_true rfl) dX6_statement_118 ⟨Nat.le_of_ble_eq_true rfl, Nat.le_of_ble_eq_true rfl⟩ (fun z433 u432 H locs hp434 hH hS => ?_)
        obtain ⟨zz_429, sj_430, rj_431⟩ := u432
        have hH : Hold X A [mO h Q km ((lnn : Nat) : Int) ((sj_430 : Nat) : Int) ((rj_431 : Nat) : Int), aW X (Q 0) 125 s, aW X (Q 1) 125 rd, aW X (Q 2) 625 kp, aW X (Q 3) 400 tx, aW X (Q 4) 8 wi, aW X (Q 5) 8 gi].flatten H := hH
        obtain ⟨rfl, hz_118, hn_118⟩ := hp434
        rcases hn_118 with ⟨q1, -⟩ | ⟨-, rfl, hm_118, hb_118⟩ | ⟨-, rfl, hm_118, hb_118⟩
        · exact absurd rfl q1
        · skip
          refine lv_istore_n (lv' := [(3, .int (iI ((zz_429 : Nat) : Int))), (2, .int (iI ((1 : Nat) : Int))), (1, .int (iI (wdV tx p (we tx lnn p - p)))), (0, .ref (h))]) S.1 S.2.1 dX6_statement_121 rfl hl (by decide) rfl (fun ls hl => ?_)
          refine lv_aload_n S.1 S.2.1 dX6_statement_122 rfl (lv_at hl 3 rfl) ?_
          refine zc_Vi (n := 0) (As := []) (rest := []) S hAM hA (kX6_number l X h Q s rd kp km tx lnn sj_430 2 wi gi ht (by omega) (by omega) (by omega)) rfl gX6_statement_X6_number  (by decide +kernel) ⟨Nat.le_of_ble_eq_true rfl, Nat.le_of_ble_eq_true rfl⟩ hH hS [0, 1, 2, 3, 4, 5, 6] rfl 7 rfl (List.Perm.refl _) 6 0 rfl rfl rfl hl.1 rfl (Nat.le_of_ble_eq_true rfl) dX6_statement_123 ⟨Nat.le_of_ble_eq_true rfl, Nat.le_of_ble_eq_true rfl⟩ (fun z439 u438 H locs hp440 hH hS => ?_)
          obtain ⟨zz_435, sj_436, rj_437⟩ := u438
          have hH : Hold X A [mO h Q km ((lnn : Nat) : Int) ((sj_436 : Nat) : Int) ((rj_437 : Nat) : Int), aW X (Q 0) 125 s, aW X (Q 1) 125 rd, aW X (Q 2) 625 kp, aW X (Q 3) 400 tx, aW X (Q 4) 8 wi, aW X (Q 5) 8 gi].flatten H := hH
          obtain ⟨rfl, hz_123, hn_123⟩ := hp440
          rcases hn_123 with ⟨-, rfl, rfl⟩ | ⟨q1, -⟩ | ⟨q1, -⟩
          · skip
            refine lv_istore (lv' := [(4, .int (iI ((zz_435 : Nat) : Int))), (3, .int (iI ((zz_429 : Nat) : Int))), (2, .int (iI ((1 : Nat) : Int))), (1, .int (iI (wdV tx p (we tx lnn p - p)))), (0, .ref (h))]) S.1 S.2.1 dX6_statement_126 hl (by decide) rfl (fun ls hl => ?_)
            refine lv_aload_n S.1 S.2.1 dX6_statement_128 rfl (lv_at hl 4 rfl) ?_
            refine lv_bipush (v := iI (((59 : Nat) : Int))) S.1 S.2.1 dX6_statement_129 (by decide) ?_
            refine zc_Vv (n := 1) (As := [.int (iI ((59 : Nat) : Int))]) (rest := []) S hAM hA (kX6_wants l X h Q s rd kp km tx lnn sj_430 2 wi gi 59 ht (by decide) (by omega) (by omega)) rfl gX6_statement_X6_wants  (by decide +kernel) ⟨Nat.le_of_ble_eq_true rfl, Nat.le_of_ble_eq_true rfl⟩ hH hS [0, 1, 2, 3, 4, 5, 6] rfl 7 rfl (List.Perm.refl _) 6 0 rfl rfl rfl hl.1 rfl (Nat.le_of_ble_eq_true rfl) dX6_statement_131 ⟨Nat.le_of_ble_eq_true rfl, Nat.le_of_ble_eq_true rfl⟩ (fun u443 H locs hp445 hH hS => ?_)
            obtain ⟨sj_441, rj_442⟩ := u443
            have hH : Hold X A [mO h Q km ((lnn : Nat) : Int) ((sj_441 : Nat) : Int) ((rj_442 : Nat) : Int), aW X (Q 0) 125 s, aW X (Q 1) 125 rd, aW X (Q 2) 625 kp, aW X (Q 3) 400 tx, aW X (Q 4) 8 wi, aW X (Q 5) 8 gi].flatten H := hH
            have hw_131 := hp445
            rcases hw_131 with ⟨-, rfl, rfl⟩ | ⟨q1, -⟩ | ⟨q1, -⟩
            · skip
              refine lv_aload_n S.1 S.2.1 dX6_statement_134 rfl (lv_at hl 4 rfl) ?_
              refine lv_iload_n S.1 S.2.1 dX6_statement_135 rfl (lv_at hl 1 rfl) ?_
              refine lv_bipush (v := iI (((60 : Nat) : Int))) S.1 S.2.1 dX6_statement_136 (by decide) ?_
              refine zv_icmp_gt (tgt := 152) S dX6_statement_138 (by decide) (by omega) (by decide) (fun c_138 => ?_) (fun c_138 => ?_)
              · skip
                refine lv_iconst (v := iI (((0 : Nat) : Int))) S.1 S.2.1 dX6_statement_152 (by decide) ?_
                refine lv_aload_n S.1 S.2.1 dX6_statement_153 rfl (lv_at hl 4 rfl) ?_
                refine zv_get (v := .ref (Q 1)) S hAM hH nX6_statement_X6 0 rfl rfl 1 (by decide) mX6_statement_2 rfl rfl dX6_statement_154 ?_
                refine lv_bipush (v := iI (((11 : Nat) : Int))) S.1 S.2.1 dX6_statement_157 (by decide) ?_
                refine zv_iald S hAM hH 2 rfl (11) rfl (by decide) (by decide) dX6_statement_159 ?_
                refine zv_top (z := rd 11) (z2 := ((nr rd : Nat) : Int)) hrd.e11 ?_
                refine lv_bipush (v := iI (((8 : Nat) : Int))) S.1 S.2.1 dX6_statement_160 (by decide) ?_
                refine zv_icmp_ge (tgt := 169) S dX6_statement_162 (by decide) (by omega) (by decide) (fun c_162 => ?_) (fun c_162 => ?_)
                · skip
                  refine lv_iconst (v := iI (((0 : Nat) : Int))) S.1 S.2.1 dX6_statement_169 (by decide) ?_
                  refine zc_Vv (n := 2) (As := [.int (iI ((0 : Nat) : Int)), .int (iI ((0 : Nat) : Int))]) (rest := []) S hAM hA (kX6_checked l X h Q s rd kp km tx lnn sj_430 2 wi gi 0 0 ht (by decide) (by decide) (by decide)) rfl gX6_statement_X6_checked  (by decide +kernel) ⟨Nat.le_of_ble_eq_true rfl, Nat.le_of_ble_eq_true rfl⟩ hH hS [0, 1, 2, 3, 4, 5, 6] rfl 7 rfl (List.Perm.refl _) 6 0 rfl rfl rfl hl.1 rfl (Nat.le_of_ble_eq_true rfl) dX6_statement_170 ⟨Nat.le_of_ble_eq_true rfl, Nat.le_of_ble_eq_true rfl⟩ (fun rj_446 H locs hp448 hH hS => ?_)
                  have hH : Hold X A [mO h Q km ((lnn : Nat) : Int) ((sj_430 : Nat) : Int) ((rj_446 : Nat) : Int), aW X (Q 0) 125 s, aW X (Q 1) 125 rd, aW X (Q 2) 625 kp, aW X (Q 3) 400 tx, aW X (Q 4) 8 wi, aW X (Q 5) 8 gi].flatten H := hH
                  have hc_170 := hp448
                  obtain rfl : rj_446 = 2 := hc_170.trans (by decide)
                  refine lv_aload_n S.1 S.2.1 dX6_statement_173 rfl (lv_at hl 4 rfl) ?_
                  refine zv_get (v := .int (iI ((2 : Nat) : Int))) S hAM hH nX6_statement_X6 0 rfl rfl 7 (by decide) mX6_statement_3 rfl rfl dX6_statement_174 ?_
                  refine zv_if_ne (tgt := 191) S dX6_statement_177 (by decide) (by decide) (fun c_177 => ?_) (fun c_177 => ?_)
                  · skip
                    refine lv_goto (tgt := 344) S.1 S.2.1 dX6_statement_191 (by decide) ?_
                    have eS : stm tx lnn p rd = (2, 0, rd) := by rw [stm, if_neg c_19, if_pos c_109, stRole, if_pos q1, if_neg q2, if_pos q3, stNums, hm_118, bnd_none]
                    rw [eS] at hret
                    exact hret 344 ls _ _ (sj_430, 2) dX6_statement_344 ⟨rfl, (fun z => absurd z (by decide)), (by omega)⟩ hH hS
                  · exact (show False by omega).elim
                · skip
                  refine lv_iconst (v := iI (((1 : Nat) : Int))) S.1 S.2.1 dX6_statement_165 (by decide) ?_
                  refine lv_goto (tgt := 170) S.1 S.2.1 dX6_statement_166 (by decide) ?_
                  refine zc_Vv (n := 2) (As := [.int (iI ((0 : Nat) : Int)), .int (iI ((1 : Nat) : Int))]) (rest := []) S hAM hA (kX6_checked l X h Q s rd kp km tx lnn sj_430 2 wi gi 0 1 ht (by decide) (by decide) (by decide)) rfl gX6_statement_X6_checked  (by decide +kernel) ⟨Nat.le_of_ble_eq_true rfl, Nat.le_of_ble_eq_true rfl⟩ hH hS [0, 1, 2, 3, 4, 5, 6] rfl 7 rfl (List.Perm.refl _) 6 0 rfl rfl rfl hl.1 rfl (Nat.le_of_ble_eq_true rfl) dX6_statement_170 ⟨Nat.le_of_ble_eq_true rfl, Nat.le_of_ble_eq_true rfl⟩ (fun rj_449 H locs hp451 hH hS => ?_)
                  have hH : Hold X A [mO h Q km ((lnn : Nat) : Int) ((sj_430 : Nat) : Int) ((rj_449 : Nat) : Int), aW X (Q 0) 125 s, aW X (Q 1) 125 rd, aW X (Q 2) 625 kp, aW X (Q 3) 400 tx, aW X (Q 4) 8 wi, aW X (Q 5) 8 gi].flatten H := hH
                  have hc_170 := hp451
                  obtain rfl : rj_449 = 2 := hc_170.trans (by decide)
                  refine lv_aload_n S.1 S.2.1 dX6_statement_173 rfl (lv_at hl 4 rfl) ?_
                  refine zv_get (v := .int (iI ((2 : Nat) : Int))) S hAM hH nX6_statement_X6 0 rfl rfl 7 (by decide) mX6_statement_3 rfl rfl dX6_statement_174 ?_
                  refine zv_if_ne (tgt := 191) S dX6_statement_177 (by decide) (by decide) (fun c_177 => ?_) (fun c_177 => ?_)
                  · skip
                    refine lv_goto (tgt := 344) S.1 S.2.1 dX6_statement_191 (by decide) ?_
                    have eS : stm tx lnn p rd = (2, 0, rd) := by rw [stm, if_neg c_19, if_pos c_109, stRole, if_pos q1, if_neg q2, if_pos q3, stNums, hm_118, bnd_none]
                    rw [eS] at hret
                    exact hret 344 ls _ _ (sj_430, 2) dX6_statement_344 ⟨rfl, (fun z => absurd z (by decide)), (by omega)⟩ hH hS
                  · exact (show False by omega).elim
              · skip
                refine lv_iload S.1 S.2.1 dX6_statement_141 (lv_at hl 0 rfl) ?_
                refine lv_bipush (v := iI (((60 : Nat) : Int))) S.1 S.2.1 dX6_statement_143 (by decide) ?_
                refine zv_icmp_gt (tgt := 152) S dX6_statement_145 (by decide) (by omega) (by decide) (fun c_145 => ?_) (fun c_145 => ?_)
                · skip
                  refine lv_iconst (v := iI (((0 : Nat) : Int))) S.1 S.2.1 dX6_statement_152 (by decide) ?_
                  refine lv_aload_n S.1 S.2.1 dX6_statement_153 rfl (lv_at hl 4 rfl) ?_
                  refine zv_get (v := .ref (Q 1)) S hAM hH nX6_statement_X6 0 rfl rfl 1 (by decide) mX6_statement_2 rfl rfl dX6_statement_154 ?_
                  refine lv_bipush (v := iI (((11 : Nat) : Int))) S.1 S.2.1 dX6_statement_157 (by decide) ?_
                  refine zv_iald S hAM hH 2 rfl (11) rfl (by decide) (by decide) dX6_statement_159 ?_
                  refine zv_top (z := rd 11) (z2 := ((nr rd : Nat) : Int)) hrd.e11 ?_
                  refine lv_bipush (v := iI (((8 : Nat) : Int))) S.1 S.2.1 dX6_statement_160 (by decide) ?_
                  refine zv_icmp_ge (tgt := 169) S dX6_statement_162 (by decide) (by omega) (by decide) (fun c_162 => ?_) (fun c_162 => ?_)
                  · skip
                    refine lv_iconst (v := iI (((0 : Nat) : Int))) S.1 S.2.1 dX6_statement_169 (by decide) ?_
                    refine zc_Vv (n := 2) (As := [.int (iI ((0 : Nat) : Int)), .int (iI ((0 : Nat) : Int))]) (rest := []) S hAM hA (kX6_checked l X h Q s rd kp km tx lnn sj_430 2 wi gi 0 0 ht (by decide) (by decide) (by decide)) rfl gX6_statement_X6_checked  (by decide +kernel) ⟨Nat.le_of_ble_eq_true rfl, Nat.le_of_ble_eq_true rfl⟩ hH hS [0, 1, 2, 3, 4, 5, 6] rfl 7 rfl (List.Perm.refl _) 6 0 rfl rfl rfl hl.1 rfl (Nat.le_of_ble_eq_true rfl) dX6_statement_170 ⟨Nat.le_of_ble_eq_true rfl, Nat.le_of_ble_eq_true rfl⟩ (fun rj_452 H locs hp454 hH hS => ?_)
                    have hH : Hold X A [mO h Q km ((lnn : Nat) : Int) ((sj_430 : Nat) : Int) ((rj_452 : Nat) : Int), aW X (Q 0) 125 s, aW X (Q 1) 125 rd, aW X (Q 2) 625 kp, aW X (Q 3) 400 tx, aW X (Q 4) 8 wi, aW X (Q 5) 8 gi].flatten H := hH
                    have hc_170 := hp454
                    obtain rfl : rj_452 = 2 := hc_170.trans (by decide)
                    refine lv_aload_n S.1 S.2.1 dX6_statement_173 rfl (lv_at hl 4 rfl) ?_
                    refine zv_get (v := .int (iI ((2 : Nat) : Int))) S hAM hH nX6_statement_X6 0 rfl rfl 7 (by decide) mX6_statement_3 rfl rfl dX6_statement_174 ?_
                    refine zv_if_ne (tgt := 191) S dX6_statement_177 (by decide) (by decide) (fun c_177 => ?_) (fun c_177 => ?_)
                    · skip
                      refine lv_goto (tgt := 344) S.1 S.2.1 dX6_statement_191 (by decide) ?_
                      have eS : stm tx lnn p rd = (2, 0, rd) := by rw [stm, if_neg c_19, if_pos c_109, stRole, if_pos q1, if_neg q2, if_pos q3, stNums, hm_118, bnd_none]
                      rw [eS] at hret
                      exact hret 344 ls _ _ (sj_430, 2) dX6_statement_344 ⟨rfl, (fun z => absurd z (by decide)), (by omega)⟩ hH hS
                    · exact (show False by omega).elim
                  · skip
                    refine lv_iconst (v := iI (((1 : Nat) : Int))) S.1 S.2.1 dX6_statement_165 (by decide) ?_
                    refine lv_goto (tgt := 170) S.1 S.2.1 dX6_statement_166 (by decide) ?_
                    refine zc_Vv (n := 2) (As := [.int (iI ((0 : Nat) : Int)), .int (iI ((1 : Nat) : Int))]) (rest := []) S hAM hA (kX6_checked l X h Q s rd kp km tx lnn sj_430 2 wi gi 0 1 ht (by decide) (by decide) (by decide)) rfl gX6_statement_X6_checked  (by decide +kernel) ⟨Nat.le_of_ble_eq_true rfl, Nat.le_of_ble_eq_true rfl⟩ hH hS [0, 1, 2, 3, 4, 5, 6] rfl 7 rfl (List.Perm.refl _) 6 0 rfl rfl rfl hl.1 rfl (Nat.le_of_ble_eq_true rfl) dX6_statement_170 ⟨Nat.le_of_ble_eq_true rfl, Nat.le_of_ble_eq_true rfl⟩ (fun rj_455 H locs hp457 hH hS => ?_)
                    have hH : Hold X A [mO h Q km ((lnn : Nat) : Int) ((sj_430 : Nat) : Int) ((rj_455 : Nat) : Int), aW X (Q 0) 125 s, aW X (Q 1) 125 rd, aW X (Q 2) 625 kp, aW X (Q 3) 400 tx, aW X (Q 4) 8 wi, aW X (Q 5) 8 gi].flatten H := hH
                    have hc_170 := hp457
                    obtain rfl : rj_455 = 2 := hc_170.trans (by decide)
                    refine lv_aload_n S.1 S.2.1 dX6_statement_173 rfl (lv_at hl 4 rfl) ?_
                    refine zv_get (v := .int (iI ((2 : Nat) : Int))) S hAM hH nX6_statement_X6 0 rfl rfl 7 (by decide) mX6_statement_3 rfl rfl dX6_statement_174 ?_
                    refine zv_if_ne (tgt := 191) S dX6_statement_177 (by decide) (by decide) (fun c_177 => ?_) (fun c_177 => ?_)
                    · skip
                      refine lv_goto (tgt := 344) S.1 S.2.1 dX6_statement_191 (by decide) ?_
                      have eS : stm tx lnn p rd = (2, 0, rd) := by rw [stm, if_neg c_19, if_pos c_109, stRole, if_pos q1, if_neg q2, if_pos q3, stNums, hm_118, bnd_none]
                      rw [eS] at hret
                      exact hret 344 ls _ _ (sj_430, 2) dX6_statement_344 ⟨rfl, (fun z => absurd z (by decide)), (by omega)⟩ hH hS
                    · exact (show False by omega).elim
                · skip
                  refine lv_iconst (v := iI (((1 : Nat) : Int))) S.1 S.2.1 dX6_statement_148 (by decide) ?_
                  refine lv_goto (tgt := 153) S.1 S.2.1 dX6_statement_149 (by decide) ?_
                  refine lv_aload_n S.1 S.2.1 dX6_statement_153 rfl (lv_at hl 4 rfl) ?_
                  refine zv_get (v := .ref (Q 1)) S hAM hH nX6_statement_X6 0 rfl rfl 1 (by decide) mX6_statement_2 rfl rfl dX6_statement_154 ?_
                  refine lv_bipush (v := iI (((11 : Nat) : Int))) S.1 S.2.1 dX6_statement_157 (by decide) ?_
                  refine zv_iald S hAM hH 2 rfl (11) rfl (by decide) (by decide) dX6_statement_159 ?_
                  refine zv_top (z := rd 11) (z2 := ((nr rd : Nat) : Int)) hrd.e11 ?_
                  refine lv_bipush (v := iI (((8 : Nat) : Int))) S.1 S.2.1 dX6_statement_160 (by decide) ?_
                  refine zv_icmp_ge (tgt := 169) S dX6_statement_162 (by decide) (by omega) (by decide) (fun c_162 => ?_) (fun c_162 => ?_)
                  · skip
                    refine lv_iconst (v := iI (((0 : Nat) : Int))) S.1 S.2.1 dX6_statement_169 (by decide) ?_
                    refine zc_Vv (n := 2) (As := [.int (iI ((1 : Nat) : Int)), .int (iI ((0 : Nat) : Int))]) (rest := []) S hAM hA (kX6_checked l X h Q s rd kp km tx lnn sj_430 2 wi gi 1 0 ht (by decide) (by decide) (by decide)) rfl gX6_statement_X6_checked  (by decide +kernel) ⟨Nat.le_of_ble_eq_true rfl, Nat.le_of_ble_eq_true rfl⟩ hH hS [0, 1, 2, 3, 4, 5, 6] rfl 7 rfl (List.Perm.refl _) 6 0 rfl rfl rfl hl.1 rfl (Nat.le_of_ble_eq_true rfl) dX6_statement_170 ⟨Nat.le_of_ble_eq_true rfl, Nat.le_of_ble_eq_true rfl⟩ (fun rj_458 H locs hp460 hH hS => ?_)
                    have hH : Hold X A [mO h Q km ((lnn : Nat) : Int) ((sj_430 : Nat) : Int) ((rj_458 : Nat) : Int), aW X (Q 0) 125 s, aW X (Q 1) 125 rd, aW X (Q 2) 625 kp, aW X (Q 3) 400 tx, aW X (Q 4) 8 wi, aW X (Q 5) 8 gi].flatten H := hH
                    have hc_170 := hp460
                    obtain rfl : rj_458 = 2 := hc_170.trans (by decide)
                    refine lv_aload_n S.1 S.2.1 dX6_statement_173 rfl (lv_at hl 4 rfl) ?_
                    refine zv_get (v := .int (iI ((2 : Nat) : Int))) S hAM hH nX6_statement_X6 0 rfl rfl 7 (by decide) mX6_statement_3 rfl rfl dX6_statement_174 ?_
                    refine zv_if_ne (tgt := 191) S dX6_statement_177 (by decide) (by decide) (fun c_177 => ?_) (fun c_177 => ?_)
                    · skip
                      refine lv_goto (tgt := 344) S.1 S.2.1 dX6_statement_191 (by decide) ?_
                      have eS : stm tx lnn p rd = (2, 0, rd) := by rw [stm, if_neg c_19, if_pos c_109, stRole, if_pos q1, if_neg q2, if_pos q3, stNums, hm_118, bnd_none]
                      rw [eS] at hret
                      exact hret 344 ls _ _ (sj_430, 2) dX6_statement_344 ⟨rfl, (fun z => absurd z (by decide)), (by omega)⟩ hH hS
                    · exact (show False by omega).elim
                  · skip
                    refine lv_iconst (v := iI (((1 : Nat) : Int))) S.1 S.2.1 dX6_statement_165 (by decide) ?_
                    refine lv_goto (tgt := 170) S.1 S.2.1 dX6_statement_166 (by decide) ?_
                    refine zc_Vv (n := 2) (As := [.int (iI ((1 : Nat) : Int)), .int (iI ((1 : Nat) : Int))]) (rest := []) S hAM hA (kX6_checked l X h Q s rd kp km tx lnn sj_430 2 wi gi 1 1 ht (by decide) (by decide) (by decide)) rfl gX6_statement_X6_checked  (by decide +kernel) ⟨Nat.le_of_ble_eq_true rfl, Nat.le_of_ble_eq_true rfl⟩ hH hS [0, 1, 2, 3, 4, 5, 6] rfl 7 rfl (List.Perm.refl _) 6 0 rfl rfl rfl hl.1 rfl (Nat.le_of_ble_eq_true rfl) dX6_statement_170 ⟨Nat.le_of_ble_eq_true rfl, Nat.le_of_ble_eq_true rfl⟩ (fun rj_461 H locs hp463 hH hS => ?_)
                    have hH : Hold X A [mO h Q km ((lnn : Nat) : Int) ((sj_430 : Nat) : Int) ((rj_461 : Nat) : Int), aW X (Q 0) 125 s, aW X (Q 1) 125 rd, aW X (Q 2) 625 kp, aW X (Q 3) 400 tx, aW X (Q 4) 8 wi, aW X (Q 5) 8 gi].flatten H := hH
                    have hc_170 := hp463
                    obtain rfl : rj_461 = 2 := hc_170.trans (by decide)
                    refine lv_aload_n S.1 S.2.1 dX6_statement_173 rfl (lv_at hl 4 rfl) ?_
                    refine zv_get (v := .int (iI ((2 : Nat) : Int))) S hAM hH nX6_statement_X6 0 rfl rfl 7 (by decide) mX6_statement_3 rfl rfl dX6_statement_174 ?_
                    refine zv_if_ne (tgt := 191) S dX6_statement_177 (by decide) (by decide) (fun c_177 => ?_) (fun c_177 => ?_)
                    · skip
                      refine lv_goto (tgt := 344) S.1 S.2.1 dX6_statement_191 (by decide) ?_
                      have eS : stm tx lnn p rd = (2, 0, rd) := by rw [stm, if_neg c_19, if_pos c_109, stRole, if_pos q1, if_neg q2, if_pos q3, stNums, hm_118, bnd_none]
                      rw [eS] at hret
                      exact hret 344 ls _ _ (sj_430, 2) dX6_statement_344 ⟨rfl, (fun z => absurd z (by decide)), (by omega)⟩ hH hS
                    · exact (show False by omega).elim
            · exact absurd q1 (by decide)
            · exact absurd q1 (by decide)
          · exact absurd q1 (by decide)
          · exact absurd q1 (by decide)
        · skip
          refine lv_istore_n (lv' := [(3, .int (iI ((zz_429 : Nat) : Int))), (2, .int (iI ((1 : Nat) : Int))), (1, .int (iI (wdV tx p (we tx lnn p - p)))), (0, .ref (h))]) S.1 S.2.1 dX6_statement_121 rfl hl (by decide) rfl (fun ls hl => ?_)
          refine lv_aload_n S.1 S.2.1 dX6_statement_122 rfl (lv_at hl 3 rfl) ?_
          refine zc_Vi (n := 0) (As := []) (rest := []) S hAM hA (kX6_number l X h Q s rd kp km tx lnn sj_430 0 wi gi ht (by omega) (by omega) (by omega)) rfl gX6_statement_X6_number  (by decide +kernel) ⟨Nat.le_of_ble_eq_true rfl, Nat.le_of_ble_eq_true rfl⟩ hH hS [0, 1, 2, 3, 4, 5, 6] rfl 7 rfl (List.Perm.refl _) 6 0 rfl rfl rfl hl.1 rfl (Nat.le_of_ble_eq_true rfl) dX6_statement_123 ⟨Nat.le_of_ble_eq_true rfl, Nat.le_of_ble_eq_true rfl⟩ (fun z468 u467 H locs hp469 hH hS => ?_)
          obtain ⟨zz_464, sj_465, rj_466⟩ := u467
          have hH : Hold X A [mO h Q km ((lnn : Nat) : Int) ((sj_465 : Nat) : Int) ((rj_466 : Nat) : Int), aW X (Q 0) 125 s, aW X (Q 1) 125 rd, aW X (Q 2) 625 kp, aW X (Q 3) 400 tx, aW X (Q 4) 8 wi, aW X (Q 5) 8 gi].flatten H := hH
          obtain ⟨rfl, hz_123, hn_123⟩ := hp469
          rcases hn_123 with ⟨q1, -⟩ | ⟨-, rfl, hm_123, hb_123⟩ | ⟨-, rfl, hm_123, hb_123⟩
          · exact absurd rfl q1
          · skip
            refine lv_istore (lv' := [(4, .int (iI ((zz_464 : Nat) : Int))), (3, .int (iI ((zz_429 : Nat) : Int))), (2, .int (iI ((1 : Nat) : Int))), (1, .int (iI (wdV tx p (we tx lnn p - p)))), (0, .ref (h))]) S.1 S.2.1 dX6_statement_126 hl (by decide) rfl (fun ls hl => ?_)
            refine lv_aload_n S.1 S.2.1 dX6_statement_128 rfl (lv_at hl 4 rfl) ?_
            refine lv_bipush (v := iI (((59 : Nat) : Int))) S.1 S.2.1 dX6_statement_129 (by decide) ?_
            refine zc_Vv (n := 1) (As := [.int (iI ((59 : Nat) : Int))]) (rest := []) S hAM hA (kX6_wants l X h Q s rd kp km tx lnn sj_465 2 wi gi 59 ht (by decide) (by omega) (by omega)) rfl gX6_statement_X6_wants  (by decide +kernel) ⟨Nat.le_of_ble_eq_true rfl, Nat.le_of_ble_eq_true rfl⟩ hH hS [0, 1, 2, 3, 4, 5, 6] rfl 7 rfl (List.Perm.refl _) 6 0 rfl rfl rfl hl.1 rfl (Nat.le_of_ble_eq_true rfl) dX6_statement_131 ⟨Nat.le_of_ble_eq_true rfl, Nat.le_of_ble_eq_true rfl⟩ (fun u472 H locs hp474 hH hS => ?_)
            obtain ⟨sj_470, rj_471⟩ := u472
            have hH : Hold X A [mO h Q km ((lnn : Nat) : Int) ((sj_470 : Nat) : Int) ((rj_471 : Nat) : Int), aW X (Q 0) 125 s, aW X (Q 1) 125 rd, aW X (Q 2) 625 kp, aW X (Q 3) 400 tx, aW X (Q 4) 8 wi, aW X (Q 5) 8 gi].flatten H := hH
            have hw_131 := hp474
            rcases hw_131 with ⟨-, rfl, rfl⟩ | ⟨q1, -⟩ | ⟨q1, -⟩
            · skip
              refine lv_aload_n S.1 S.2.1 dX6_statement_134 rfl (lv_at hl 4 rfl) ?_
              refine lv_iload_n S.1 S.2.1 dX6_statement_135 rfl (lv_at hl 1 rfl) ?_
              refine lv_bipush (v := iI (((60 : Nat) : Int))) S.1 S.2.1 dX6_statement_136 (by decide) ?_
              refine zv_icmp_gt (tgt := 152) S dX6_statement_138 (by decide) (by omega) (by decide) (fun c_138 => ?_) (fun c_138 => ?_)
              · skip
                refine lv_iconst (v := iI (((0 : Nat) : Int))) S.1 S.2.1 dX6_statement_152 (by decide) ?_
                refine lv_aload_n S.1 S.2.1 dX6_statement_153 rfl (lv_at hl 4 rfl) ?_
                refine zv_get (v := .ref (Q 1)) S hAM hH nX6_statement_X6 0 rfl rfl 1 (by decide) mX6_statement_2 rfl rfl dX6_statement_154 ?_
                refine lv_bipush (v := iI (((11 : Nat) : Int))) S.1 S.2.1 dX6_statement_157 (by decide) ?_
                refine zv_iald S hAM hH 2 rfl (11) rfl (by decide) (by decide) dX6_statement_159 ?_
                refine zv_top (z := rd 11) (z2 := ((nr rd : Nat) : Int)) hrd.e11 ?_
                refine lv_bipush (v := iI (((8 : Nat) : Int))) S.1 S.2.1 dX6_statement_160 (by decide) ?_
                refine zv_icmp_ge (tgt := 169) S dX6_statement_162 (by decide) (by omega) (by decide) (fun c_162 => ?_) (fun c_162 => ?_)
                · skip
                  refine lv_iconst (v := iI (((0 : Nat) : Int))) S.1 S.2.1 dX6_statement_169 (by decide) ?_
                  refine zc_Vv (n := 2) (As := [.int (iI ((0 : Nat) : Int)), .int (iI ((0 : Nat) : Int))]) (rest := []) S hAM hA (kX6_checked l X h Q s rd kp km tx lnn sj_465 2 wi gi 0 0 ht (by decide) (by decide) (by decide)) rfl gX6_statement_X6_checked  (by decide +kernel) ⟨Nat.le_of_ble_eq_true rfl, Nat.le_of_ble_eq_true rfl⟩ hH hS [0, 1, 2, 3, 4, 5, 6] rfl 7 rfl (List.Perm.refl _) 6 0 rfl rfl rfl hl.1 rfl (Nat.le_of_ble_eq_true rfl) dX6_statement_170 ⟨Nat.le_of_ble_eq_true rfl, Nat.le_of_ble_eq_true rfl⟩ (fun rj_475 H locs hp477 hH hS => ?_)
                  have hH : Hold X A [mO h Q km ((lnn : Nat) : Int) ((sj_465 : Nat) : Int) ((rj_475 : Nat) : Int), aW X (Q 0) 125 s, aW X (Q 1) 125 rd, aW X (Q 2) 625 kp, aW X (Q 3) 400 tx, aW X (Q 4) 8 wi, aW X (Q 5) 8 gi].flatten H := hH
                  have hc_170 := hp477
                  obtain rfl : rj_475 = 2 := hc_170.trans (by decide)
                  refine lv_aload_n S.1 S.2.1 dX6_statement_173 rfl (lv_at hl 4 rfl) ?_
                  refine zv_get (v := .int (iI ((2 : Nat) : Int))) S hAM hH nX6_statement_X6 0 rfl rfl 7 (by decide) mX6_statement_3 rfl rfl dX6_statement_174 ?_
                  refine zv_if_ne (tgt := 191) S dX6_statement_177 (by decide) (by decide) (fun c_177 => ?_) (fun c_177 => ?_)
                  · skip
                    refine lv_goto (tgt := 344) S.1 S.2.1 dX6_statement_191 (by decide) ?_
                    have eS : stm tx lnn p rd = (2, 0, rd) := by rw [stm, if_neg c_19, if_pos c_109, stRole, if_pos q1, if_neg q2, if_pos q3, stNums, hm_118, bnd_some, hm_123, bnd_none]
                    rw [eS] at hret
                    exact hret 344 ls _ _ (sj_465, 2) dX6_statement_344 ⟨rfl, (fun z => absurd z (by decide)), (by omega)⟩ hH hS
                  · exact (show False by omega).elim
                · skip
                  refine lv_iconst (v := iI (((1 : Nat) : Int))) S.1 S.2.1 dX6_statement_165 (by decide) ?_
                  refine lv_goto (tgt := 170) S.1 S.2.1 dX6_statement_166 (by decide) ?_
                  refine zc_Vv (n := 2) (As := [.int (iI ((0 : Nat) : Int)), .int (iI ((1 : Nat) : Int))]) (rest := []) S hAM hA (kX6_checked l X h Q s rd kp km tx lnn sj_465 2 wi gi 0 1 ht (by decide) (by decide) (by decide)) rfl gX6_statement_X6_checked  (by decide +kernel) ⟨Nat.le_of_ble_eq_true rfl, Nat.le_of_ble_eq_true rfl⟩ hH hS [0, 1, 2, 3, 4, 5, 6] rfl 7 rfl (List.Perm.refl _) 6 0 rfl rfl rfl hl.1 rfl (Nat.le_of_ble_eq_true rfl) dX6_statement_170 ⟨Nat.le_of_ble_eq_true rfl, Nat.le_of_ble_eq_true rfl⟩ (fun rj_478 H locs hp480 hH hS => ?_)
                  have hH : Hold X A [mO h Q km ((lnn : Nat) : Int) ((sj_465 : Nat) : Int) ((rj_478 : Nat) : Int), aW X (Q 0) 125 s, aW X (Q 1) 125 rd, aW X (Q 2) 625 kp, aW X (Q 3) 400 tx, aW X (Q 4) 8 wi, aW X (Q 5) 8 gi].flatten H := hH
                  have hc_170 := hp480
                  obtain rfl : rj_478 = 2 := hc_170.trans (by decide)
                  refine lv_aload_n S.1 S.2.1 dX6_statement_173 rfl (lv_at hl 4 rfl) ?_
                  refine zv_get (v := .int (iI ((2 : Nat) : Int))) S hAM hH nX6_statement_X6 0 rfl rfl 7 (by decide) mX6_statement_3 rfl rfl dX6_statement_174 ?_
                  refine zv_if_ne (tgt := 191) S dX6_statement_177 (by decide) (by decide) (fun c_177 => ?_) (fun c_177 => ?_)
                  · skip
                    refine lv_goto (tgt := 344) S.1 S.2.1 dX6_statement_191 (by decide) ?_
                    have eS : stm tx lnn p rd = (2, 0, rd) := by rw [stm, if_neg c_19, if_pos c_109, stRole, if_pos q1, if_neg q2, if_pos q3, stNums, hm_118, bnd_some, hm_123, bnd_none]
                    rw [eS] at hret
                    exact hret 344 ls _ _ (sj_465, 2) dX6_statement_344 ⟨rfl, (fun z => absurd z (by decide)), (by omega)⟩ hH hS
                  · exact (show False by omega).elim
              · skip
                refine lv_iload S.1 S.2.1 dX6_statement_141 (lv_at hl 0 rfl) ?_
                refine lv_bipush (v := iI (((60 : Nat) : Int))) S.1 S.2.1 dX6_statement_143 (by decide) ?_
                refine zv_icmp_gt (tgt := 152) S dX6_statement_145 (by decide) (by omega) (by decide) (fun c_145 => ?_) (fun c_145 => ?_)
                · skip
                  refine lv_iconst (v := iI (((0 : Nat) : Int))) S.1 S.2.1 dX6_statement_152 (by decide) ?_
                  refine lv_aload_n S.1 S.2.1 dX6_statement_153 rfl (lv_at hl 4 rfl) ?_
                  refine zv_get (v := .ref (Q 1)) S hAM hH nX6_statement_X6 0 rfl rfl 1 (by decide) mX6_statement_2 rfl rfl dX6_statement_154 ?_
                  refine lv_bipush (v := iI (((11 : Nat) : Int))) S.1 S.2.1 dX6_statement_157 (by decide) ?_
                  refine zv_iald S hAM hH 2 rfl (11) rfl (by decide) (by decide) dX6_statement_159 ?_
                  refine zv_top (z := rd 11) (z2 := ((nr rd : Nat) : Int)) hrd.e11 ?_
                  refine lv_bipush (v := iI (((8 : Nat) : Int))) S.1 S.2.1 dX6_statement_160 (by decide) ?_
                  refine zv_icmp_ge (tgt := 169) S dX6_statement_162 (by decide) (by omega) (by decide) (fun c_162 => ?_) (fun c_162 => ?_)
                  · skip
                    refine lv_iconst (v := iI (((0 : Nat) : Int))) S.1 S.2.1 dX6_statement_169 (by decide) ?_
                    refine zc_Vv (n := 2) (As := [.int (iI ((0 : Nat) : Int)), .int (iI ((0 : Nat) : Int))]) (rest := []) S hAM hA (kX6_checked l X h Q s rd kp km tx lnn sj_465 2 wi gi 0 0 ht (by decide) (by decide) (by decide)) rfl gX6_statement_X6_checked  (by decide +kernel) ⟨Nat.le_of_ble_eq_true rfl, Nat.le_of_ble_eq_true rfl⟩ hH hS [0, 1, 2, 3, 4, 5, 6] rfl 7 rfl (List.Perm.refl _) 6 0 rfl rfl rfl hl.1 rfl (Nat.le_of_ble_eq_true rfl) dX6_statement_170 ⟨Nat.le_of_ble_eq_true rfl, Nat.le_of_ble_eq_true rfl⟩ (fun rj_481 H locs hp483 hH hS => ?_)
                    have hH : Hold X A [mO h Q km ((lnn : Nat) : Int) ((sj_465 : Nat) : Int) ((rj_481 : Nat) : Int), aW X (Q 0) 125 s, aW X (Q 1) 125 rd, aW X (Q 2) 625 kp, aW X (Q 3) 400 tx, aW X (Q 4) 8 wi, aW X (Q 5) 8 gi].flatten H := hH
                    have hc_170 := hp483
                    obtain rfl : rj_481 = 2 := hc_170.trans (by decide)
                    refine lv_aload_n S.1 S.2.1 dX6_statement_173 rfl (lv_at hl 4 rfl) ?_
                    refine zv_get (v := .int (iI ((2 : Nat) : Int))) S hAM hH nX6_statement_X6 0 rfl rfl 7 (by decide) mX6_statement_3 rfl rfl dX6_statement_174 ?_
                    refine zv_if_ne (tgt := 191) S dX6_statement_177 (by decide) (by decide) (fun c_177 => ?_) (fun c_177 => ?_)
                    · skip
                      refine lv_goto (tgt := 344) S.1 S.2.1 dX6_statement_191 (by decide) ?_
                      have eS : stm tx lnn p rd = (2, 0, rd) := by rw [stm, if_neg c_19, if_pos c_109, stRole, if_pos q1, if_neg q2, if_pos q3, stNums, hm_118, bnd_some, hm_123, bnd_none]
                      rw [eS] at hret
                      exact hret 344 ls _ _ (sj_465, 2) dX6_statement_344 ⟨rfl, (fun z => absurd z (by decide)), (by omega)⟩ hH hS
                    · exact (show False by omega).elim
                  · skip
                    refine lv_iconst (v := iI (((1 : Nat) : Int))) S.1 S.2.1 dX6_statement_165 (by decide) ?_
                    refine lv_goto (tgt := 170) S.1 S.2.1 dX6_statement_166 (by decide) ?_
                    refine zc_Vv (n := 2) (As := [.int (iI ((0 : Nat) : Int)), .int (iI ((1 : Nat) : Int))]) (rest := []) S hAM hA (kX6_checked l X h Q s rd kp km tx lnn sj_465 2 wi gi 0 1 ht (by decide) (by decide) (by decide)) rfl gX6_statement_X6_checked  (by decide +kernel) ⟨Nat.le_of_ble_eq_true rfl, Nat.le_of_ble_eq_true rfl⟩ hH hS [0, 1, 2, 3, 4, 5, 6] rfl 7 rfl (List.Perm.refl _) 6 0 rfl rfl rfl hl.1 rfl (Nat.le_of_ble_eq_true rfl) dX6_statement_170 ⟨Nat.le_of_ble_eq_true rfl, Nat.le_of_ble_eq_true rfl⟩ (fun rj_484 H locs hp486 hH hS => ?_)
                    have hH : Hold X A [mO h Q km ((lnn : Nat) : Int) ((sj_465 : Nat) : Int) ((rj_484 : Nat) : Int), aW X (Q 0) 125 s, aW X (Q 1) 125 rd, aW X (Q 2) 625 kp, aW X (Q 3) 400 tx, aW X (Q 4) 8 wi, aW X (Q 5) 8 gi].flatten H := hH
                    have hc_170 := hp486
                    obtain rfl : rj_484 = 2 := hc_170.trans (by decide)
                    refine lv_aload_n S.1 S.2.1 dX6_statement_173 rfl (lv_at hl 4 rfl) ?_
                    refine zv_get (v := .int (iI ((2 : Nat) : Int))) S hAM hH nX6_statement_X6 0 rfl rfl 7 (by decide) mX6_statement_3 rfl rfl dX6_statement_174 ?_
                    refine zv_if_ne (tgt := 191) S dX6_statement_177 (by decide) (by decide) (fun c_177 => ?_) (fun c_177 => ?_)
                    · skip
                      refine lv_goto (tgt := 344) S.1 S.2.1 dX6_statement_191 (by decide) ?_
                      have eS : stm tx lnn p rd = (2, 0, rd) := by rw [stm, if_neg c_19, if_pos c_109, stRole, if_pos q1, if_neg q2, if_pos q3, stNums, hm_118, bnd_some, hm_123, bnd_none]
                      rw [eS] at hret
                      exact hret 344 ls _ _ (sj_465, 2) dX6_statement_344 ⟨rfl, (fun z => absurd z (by decide)), (by omega)⟩ hH hS
                    · exact (show False by omega).elim
                · skip
                  refine lv_iconst (v := iI (((1 : Nat) : Int))) S.1 S.2.1 dX6_statement_148 (by decide) ?_
                  refine lv_goto (tgt := 153) S.1 S.2.1 dX6_statement_149 (by decide) ?_
                  refine lv_aload_n S.1 S.2.1 dX6_statement_153 rfl (lv_at hl 4 rfl) ?_
                  refine zv_get (v := .ref (Q 1)) S hAM hH nX6_statement_X6 0 rfl rfl 1 (by decide) mX6_statement_2 rfl rfl dX6_statement_154 ?_
                  refine lv_bipush (v := iI (((11 : Nat) : Int))) S.1 S.2.1 dX6_statement_157 (by decide) ?_
                  refine zv_iald S hAM hH 2 rfl (11) rfl (by decide) (by decide) dX6_statement_159 ?_
                  refine zv_top (z := rd 11) (z2 := ((nr rd : Nat) : Int)) hrd.e11 ?_
                  refine lv_bipush (v := iI (((8 : Nat) : Int))) S.1 S.2.1 dX6_statement_160 (by decide) ?_
                  refine zv_icmp_ge (tgt := 169) S dX6_statement_162 (by decide) (by omega) (by decide) (fun c_162 => ?_) (fun c_162 => ?_)
                  · skip
                    refine lv_iconst (v := iI (((0 : Nat) : Int))) S.1 S.2.1 dX6_statement_169 (by decide) ?_
                    refine zc_Vv (n := 2) (As := [.int (iI ((1 : Nat) : Int)), .int (iI ((0 : Nat) : Int))]) (rest := []) S hAM hA (kX6_checked l X h Q s rd kp km tx lnn sj_465 2 wi gi 1 0 ht (by decide) (by decide) (by decide)) rfl gX6_statement_X6_checked  (by decide +kernel) ⟨Nat.le_of_ble_eq_true rfl, Nat.le_of_ble_eq_true rfl⟩ hH hS [0, 1, 2, 3, 4, 5, 6] rfl 7 rfl (List.Perm.refl _) 6 0 rfl rfl rfl hl.1 rfl (Nat.le_of_ble_eq_true rfl) dX6_statement_170 ⟨Nat.le_of_ble_eq_true rfl, Nat.le_of_ble_eq_true rfl⟩ (fun rj_487 H locs hp489 hH hS => ?_)
                    have hH : Hold X A [mO h Q km ((lnn : Nat) : Int) ((sj_465 : Nat) : Int) ((rj_487 : Nat) : Int), aW X (Q 0) 125 s, aW X (Q 1) 125 rd, aW X (Q 2) 625 kp, aW X (Q 3) 400 tx, aW X (Q 4) 8 wi, aW X (Q 5) 8 gi].flatten H := hH
                    have hc_170 := hp489
                    obtain rfl : rj_487 = 2 := hc_170.trans (by decide)
                    refine lv_aload_n S.1 S.2.1 dX6_statement_173 rfl (lv_at hl 4 rfl) ?_
                    refine zv_get (v := .int (iI ((2 : Nat) : Int))) S hAM hH nX6_statement_X6 0 rfl rfl 7 (by decide) mX6_statement_3 rfl rfl dX6_statement_174 ?_
                    refine zv_if_ne (tgt := 191) S dX6_statement_177 (by decide) (by decide) (fun c_177 => ?_) (fun c_177 => ?_)
                    · skip
                      refine lv_goto (tgt := 344) S.1 S.2.1 dX6_statement_191 (by decide) ?_
                      have eS : stm tx lnn p rd = (2, 0, rd) := by rw [stm, if_neg c_19, if_pos c_109, stRole, if_pos q1, if_neg q2, if_pos q3, stNums, hm_118, bnd_some, hm_123, bnd_none]
                      rw [eS] at hret
                      exact hret 344 ls _ _ (sj_465, 2) dX6_statement_344 ⟨rfl, (fun z => absurd z (by decide)), (by omega)⟩ hH hS
                    · exact (show False by omega).elim
                  · skip
                    refine lv_iconst (v := iI (((1 : Nat) : Int))) S.1 S.2.1 dX6_statement_165 (by decide) ?_
                    refine lv_goto (tgt := 170) S.1 S.2.1 dX6_statement_166 (by decide) ?_
                    refine zc_Vv (n := 2) (As := [.int (iI ((1 : Nat) : Int)), .int (iI ((1 : Nat) : Int))]) (rest := []) S hAM hA (kX6_checked l X h Q s rd kp km tx lnn sj_465 2 wi gi 1 1 ht (by decide) (by decide) (by decide)) rfl gX6_statement_X6_checked  (by decide +kernel) ⟨Nat.le_of_ble_eq_true rfl, Nat.le_of_ble_eq_true rfl⟩ hH hS [0, 1, 2, 3, 4, 5, 6] rfl 7 rfl (List.Perm.refl _) 6 0 rfl rfl rfl hl.1 rfl (Nat.le_of_ble_eq_true rfl) dX6_statement_170 ⟨Nat.le_of_ble_eq_true rfl, Nat.le_of_ble_eq_true rfl⟩ (fun rj_490 H locs hp492 hH hS => ?_)
                    have hH : Hold X A [mO h Q km ((lnn : Nat) : Int) ((sj_465 : Nat) : Int) ((rj_490 : Nat) : Int), aW X (Q 0) 125 s, aW X (Q 1) 125 rd, aW X (Q 2) 625 kp, aW X (Q 3) 400 tx, aW X (Q 4) 8 wi, aW X (Q 5) 8 gi].flatten H := hH
                    have hc_170 := hp492
                    obtain rfl : rj_490 = 2 := hc_170.trans (by decide)
                    refine lv_aload_n S.1 S.2.1 dX6_statement_173 rfl (lv_at hl 4 rfl) ?_
                    refine zv_get (v := .int (iI ((2 : Nat) : Int))) S hAM hH nX6_statement_X6 0 rfl rfl 7 (by decide) mX6_statement_3 rfl rfl dX6_statement_174 ?_
                    refine zv_if_ne (tgt := 191) S dX6_statement_177 (by decide) (by decide) (fun c_177 => ?_) (fun c_177 => ?_)
                    · skip
                      refine lv_goto (tgt := 344) S.1 S.2.1 dX6_statement_191 (by decide) ?_
                      have eS : stm tx lnn p rd = (2, 0, rd) := by rw [stm, if_neg c_19, if_pos c_109, stRole, if_pos q1, if_neg q2, if_pos q3, stNums, hm_118, bnd_some, hm_123, bnd_none]
                      rw [eS] at hret
                      exact hret 344 ls _ _ (sj_465, 2) dX6_statement_344 ⟨rfl, (fun z => absurd z (by decide)), (by omega)⟩ hH hS
                    · exact (show False by omega).elim
            · exact absurd q1 (by decide)
            · exact absurd q1 (by decide)
          · skip
            refine lv_istore (lv' := [(4, .int (iI ((zz_464 : Nat) : Int))), (3, .int (iI ((zz_429 : Nat) : Int))), (2, .int (iI ((1 : Nat) : Int))), (1, .int (iI (wdV tx p (we tx lnn p - p)))), (0, .ref (h))]) S.1 S.2.1 dX6_statement_126 hl (by decide) rfl (fun ls hl => ?_)
            refine lv_aload_n S.1 S.2.1 dX6_statement_128 rfl (lv_at hl 4 rfl) ?_
            refine lv_bipush (v := iI (((59 : Nat) : Int))) S.1 S.2.1 dX6_statement_129 (by decide) ?_
            refine zc_Vv (n := 1) (As := [.int (iI ((59 : Nat) : Int))]) (rest := []) S hAM hA (kX6_wants l X h Q s rd kp km tx lnn sj_465 0 wi gi 59 ht (by decide) (by omega) (by omega)) rfl gX6_statement_X6_wants  (by decide +kernel) ⟨Nat.le_of_ble_eq_true rfl, Nat.le_of_ble_eq_true rfl⟩ hH hS [0, 1, 2, 3, 4, 5, 6] rfl 7 rfl (List.Perm.refl _) 6 0 rfl rfl rfl hl.1 rfl (Nat.le_of_ble_eq_true rfl) dX6_statement_131 ⟨Nat.le_of_ble_eq_true rfl, Nat.le_of_ble_eq_true rfl⟩ (fun u495 H locs hp497 hH hS => ?_)
            obtain ⟨sj_493, rj_494⟩ := u495
            have hH : Hold X A [mO h Q km ((lnn : Nat) : Int) ((sj_493 : Nat) : Int) ((rj_494 : Nat) : Int), aW X (Q 0) 125 s, aW X (Q 1) 125 rd, aW X (Q 2) 625 kp, aW X (Q 3) 400 tx, aW X (Q 4) 8 wi, aW X (Q 5) 8 gi].flatten H := hH
            have hw_131 := hp497
            rcases hw_131 with ⟨q1, -⟩ | ⟨-, rfl, rfl, hq_131⟩ | ⟨-, rfl, rfl, hq_131⟩
            · exact absurd rfl q1
            · skip
              refine lv_aload_n S.1 S.2.1 dX6_statement_134 rfl (lv_at hl 4 rfl) ?_
              refine lv_iload_n S.1 S.2.1 dX6_statement_135 rfl (lv_at hl 1 rfl) ?_
              refine lv_bipush (v := iI (((60 : Nat) : Int))) S.1 S.2.1 dX6_statement_136 (by decide) ?_
              refine zv_icmp_gt (tgt := 152) S dX6_statement_138 (by decide) (by omega) (by decide) (fun c_138 => ?_) (fun c_138 => ?_)
              · skip
                refine lv_iconst (v := iI (((0 : Nat) : Int))) S.1 S.2.1 dX6_statement_152 (by decide) ?_
                refine lv_aload_n S.1 S.2.1 dX6_statement_153 rfl (lv_at hl 4 rfl) ?_
                refine zv_get (v := .ref (Q 1)) S hAM hH nX6_statement_X6 0 rfl rfl 1 (by decide) mX6_statement_2 rfl rfl dX6_statement_154 ?_
                refine lv_bipush (v := iI (((11 : Nat) : Int))) S.1 S.2.1 dX6_statement_157 (by decide) ?_
                refine zv_iald S hAM hH 2 rfl (11) rfl (by decide) (by decide) dX6_statement_159 ?_
                refine zv_top (z := rd 11) (z2 := ((nr rd : Nat) : Int)) hrd.e11 ?_
                refine lv_bipush (v := iI (((8 : Nat) : Int))) S.1 S.2.1 dX6_statement_160 (by decide) ?_
                refine zv_icmp_ge (tgt := 169) S dX6_statement_162 (by decide) (by omega) (by decide) (fun c_162 => ?_) (fun c_162 => ?_)
                · skip
                  refine lv_iconst (v := iI (((0 : Nat) : Int))) S.1 S.2.1 dX6_statement_169 (by decide) ?_
                  refine zc_Vv (n := 2) (As := [.int (iI ((0 : Nat) : Int)), .int (iI ((0 : Nat) : Int))]) (rest := []) S hAM hA (kX6_checked l X h Q s rd kp km tx lnn (sj_465 + 1) 0 wi gi 0 0 ht (by decide) (by decide) (by decide)) rfl gX6_statement_X6_checked  (by decide +kernel) ⟨Nat.le_of_ble_eq_true rfl, Nat.le_of_ble_eq_true rfl⟩ hH hS [0, 1, 2, 3, 4, 5, 6] rfl 7 rfl (List.Perm.refl _) 6 0 rfl rfl rfl hl.1 rfl (Nat.le_of_ble_eq_true rfl) dX6_statement_170 ⟨Nat.le_of_ble_eq_true rfl, Nat.le_of_ble_eq_true rfl⟩ (fun rj_498 H locs hp500 hH hS => ?_)
                  have hH : Hold X A [mO h Q km ((lnn : Nat) : Int) (((sj_465 + 1) : Nat) : Int) ((rj_498 : Nat) : Int), aW X (Q 0) 125 s, aW X (Q 1) 125 rd, aW X (Q 2) 625 kp, aW X (Q 3) 400 tx, aW X (Q 4) 8 wi, aW X (Q 5) 8 gi].flatten H := hH
                  have hc_170 := hp500
                  obtain rfl : rj_498 = 3 := hc_170.trans (by decide)
                  refine lv_aload_n S.1 S.2.1 dX6_statement_173 rfl (lv_at hl 4 rfl) ?_
                  refine zv_get (v := .int (iI ((3 : Nat) : Int))) S hAM hH nX6_statement_X6 0 rfl rfl 7 (by decide) mX6_statement_3 rfl rfl dX6_statement_174 ?_
                  refine zv_if_ne (tgt := 191) S dX6_statement_177 (by decide) (by decide) (fun c_177 => ?_) (fun c_177 => ?_)
                  · skip
                    refine lv_goto (tgt := 344) S.1 S.2.1 dX6_statement_191 (by decide) ?_
                    have eS : stm tx lnn p rd = (3, 0, rd) := by rw [stm, if_neg c_19, if_pos c_109, stRole, if_pos q1, if_neg q2, if_pos q3, stNums, hm_118, bnd_some, hm_123, bnd_some, if_pos hq_131, if_neg (by omega)]
                    rw [eS] at hret
                    exact hret 344 ls _ _ ((sj_465 + 1), 3) dX6_statement_344 ⟨rfl, (fun z => absurd z (by decide)), (by omega)⟩ hH hS
                  · exact (show False by omega).elim
                · skip
                  refine lv_iconst (v := iI (((1 : Nat) : Int))) S.1 S.2.1 dX6_statement_165 (by decide) ?_
                  refine lv_goto (tgt := 170) S.1 S.2.1 dX6_statement_166 (by decide) ?_
                  refine zc_Vv (n := 2) (As := [.int (iI ((0 : Nat) : Int)), .int (iI ((1 : Nat) : Int))]) (rest := []) S hAM hA (kX6_checked l X h Q s rd kp km tx lnn (sj_465 + 1) 0 wi gi 0 1 ht (by decide) (by decide) (by decide)) rfl gX6_statement_X6_checked  (by decide +kernel) ⟨Nat.le_of_ble_eq_true rfl, Nat.le_of_ble_eq_true rfl⟩ hH hS [0, 1, 2, 3, 4, 5, 6] rfl 7 rfl (List.Perm.refl _) 6 0 rfl rfl rfl hl.1 rfl (Nat.le_of_ble_eq_true rfl) dX6_statement_170 ⟨Nat.le_of_ble_eq_true rfl, Nat.le_of_ble_eq_true rfl⟩ (fun rj_501 H locs hp503 hH hS => ?_)
                  have hH : Hold X A [mO h Q km ((lnn : Nat) : Int) (((sj_465 + 1) : Nat) : Int) ((rj_501 : Nat) : Int), aW X (Q 0) 125 s, aW X (Q 1) 125 rd, aW X (Q 2) 625 kp, aW X (Q 3) 400 tx, aW X (Q 4) 8 wi, aW X (Q 5) 8 gi].flatten H := hH
                  have hc_170 := hp503
                  obtain rfl : rj_501 = 3 := hc_170.trans (by decide)
                  refine lv_aload_n S.1 S.2.1 dX6_statement_173 rfl (lv_at hl 4 rfl) ?_
                  refine zv_get (v := .int (iI ((3 : Nat) : Int))) S hAM hH nX6_statement_X6 0 rfl rfl 7 (by decide) mX6_statement_3 rfl rfl dX6_statement_174 ?_
                  refine zv_if_ne (tgt := 191) S dX6_statement_177 (by decide) (by decide) (fun c_177 => ?_) (fun c_177 => ?_)
                  · skip
                    refine lv_goto (tgt := 344) S.1 S.2.1 dX6_statement_191 (by decide) ?_
                    have eS : stm tx lnn p rd = (3, 0, rd) := by rw [stm, if_neg c_19, if_pos c_109, stRole, if_pos q1, if_neg q2, if_pos q3, stNums, hm_118, bnd_some, hm_123, bnd_some, if_pos hq_131, if_neg (by omega)]
                    rw [eS] at hret
                    exact hret 344 ls _ _ ((sj_465 + 1), 3) dX6_statement_344 ⟨rfl, (fun z => absurd z (by decide)), (by omega)⟩ hH hS
                  · exact (show False by omega).elim
              · skip
                refine lv_iload S.1 S.2.1 dX6_statement_141 (lv_at hl 0 rfl) ?_
                refine lv_bipush (v := iI (((60 : Nat) : Int))) S.1 S.2.1 dX6_statement_143 (by decide) ?_
                refine zv_icmp_gt (tgt := 152) S dX6_statement_145 (by decide) (by omega) (by decide) (fun c_145 => ?_) (fun c_145 => ?_)
                · skip
                  refine lv_iconst (v := iI (((0 : Nat) : Int))) S.1 S.2.1 dX6_statement_152 (by decide) ?_
                  refine lv_aload_n S.1 S.2.1 dX6_statement_153 rfl (lv_at hl 4 rfl) ?_
                  refine zv_get (v := .ref (Q 1)) S hAM hH nX6_statement_X6 0 rfl rfl 1 (by decide) mX6_statement_2 rfl rfl dX6_statement_154 ?_
                  refine lv_bipush (v := iI (((11 : Nat) : Int))) S.1 S.2.1 dX6_statement_157 (by decide) ?_
                  refine zv_iald S hAM hH 2 rfl (11) rfl (by decide) (by decide) dX6_statement_159 ?_
                  refine zv_top (z := rd 11) (z2 := ((nr rd : Nat) : Int)) hrd.e11 ?_
                  refine lv_bipush (v := iI (((8 : Nat) : Int))) S.1 S.2.1 dX6_statement_160 (by decide) ?_
                  refine zv_icmp_ge (tgt := 169) S dX6_statement_162 (by decide) (by omega) (by decide) (fun c_162 => ?_) (fun c_162 => ?_)
                  · skip
                    refine lv_iconst (v := iI (((0 : Nat) : Int))) S.1 S.2.1 dX6_statement_169 (by decide) ?_
                    refine zc_Vv (n := 2) (As := [.int (iI ((0 : Nat) : Int)), .int (iI ((0 : Nat) : Int))]) (rest := []) S hAM hA (kX6_checked l X h Q s rd kp km tx lnn (sj_465 + 1) 0 wi gi 0 0 ht (by decide) (by decide) (by decide)) rfl gX6_statement_X6_checked  (by decide +kernel) ⟨Nat.le_of_ble_eq_true rfl, Nat.le_of_ble_eq_true rfl⟩ hH hS [0, 1, 2, 3, 4, 5, 6] rfl 7 rfl (List.Perm.refl _) 6 0 rfl rfl rfl hl.1 rfl (Nat.le_of_ble_eq_true rfl) dX6_statement_170 ⟨Nat.le_of_ble_eq_true rfl, Nat.le_of_ble_eq_true rfl⟩ (fun rj_504 H locs hp506 hH hS => ?_)
                    have hH : Hold X A [mO h Q km ((lnn : Nat) : Int) (((sj_465 + 1) : Nat) : Int) ((rj_504 : Nat) : Int), aW X (Q 0) 125 s, aW X (Q 1) 125 rd, aW X (Q 2) 625 kp, aW X (Q 3) 400 tx, aW X (Q 4) 8 wi, aW X (Q 5) 8 gi].flatten H := hH
                    have hc_170 := hp506
                    obtain rfl : rj_504 = 3 := hc_170.trans (by decide)
                    refine lv_aload_n S.1 S.2.1 dX6_statement_173 rfl (lv_at hl 4 rfl) ?_
                    refine zv_get (v := .int (iI ((3 : Nat) : Int))) S hAM hH nX6_statement_X6 0 rfl rfl 7 (by decide) mX6_statement_3 rfl rfl dX6_statement_174 ?_
                    refine zv_if_ne (tgt := 191) S dX6_statement_177 (by decide) (by decide) (fun c_177 => ?_) (fun c_177 => ?_)
                    · skip
                      refine lv_goto (tgt := 344) S.1 S.2.1 dX6_statement_191 (by decide) ?_
                      have eS : stm tx lnn p rd = (3, 0, rd) := by rw [stm, if_neg c_19, if_pos c_109, stRole, if_pos q1, if_neg q2, if_pos q3, stNums, hm_118, bnd_some, hm_123, bnd_some, if_pos hq_131, if_neg (by omega)]
                      rw [eS] at hret
                      exact hret 344 ls _ _ ((sj_465 + 1), 3) dX6_statement_344 ⟨rfl, (fun z => absurd z (by decide)), (by omega)⟩ hH hS
                    · exact (show False by omega).elim
                  · skip
                    refine lv_iconst (v := iI (((1 : Nat) : Int))) S.1 S.2.1 dX6_statement_165 (by decide) ?_
                    refine lv_goto (tgt := 170) S.1 S.2.1 dX6_statement_166 (by decide) ?_
                    refine zc_Vv (n := 2) (As := [.int (iI ((0 : Nat) : Int)), .int (iI ((1 : Nat) : Int))]) (rest := []) S hAM hA (kX6_checked l X h Q s rd kp km tx lnn (sj_465 + 1) 0 wi gi 0 1 ht (by decide) (by decide) (by decide)) rfl gX6_statement_X6_checked  (by decide +kernel) ⟨Nat.le_of_ble_eq_true rfl, Nat.le_of_ble_eq_true rfl⟩ hH hS [0, 1, 2, 3, 4, 5, 6] rfl 7 rfl (List.Perm.refl _) 6 0 rfl rfl rfl hl.1 rfl (Nat.le_of_ble_eq_true rfl) dX6_statement_170 ⟨Nat.le_of_ble_eq_true rfl, Nat.le_of_ble_eq_true rfl⟩ (fun rj_507 H locs hp509 hH hS => ?_)
                    have hH : Hold X A [mO h Q km ((lnn : Nat) : Int) (((sj_465 + 1) : Nat) : Int) ((rj_507 : Nat) : Int), aW X (Q 0) 125 s, aW X (Q 1) 125 rd, aW X (Q 2) 625 kp, aW X (Q 3) 400 tx, aW X (Q 4) 8 wi, aW X (Q 5) 8 gi].flatten H := hH
                    have hc_170 := hp509
                    obtain rfl : rj_507 = 3 := hc_170.trans (by decide)
                    refine lv_aload_n S.1 S.2.1 dX6_statement_173 rfl (lv_at hl 4 rfl) ?_
                    refine zv_get (v := .int (iI ((3 : Nat) : Int))) S hAM hH nX6_statement_X6 0 rfl rfl 7 (by decide) mX6_statement_3 rfl rfl dX6_statement_174 ?_
                    refine zv_if_ne (tgt := 191) S dX6_statement_177 (by decide) (by decide) (fun c_177 => ?_) (fun c_177 => ?_)
                    · skip
                      refine lv_goto (tgt := 344) S.1 S.2.1 dX6_statement_191 (by decide) ?_
                      have eS : stm tx lnn p rd = (3, 0, rd) := by rw [stm, if_neg c_19, if_pos c_109, stRole, if_pos q1, if_neg q2, if_pos q3, stNums, hm_118, bnd_some, hm_123, bnd_some, if_pos hq_131, if_neg (by omega)]
                      rw [eS] at hret
                      exact hret 344 ls _ _ ((sj_465 + 1), 3) dX6_statement_344 ⟨rfl, (fun z => absurd z (by decide)), (by omega)⟩ hH hS
                    · exact (show False by omega).elim
                · skip
                  refine lv_iconst (v := iI (((1 : Nat) : Int))) S.1 S.2.1 dX6_statement_148 (by decide) ?_
                  refine lv_goto (tgt := 153) S.1 S.2.1 dX6_statement_149 (by decide) ?_
                  refine lv_aload_n S.1 S.2.1 dX6_statement_153 rfl (lv_at hl 4 rfl) ?_
                  refine zv_get (v := .ref (Q 1)) S hAM hH nX6_statement_X6 0 rfl rfl 1 (by decide) mX6_statement_2 rfl rfl dX6_statement_154 ?_
                  refine lv_bipush (v := iI (((11 : Nat) : Int))) S.1 S.2.1 dX6_statement_157 (by decide) ?_
                  refine zv_iald S hAM hH 2 rfl (11) rfl (by decide) (by decide) dX6_statement_159 ?_
                  refine zv_top (z := rd 11) (z2 := ((nr rd : Nat) : Int)) hrd.e11 ?_
                  refine lv_bipush (v := iI (((8 : Nat) : Int))) S.1 S.2.1 dX6_statement_160 (by decide) ?_
                  refine zv_icmp_ge (tgt := 169) S dX6_statement_162 (by decide) (by omega) (by decide) (fun c_162 => ?_) (fun c_162 => ?_)
                  · skip
                    refine lv_iconst (v := iI (((0 : Nat) : Int))) S.1 S.2.1 dX6_statement_169 (by decide) ?_
                    refine zc_Vv (n := 2) (As := [.int (iI ((1 : Nat) : Int)), .int (iI ((0 : Nat) : Int))]) (rest := []) S hAM hA (kX6_checked l X h Q s rd kp km tx lnn (sj_465 + 1) 0 wi gi 1 0 ht (by decide) (by decide) (by decide)) rfl gX6_statement_X6_checked  (by decide +kernel) ⟨Nat.le_of_ble_eq_true rfl, Nat.le_of_ble_eq_true rfl⟩ hH hS [0, 1, 2, 3, 4, 5, 6] rfl 7 rfl (List.Perm.refl _) 6 0 rfl rfl rfl hl.1 rfl (Nat.le_of_ble_eq_true rfl) dX6_statement_170 ⟨Nat.le_of_ble_eq_true rfl, Nat.le_of_ble_eq_true rfl⟩ (fun rj_510 H locs hp512 hH hS => ?_)
                    have hH : Hold X A [mO h Q km ((lnn : Nat) : Int) (((sj_465 + 1) : Nat) : Int) ((rj_510 : Nat) : Int), aW X (Q 0) 125 s, aW X (Q 1) 125 rd, aW X (Q 2) 625 kp, aW X (Q 3) 400 tx, aW X (Q 4) 8 wi, aW X (Q 5) 8 gi].flatten H := hH
                    have hc_170 := hp512
                    obtain rfl : rj_510 = 4 := hc_170.trans (by decide)
                    refine lv_aload_n S.1 S.2.1 dX6_statement_173 rfl (lv_at hl 4 rfl) ?_
                    refine zv_get (v := .int (iI ((4 : Nat) : Int))) S hAM hH nX6_statement_X6 0 rfl rfl 7 (by decide) mX6_statement_3 rfl rfl dX6_statement_174 ?_
                    refine zv_if_ne (tgt := 191) S dX6_statement_177 (by decide) (by decide) (fun c_177 => ?_) (fun c_177 => ?_)
                    · skip
                      refine lv_goto (tgt := 344) S.1 S.2.1 dX6_statement_191 (by decide) ?_
                      have eS : stm tx lnn p rd = (4, 0, rd) := by rw [stm, if_neg c_19, if_pos c_109, stRole, if_pos q1, if_neg q2, if_pos q3, stNums, hm_118, bnd_some, hm_123, bnd_some, if_pos hq_131, if_pos (by omega), if_neg (by omega)]
                      rw [eS] at hret
                      exact hret 344 ls _ _ ((sj_465 + 1), 4) dX6_statement_344 ⟨rfl, (fun z => absurd z (by decide)), (by omega)⟩ hH hS
                    · exact (show False by omega).elim
                  · skip
                    refine lv_iconst (v := iI (((1 : Nat) : Int))) S.1 S.2.1 dX6_statement_165 (by decide) ?_
                    refine lv_goto (tgt := 170) S.1 S.2.1 dX6_statement_166 (by decide) ?_
                    refine zc_Vv (n := 2) (As := [.int (iI ((1 : Nat) : Int)), .int (iI ((1 : Nat) : Int))]) (rest := []) S hAM hA (kX6_checked l X h Q s rd kp km tx lnn (sj_465 + 1) 0 wi gi 1 1 ht (by decide) (by decide) (by decide)) rfl gX6_statement_X6_checked  (by decide +kernel) ⟨Nat.le_of_ble_eq_true rfl, Nat.le_of_ble_eq_true rfl⟩ hH hS [0, 1, 2, 3, 4, 5, 6] rfl 7 rfl (List.Perm.refl _) 6 0 rfl rfl rfl hl.1 rfl (Nat.le_of_ble_eq_true rfl) dX6_statement_170 ⟨Nat.le_of_ble_eq_true rfl, Nat.le_of_ble_eq_true rfl⟩ (fun rj_513 H locs hp515 hH hS => ?_)
                    have hH : Hold X A [mO h Q km ((lnn : Nat) : Int) (((sj_465 + 1) : Nat) : Int) ((rj_513 : Nat) : Int), aW X (Q 0) 125 s, aW X (Q 1) 125 rd, aW X (Q 2) 625 kp, aW X (Q 3) 400 tx, aW X (Q 4) 8 wi, aW X (Q 5) 8 gi].flatten H := hH
                    have hc_170 := hp515
                    obtain rfl : rj_513 = 0 := hc_170.trans (by decide)
                    refine lv_aload_n S.1 S.2.1 dX6_statement_173 rfl (lv_at hl 4 rfl) ?_
                    refine zv_get (v := .int (iI ((0 : Nat) : Int))) S hAM hH nX6_statement_X6 0 rfl rfl 7 (by decide) mX6_statement_3 rfl rfl dX6_statement_174 ?_
                    refine zv_if_ne (tgt := 191) S dX6_statement_177 (by decide) (by decide) (fun c_177 => ?_) (fun c_177 => ?_)
                    · exact (show False by omega).elim
                    · skip
                      refine lv_aload_n S.1 S.2.1 dX6_statement_180 rfl (lv_at hl 4 rfl) ?_
                      refine zv_get (v := .ref (Q 1)) S hAM hH nX6_statement_X6 0 rfl rfl 1 (by decide) mX6_statement_2 rfl rfl dX6_statement_181 ?_
                      refine lv_iload_n S.1 S.2.1 dX6_statement_184 rfl (lv_at hl 2 rfl) ?_
                      refine lv_iload_n S.1 S.2.1 dX6_statement_185 rfl (lv_at hl 1 rfl) ?_
                      refine lv_iload S.1 S.2.1 dX6_statement_186 (lv_at hl 0 rfl) ?_
                      refine zc_Sv (n := 4) (As := [.ref (Q 1), .int (iI ((1 : Nat) : Int)), .int (iI ((zz_429 : Nat) : Int)), .int (iI ((zz_464 : Nat) : Int))]) (rest := []) S hAM hA (kX6_role l X (Q 1) rd 1 ((zz_429 : Nat) : Int) ((zz_464 : Nat) : Int) hrd (by omega)) rfl gX6_statement_X6_role  (by decide +kernel) ⟨Nat.le_of_ble_eq_true rfl, Nat.le_of_ble_eq_true rfl⟩ hH hS [2, 0, 1, 3, 4, 5, 6] rfl 7 rfl (by decide)  rfl hl.1 rfl (Nat.le_of_ble_eq_true rfl) dX6_statement_188 ⟨Nat.le_of_ble_eq_true rfl, Nat.le_of_ble_eq_true rfl⟩ (fun _ H locs hp518 hH hS => ?_)
                      have hH : Hold X A [aW X (Q 1) 125 (addRole rd 1 ((zz_429 : Nat) : Int) ((zz_464 : Nat) : Int)), mO h Q km ((lnn : Nat) : Int) (((sj_465 + 1) : Nat) : Int) ((0 : Nat) : Int), aW X (Q 0) 125 s, aW X (Q 2) 625 kp, aW X (Q 3) 400 tx, aW X (Q 4) 8 wi, aW X (Q 5) 8 gi].flatten H := hH
                      refine lv_goto (tgt := 344) S.1 S.2.1 dX6_statement_191 (by decide) ?_
                      have hH : Hold X A [mO h Q km ((lnn : Nat) : Int) (((sj_465 + 1) : Nat) : Int) ((0 : Nat) : Int), aW X (Q 0) 125 s, aW X (Q 1) 125 (addRole rd 1 ((zz_429 : Nat) : Int) ((zz_464 : Nat) : Int)), aW X (Q 2) 625 kp, aW X (Q 3) 400 tx, aW X (Q 4) 8 wi, aW X (Q 5) 8 gi].flatten _ := hH.pick [1, 2, 0, 3, 4, 5, 6] rfl 7 rfl (by decide)
                      have eS : stm tx lnn p rd = (0, (sj_465 + 1), (addRole rd 1 ((zz_429 : Nat) : Int) ((zz_464 : Nat) : Int))) := by rw [stm, if_neg c_19, if_pos c_109, stRole, if_pos q1, if_neg q2, if_pos q3, stNums, hm_118, bnd_some, hm_123, bnd_some, if_pos hq_131, if_pos (by omega), if_pos (by omega)]
                      rw [eS] at hret
                      exact hret 344 ls _ _ ((sj_465 + 1), 0) dX6_statement_344 ⟨rfl, (fun _ => rfl), (by omega)⟩ hH hS
            · skip
              refine lv_aload_n S.1 S.2.1 dX6_statement_134 rfl (lv_at hl 4 rfl) ?_
              refine lv_iload_n S.1 S.2.1 dX6_statement_135 rfl (lv_at hl 1 rfl) ?_
              refine lv_bipush (v := iI (((60 : Nat) : Int))) S.1 S.2.1 dX6_statement_136 (by decide) ?_
              refine zv_icmp_gt (tgt := 152) S dX6_statement_138 (by decide) (by omega) (by decide) (fun c_138 => ?_) (fun c_138 => ?_)
              · skip
                refine lv_iconst (v := iI (((0 : Nat) : Int))) S.1 S.2.1 dX6_statement_152 (by decide) ?_
                refine lv_aload_n S.1 S.2.1 dX6_statement_153 rfl (lv_at hl 4 rfl) ?_
                refine zv_get (v := .ref (Q 1)) S hAM hH nX6_statement_X6 0 rfl rfl 1 (by decide) mX6_statement_2 rfl rfl dX6_statement_154 ?_
                refine lv_bipush (v := iI (((11 : Nat) : Int))) S.1 S.2.1 dX6_statement_157 (by decide) ?_
                refine zv_iald S hAM hH 2 rfl (11) rfl (by decide) (by decide) dX6_statement_159 ?_
                refine zv_top (z := rd 11) (z2 := ((nr rd : Nat) : Int)) hrd.e11 ?_
                refine lv_bipush (v := iI (((8 : Nat) : Int))) S.1 S.2.1 dX6_statement_160 (by decide) ?_
                refine zv_icmp_ge (tgt := 169) S dX6_statement_162 (by decide) (by omega) (by decide) (fun c_162 => ?_) (fun c_162 => ?_)
                · skip
                  refine lv_iconst (v := iI (((0 : Nat) : Int))) S.1 S.2.1 dX6_statement_169 (by decide) ?_
                  refine zc_Vv (n := 2) (As := [.int (iI ((0 : Nat) : Int)), .int (iI ((0 : Nat) : Int))]) (rest := []) S hAM hA (kX6_checked l X h Q s rd kp km tx lnn (sj_465 + 1) 2 wi gi 0 0 ht (by decide) (by decide) (by decide)) rfl gX6_statement_X6_checked  (by decide +kernel) ⟨Nat.le_of_ble_eq_true rfl, Nat.le_of_ble_eq_true rfl⟩ hH hS [0, 1, 2, 3, 4, 5, 6] rfl 7 rfl (List.Perm.refl _) 6 0 rfl rfl rfl hl.1 rfl (Nat.le_of_ble_eq_true rfl) dX6_statement_170 ⟨Nat.le_of_ble_eq_true rfl, Nat.le_of_ble_eq_true rfl⟩ (fun rj_519 H locs hp521 hH hS => ?_)
                  have hH : Hold X A [mO h Q km ((lnn : Nat) : Int) (((sj_465 + 1) : Nat) : Int) ((rj_519 : Nat) : Int), aW X (Q 0) 125 s, aW X (Q 1) 125 rd, aW X (Q 2) 625 kp, aW X (Q 3) 400 tx, aW X (Q 4) 8 wi, aW X (Q 5) 8 gi].flatten H := hH
                  have hc_170 := hp521
                  obtain rfl : rj_519 = 2 := hc_170.trans (by decide)
                  refine lv_aload_n S.1 S.2.1 dX6_statement_173 rfl (lv_at hl 4 rfl) ?_
                  refine zv_get (v := .int (iI ((2 : Nat) : Int))) S hAM hH nX6_statement_X6 0 rfl rfl 7 (by decide) mX6_statement_3 rfl rfl dX6_statement_174 ?_
                  refine zv_if_ne (tgt := 191) S dX6_statement_177 (by decide) (by decide) (fun c_177 => ?_) (fun c_177 => ?_)
                  · skip
                    refine lv_goto (tgt := 344) S.1 S.2.1 dX6_statement_191 (by decide) ?_
                    have eS : stm tx lnn p rd = (2, 0, rd) := by rw [stm, if_neg c_19, if_pos c_109, stRole, if_pos q1, if_neg q2, if_pos q3, stNums, hm_118, bnd_some, hm_123, bnd_some, if_neg hq_131]
                    rw [eS] at hret
                    exact hret 344 ls _ _ ((sj_465 + 1), 2) dX6_statement_344 ⟨rfl, (fun z => absurd z (by decide)), (by omega)⟩ hH hS
                  · exact (show False by omega).elim
                · skip
                  refine lv_iconst (v := iI (((1 : Nat) : Int))) S.1 S.2.1 dX6_statement_165 (by decide) ?_
                  refine lv_goto (tgt := 170) S.1 S.2.1 dX6_statement_166 (by decide) ?_
                  refine zc_Vv (n := 2) (As := [.int (iI ((0 : Nat) : Int)), .int (iI ((1 : Nat) : Int))]) (rest := []) S hAM hA (kX6_checked l X h Q s rd kp km tx lnn (sj_465 + 1) 2 wi gi 0 1 ht (by decide) (by decide) (by decide)) rfl gX6_statement_X6_checked  (by decide +kernel) ⟨Nat.le_of_ble_eq_true rfl, Nat.le_of_ble_eq_true rfl⟩ hH hS [0, 1, 2, 3, 4, 5, 6] rfl 7 rfl (List.Perm.refl _) 6 0 rfl rfl rfl hl.1 rfl (Nat.le_of_ble_eq_true rfl) dX6_statement_170 ⟨Nat.le_of_ble_eq_true rfl, Nat.le_of_ble_eq_true rfl⟩ (fun rj_522 H locs hp524 hH hS => ?_)
                  have hH : Hold X A [mO h Q km ((lnn : Nat) : Int) (((sj_465 + 1) : Nat) : Int) ((rj_522 : Nat) : Int), aW X (Q 0) 125 s, aW X (Q 1) 125 rd, aW X (Q 2) 625 kp, aW X (Q 3) 400 tx, aW X (Q 4) 8 wi, aW X (Q 5) 8 gi].flatten H := hH
                  have hc_170 := hp524
                  obtain rfl : rj_522 = 2 := hc_170.trans (by decide)
                  refine lv_aload_n S.1 S.2.1 dX6_statement_173 rfl (lv_at hl 4 rfl) ?_
                  refine zv_get (v := .int (iI ((2 : Nat) : Int))) S hAM hH nX6_statement_X6 0 rfl rfl 7 (by decide) mX6_statement_3 rfl rfl dX6_statement_174 ?_
                  refine zv_if_ne (tgt := 191) S dX6_statement_177 (by decide) (by decide) (fun c_177 => ?_) (fun c_177 => ?_)
                  · skip
                    refine lv_goto (tgt := 344) S.1 S.2.1 dX6_statement_191 (by decide) ?_
                    have eS : stm tx lnn p rd = (2, 0, rd) := by rw [stm, if_neg c_19, if_pos c_109, stRole, if_pos q1, if_neg q2, if_pos q3, stNums, hm_118, bnd_some, hm_123, bnd_some, if_neg hq_131]
                    rw [eS] at hret
                    exact hret 344 ls _ _ ((sj_465 + 1), 2) dX6_statement_344 ⟨rfl, (fun z => absurd z (by decide)), (by omega)⟩ hH hS
                  · exact (show False by omega).elim
              · skip
                refine lv_iload S.1 S.2.1 dX6_statement_141 (lv_at hl 0 rfl) ?_
                refine lv_bipush (v := iI (((60 : Nat) : Int))) S.1 S.2.1 dX6_statement_143 (by decide) ?_
                refine zv_icmp_gt (tgt := 152) S dX6_statement_145 (by decide) (by omega) (by decide) (fun c_145 => ?_) (fun c_145 => ?_)
                · skip
                  refine lv_iconst (v := iI (((0 : Nat) : Int))) S.1 S.2.1 dX6_statement_152 (by decide) ?_
                  refine lv_aload_n S.1 S.2.1 dX6_statement_153 rfl (lv_at hl 4 rfl) ?_
                  refine zv_get (v := .ref (Q 1)) S hAM hH nX6_statement_X6 0 rfl rfl 1 (by decide) mX6_statement_2 rfl rfl dX6_statement_154 ?_
                  refine lv_bipush (v := iI (((11 : Nat) : Int))) S.1 S.2.1 dX6_statement_157 (by decide) ?_
                  refine zv_iald S hAM hH 2 rfl (11) rfl (by decide) (by decide) dX6_statement_159 ?_
                  refine zv_top (z := rd 11) (z2 := ((nr rd : Nat) : Int)) hrd.e11 ?_
                  refine lv_bipush (v := iI (((8 : Nat) : Int))) S.1 S.2.1 dX6_statement_160 (by decide) ?_
                  refine zv_icmp_ge (tgt := 169) S dX6_statement_162 (by decide) (by omega) (by decide) (fun c_162 => ?_) (fun c_162 => ?_)
                  · skip
                    refine lv_iconst (v := iI (((0 : Nat) : Int))) S.1 S.2.1 dX6_statement_169 (by decide) ?_
                    refine zc_Vv (n := 2) (As := [.int (iI ((0 : Nat) : Int)), .int (iI ((0 : Nat) : Int))]) (rest := []) S hAM hA (kX6_checked l X h Q s rd kp km tx lnn (sj_465 + 1) 2 wi gi 0 0 ht (by decide) (by decide) (by decide)) rfl gX6_statement_X6_checked  (by decide +kernel) ⟨Nat.le_of_ble_eq_true rfl, Nat.le_of_ble_eq_true rfl⟩ hH hS [0, 1, 2, 3, 4, 5, 6] rfl 7 rfl (List.Perm.refl _) 6 0 rfl rfl rfl hl.1 rfl (Nat.le_of_ble_eq_true rfl) dX6_statement_170 ⟨Nat.le_of_ble_eq_true rfl, Nat.le_of_ble_eq_true rfl⟩ (fun rj_525 H locs hp527 hH hS => ?_)
                    have hH : Hold X A [mO h Q km ((lnn : Nat) : Int) (((sj_465 + 1) : Nat) : Int) ((rj_525 : Nat) : Int), aW X (Q 0) 125 s, aW X (Q 1) 125 rd, aW X (Q 2) 625 kp, aW X (Q 3) 400 tx, aW X (Q 4) 8 wi, aW X (Q 5) 8 gi].flatten H := hH
                    have hc_170 := hp527
                    obtain rfl : rj_525 = 2 := hc_170.trans (by decide)
                    refine lv_aload_n S.1 S.2.1 dX6_statement_173 rfl (lv_at hl 4 rfl) ?_
                    refine zv_get (v := .int (iI ((2 : Nat) : Int))) S hAM hH nX6_statement_X6 0 rfl rfl 7 (by decide) mX6_statement_3 rfl rfl dX6_statement_174 ?_
                    refine zv_if_ne (tgt := 191) S dX6_statement_177 (by decide) (by decide) (fun c_177 => ?_) (fun c_177 => ?_)
                    · skip
                      refine lv_goto (tgt := 344) S.1 S.2.1 dX6_statement_191 (by decide) ?_
                      have eS : stm tx lnn p rd = (2, 0, rd) := by rw [stm, if_neg c_19, if_pos c_109, stRole, if_pos q1, if_neg q2, if_pos q3, stNums, hm_118, bnd_some, hm_123, bnd_some, if_neg hq_131]
                      rw [eS] at hret
                      exact hret 344 ls _ _ ((sj_465 + 1), 2) dX6_statement_344 ⟨rfl, (fun z => absurd z (by decide)), (by omega)⟩ hH hS
                    · exact (show False by omega).elim
                  · skip
                    refine lv_iconst (v := iI (((1 : Nat) : Int))) S.1 S.2.1 dX6_statement_165 (by decide) ?_
                    refine lv_goto (tgt := 170) S.1 S.2.1 dX6_statement_166 (by decide) ?_
                    refine zc_Vv (n := 2) (As := [.int (iI ((0 : Nat) : Int)), .int (iI ((1 : Nat) : Int))]) (rest := []) S hAM hA (kX6_checked l X h Q s rd kp km tx lnn (sj_465 + 1) 2 wi gi 0 1 ht (by decide) (by decide) (by decide)) rfl gX6_statement_X6_checked  (by decide +kernel) ⟨Nat.le_of_ble_eq_true rfl, Nat.le_of_ble_eq_true rfl⟩ hH hS [0, 1, 2, 3, 4, 5, 6] rfl 7 rfl (List.Perm.refl _) 6 0 rfl rfl rfl hl.1 rfl (Nat.le_of_ble_eq_true rfl) dX6_statement_170 ⟨Nat.le_of_ble_eq_true rfl, Nat.le_of_ble_eq_true rfl⟩ (fun rj_528 H locs hp530 hH hS => ?_)
                    have hH : Hold X A [mO h Q km ((lnn : Nat) : Int) (((sj_465 + 1) : Nat) : Int) ((rj_528 : Nat) : Int), aW X (Q 0) 125 s, aW X (Q 1) 125 rd, aW X (Q 2) 625 kp, aW X (Q 3) 400 tx, aW X (Q 4) 8 wi, aW X (Q 5) 8 gi].flatten H := hH
                    have hc_170 := hp530
                    obtain rfl : rj_528 = 2 := hc_170.trans (by decide)
                    refine lv_aload_n S.1 S.2.1 dX6_statement_173 rfl (lv_at hl 4 rfl) ?_
                    refine zv_get (v := .int (iI ((2 : Nat) : Int))) S hAM hH nX6_statement_X6 0 rfl rfl 7 (by decide) mX6_statement_3 rfl rfl dX6_statement_174 ?_
                    refine zv_if_ne (tgt := 191) S dX6_statement_177 (by decide) (by decide) (fun c_177 => ?_) (fun c_177 => ?_)
                    · skip
                      refine lv_goto (tgt := 344) S.1 S.2.1 dX6_statement_191 (by decide) ?_
                      have eS : stm tx lnn p rd = (2, 0, rd) := by rw [stm, if_neg c_19, if_pos c_109, stRole, if_pos q1, if_neg q2, if_pos q3, stNums, hm_118, bnd_some, hm_123, bnd_some, if_neg hq_131]
                      rw [eS] at hret
                      exact hret 344 ls _ _ ((sj_465 + 1), 2) dX6_statement_344 ⟨rfl, (fun z => absurd z (by decide)), (by omega)⟩ hH hS
                    · exact (show False by omega).elim
                · skip
                  refine lv_iconst (v := iI (((1 : Nat) : Int))) S.1 S.2.1 dX6_statement_148 (by decide) ?_
                  refine lv_goto (tgt := 153) S.1 S.2.1 dX6_statement_149 (by decide) ?_
                  refine lv_aload_n S.1 S.2.1 dX6_statement_153 rfl (lv_at hl 4 rfl) ?_
                  refine zv_get (v := .ref (Q 1)) S hAM hH nX6_statement_X6 0 rfl rfl 1 (by decide) mX6_statement_2 rfl rfl dX6_statement_154 ?_
                  refine lv_bipush (v := iI (((11 : Nat) : Int))) S.1 S.2.1 dX6_statement_157 (by decide) ?_
                  refine zv_iald S hAM hH 2 rfl (11) rfl (by decide) (by decide) dX6_statement_159 ?_
                  refine zv_top (z := rd 11) (z2 := ((nr rd : Nat) : Int)) hrd.e11 ?_
                  refine lv_bipush (v := iI (((8 : Nat) : Int))) S.1 S.2.1 dX6_statement_160 (by decide) ?_
                  refine zv_icmp_ge (tgt := 169) S dX6_statement_162 (by decide) (by omega) (by decide) (fun c_162 => ?_) (fun c_162 => ?_)
                  · skip
                    refine lv_iconst (v := iI (((0 : Nat) : Int))) S.1 S.2.1 dX6_statement_169 (by decide) ?_
                    refine zc_Vv (n := 2) (As := [.int (iI ((1 : Nat) : Int)), .int (iI ((0 : Nat) : Int))]) (rest := []) S hAM hA (kX6_checked l X h Q s rd kp km tx lnn (sj_465 + 1) 2 wi gi 1 0 ht (by decide) (by decide) (by decide)) rfl gX6_statement_X6_checked  (by decide +kernel) ⟨Nat.le_of_ble_eq_true rfl, Nat.le_of_ble_eq_true rfl⟩ hH hS [0, 1, 2, 3, 4, 5, 6] rfl 7 rfl (List.Perm.refl _) 6 0 rfl rfl rfl hl.1 rfl (Nat.le_of_ble_eq_true rfl) dX6_statement_170 ⟨Nat.le_of_ble_eq_true rfl, Nat.le_of_ble_eq_true rfl⟩ (fun rj_531 H locs hp533 hH hS => ?_)
                    have hH : Hold X A [mO h Q km ((lnn : Nat) : Int) (((sj_465 + 1) : Nat) : Int) ((rj_531 : Nat) : Int), aW X (Q 0) 125 s, aW X (Q 1) 125 rd, aW X (Q 2) 625 kp, aW X (Q 3) 400 tx, aW X (Q 4) 8 wi, aW X (Q 5) 8 gi].flatten H := hH
                    have hc_170 := hp533
                    obtain rfl : rj_531 = 2 := hc_170.trans (by decide)
                    refine lv_aload_n S.1 S.2.1 dX6_statement_173 rfl (lv_at hl 4 rfl) ?_
                    refine zv_get (v := .int (iI ((2 : Nat) : Int))) S hAM hH nX6_statement_X6 0 rfl rfl 7 (by decide) mX6_statement_3 rfl rfl dX6_statement_174 ?_
                    refine zv_if_ne (tgt := 191) S dX6_statement_177 (by decide) (by decide) (fun c_177 => ?_) (fun c_177 => ?_)
                    · skip
                      refine lv_goto (tgt := 344) S.1 S.2.1 dX6_statement_191 (by decide) ?_
                      have eS : stm tx lnn p rd = (2, 0, rd) := by rw [stm, if_neg c_19, if_pos c_109, stRole, if_pos q1, if_neg q2, if_pos q3, stNums, hm_118, bnd_some, hm_123, bnd_some, if_neg hq_131]
                      rw [eS] at hret
                      exact hret 344 ls _ _ ((sj_465 + 1), 2) dX6_statement_344 ⟨rfl, (fun z => absurd z (by decide)), (by omega)⟩ hH hS
                    · exact (show False by omega).elim
                  · skip
                    refine lv_iconst (v := iI (((1 : Nat) : Int))) S.1 S.2.1 dX6_statement_165 (by decide) ?_
                    refine lv_goto (tgt := 170) S.1 S.2.1 dX6_statement_166 (by decide) ?_
                    refine zc_Vv (n := 2) (As := [.int (iI ((1 : Nat) : Int)), .int (iI ((1 : Nat) : Int))]) (rest := []) S hAM hA (kX6_checked l X h Q s rd kp km tx lnn (sj_465 + 1) 2 wi gi 1 1 ht (by decide) (by decide) (by decide)) rfl gX6_statement_X6_checked  (by decide +kernel) ⟨Nat.le_of_ble_eq_true rfl, Nat.le_of_ble_eq_true rfl⟩ hH hS [0, 1, 2, 3, 4, 5, 6] rfl 7 rfl (List.Perm.refl _) 6 0 rfl rfl rfl hl.1 rfl (Nat.le_of_ble_eq_true rfl) dX6_statement_170 ⟨Nat.le_of_ble_eq_true rfl, Nat.le_of_ble_eq_true rfl⟩ (fun rj_534 H locs hp536 hH hS => ?_)
                    have hH : Hold X A [mO h Q km ((lnn : Nat) : Int) (((sj_465 + 1) : Nat) : Int) ((rj_534 : Nat) : Int), aW X (Q 0) 125 s, aW X (Q 1) 125 rd, aW X (Q 2) 625 kp, aW X (Q 3) 400 tx, aW X (Q 4) 8 wi, aW X (Q 5) 8 gi].flatten H := hH
                    have hc_170 := hp536
                    obtain rfl : rj_534 = 2 := hc_170.trans (by decide)
                    refine lv_aload_n S.1 S.2.1 dX6_statement_173 rfl (lv_at hl 4 rfl) ?_
                    refine zv_get (v := .int (iI ((2 : Nat) : Int))) S hAM hH nX6_statement_X6 0 rfl rfl 7 (by decide) mX6_statement_3 rfl rfl dX6_statement_174 ?_
                    refine zv_if_ne (tgt := 191) S dX6_statement_177 (by decide) (by decide) (fun c_177 => ?_) (fun c_177 => ?_)
                    · skip
                      refine lv_goto (tgt := 344) S.1 S.2.1 dX6_statement_191 (by decide) ?_
                      have eS : stm tx lnn p rd = (2, 0, rd) := by rw [stm, if_neg c_19, if_pos c_109, stRole, if_pos q1, if_neg q2, if_pos q3, stNums, hm_118, bnd_some, hm_123, bnd_some, if_neg hq_131]
                      rw [eS] at hret
                      exact hret 344 ls _ _ ((sj_465 + 1), 2) dX6_statement_344 ⟨rfl, (fun z => absurd z (by decide)), (by omega)⟩ hH hS
                    · exact (show False by omega).elim
      · skip
        refine zv_top (z := 2) (z2 := ((2 : Nat) : Int)) rfl ?_
        have hw5 := we_le tx lnn _ ((we tx lnn p) + 1) rfl
        refine lv_istore_n (lv' := [(2, .int (iI ((2 : Nat) : Int))), (1, .int (iI (wdV tx p (we tx lnn p - p)))), (0, .ref (h))]) S.1 S.2.1 dX6_statement_116 rfl hl (by decide) rfl (fun ls hl => ?_)
        refine lv_aload_n S.1 S.2.1 dX6_statement_117 rfl (lv_at hl 2 rfl) ?_
        refine zc_Vi (n := 0) (As := []) (rest := []) S hAM hA (kX6_number l X h Q s rd kp km tx lnn (we tx lnn ((we tx lnn p) + 1)) 0 wi gi ht (by omega) (by omega) (by omega)) rfl gX6_statement_X6_number  (by decide +kernel) ⟨Nat.le_of_ble_eq_true rfl, Nat.le_of_ble_eq_true rfl⟩ hH hS [0, 1, 2, 3, 4, 5, 6] rfl 7 rfl (List.Perm.refl _) 6 0 rfl rfl rfl hl.1 rfl (Nat.le_of_ble_eq_true rfl) dX6_statement_118 ⟨Nat.le_of_ble_eq_true rfl, Nat.le_of_ble_eq_true rfl⟩ (fun z541 u540 H locs hp542 hH hS => ?_)
        obtain ⟨zz_537, sj_538, rj_539⟩ := u540
        have hH : Hold X A [mO h Q km ((lnn : Nat) : Int) ((sj_538 : Nat) : Int) ((rj_539 : Nat) : Int), aW X (Q 0) 125 s, aW X (Q 1) 125 rd, aW X (Q 2) 625 kp, aW X (Q 3) 400 tx, aW X (Q 4) 8 wi, aW X (Q 5) 8 gi].flatten H := hH
        obtain ⟨rfl, hz_118, hn_118⟩ := hp542
        rcases hn_118 with ⟨q1, -⟩ | ⟨-, rfl, hm_118, hb_118⟩ | ⟨-, rfl, hm_118, hb_118⟩
        · exact absurd rfl q1
        · skip
          refine lv_istore_n (lv' := [(3, .int (iI ((zz_537 : Nat) : Int))), (2, .int (iI ((2 : Nat) : Int))), (1, .int (iI (wdV tx p (we tx lnn p - p)))), (0, .ref (h))]) S.1 S.2.1 dX6_statement_121 rfl hl (by decide) rfl (fun ls hl => ?_)
          refine lv_aload_n S.1 S.2.1 dX6_statement_122 rfl (lv_at hl 3 rfl) ?_
          refine zc_Vi (n := 0) (As := []) (rest := []) S hAM hA (kX6_number l X h Q s rd kp km tx lnn sj_538 2 wi gi ht (by omega) (by omega) (by omega)) rfl gX6_statement_X6_number  (by decide +kernel) ⟨Nat.le_of_ble_eq_true rfl, Nat.le_of_ble_eq_true rfl⟩ hH hS [0, 1, 2, 3, 4, 5, 6] rfl 7 rfl (List.Perm.refl _) 6 0 rfl rfl rfl hl.1 rfl (Nat.le_of_ble_eq_true rfl) dX6_statement_123 ⟨Nat.le_of_ble_eq_true rfl, Nat.le_of_ble_eq_true rfl⟩ (fun z547 u546 H locs hp548 hH hS => ?_)
          obtain ⟨zz_543, sj_544, rj_545⟩ := u546
          have hH : Hold X A [mO h Q km ((lnn : Nat) : Int) ((sj_544 : Nat) : Int) ((rj_545 : Nat) : Int), aW X (Q 0) 125 s, aW X (Q 1) 125 rd, aW X (Q 2) 625 kp, aW X (Q 3) 400 tx, aW X (Q 4) 8 wi, aW X (Q 5) 8 gi].flatten H := hH
          obtain ⟨rfl, hz_123, hn_123⟩ := hp548
          rcases hn_123 with ⟨-, rfl, rfl⟩ | ⟨q1, -⟩ | ⟨q1, -⟩
          · skip
            refine lv_istore (lv' := [(4, .int (iI ((zz_543 : Nat) : Int))), (3, .int (iI ((zz_537 : Nat) : Int))), (2, .int (iI ((2 : Nat) : Int))), (1, .int (iI (wdV tx p (we tx lnn p - p)))), (0, .ref (h))]) S.1 S.2.1 dX6_statement_126 hl (by decide) rfl (fun ls hl => ?_)
            refine lv_aload_n S.1 S.2.1 dX6_statement_128 rfl (lv_at hl 4 rfl) ?_
            refine lv_bipush (v := iI (((59 : Nat) : Int))) S.1 S.2.1 dX6_statement_129 (by decide) ?_
            refine zc_Vv (n := 1) (As := [.int (iI ((59 : Nat) : Int))]) (rest := []) S hAM hA (kX6_wants l X h Q s rd kp km tx lnn sj_538 2 wi gi 59 ht (by decide) (by omega) (by omega)) rfl gX6_statement_X6_wants  (by decide +kernel) ⟨Nat.le_of_ble_eq_true rfl, Nat.le_of_ble_eq_true rfl⟩ hH hS [0, 1, 2, 3, 4, 5, 6] rfl 7 rfl (List.Perm.refl _) 6 0 rfl rfl rfl hl.1 rfl (Nat.le_of_ble_eq_true rfl) dX6_statement_131 ⟨Nat.le_of_ble_eq_true rfl, Nat.le_of_ble_eq_true rfl⟩ (fun u551 H locs hp553 hH hS => ?_)
            obtain ⟨sj_549, rj_550⟩ := u551
            have hH : Hold X A [mO h Q km ((lnn : Nat) : Int) ((sj_549 : Nat) : Int) ((rj_550 : Nat) : Int), aW X (Q 0) 125 s, aW X (Q 1) 125 rd, aW X (Q 2) 625 kp, aW X (Q 3) 400 tx, aW X (Q 4) 8 wi, aW X (Q 5) 8 gi].flatten H := hH
            have hw_131 := hp553
            rcases hw_131 with ⟨-, rfl, rfl⟩ | ⟨q1, -⟩ | ⟨q1, -⟩
            · skip
              refine lv_aload_n S.1 S.2.1 dX6_statement_134 rfl (lv_at hl 4 rfl) ?_
              refine lv_iload_n S.1 S.2.1 dX6_statement_135 rfl (lv_at hl 1 rfl) ?_
              refine lv_bipush (v := iI (((60 : Nat) : Int))) S.1 S.2.1 dX6_statement_136 (by decide) ?_
              refine zv_icmp_gt (tgt := 152) S dX6_statement_138 (by decide) (by omega) (by decide) (fun c_138 => ?_) (fun c_138 => ?_)
              · skip
                refine lv_iconst (v := iI (((0 : Nat) : Int))) S.1 S.2.1 dX6_statement_152 (by decide) ?_
                refine lv_aload_n S.1 S.2.1 dX6_statement_153 rfl (lv_at hl 4 rfl) ?_
                refine zv_get (v := .ref (Q 1)) S hAM hH nX6_statement_X6 0 rfl rfl 1 (by decide) mX6_statement_2 rfl rfl dX6_statement_154 ?_
                refine lv_bipush (v := iI (((11 : Nat) : Int))) S.1 S.2.1 dX6_statement_157 (by decide) ?_
                refine zv_iald S hAM hH 2 rfl (11) rfl (by decide) (by decide) dX6_statement_159 ?_
                refine zv_top (z := rd 11) (z2 := ((nr rd : Nat) : Int)) hrd.e11 ?_
                refine lv_bipush (v := iI (((8 : Nat) : Int))) S.1 S.2.1 dX6_statement_160 (by decide) ?_
                refine zv_icmp_ge (tgt := 169) S dX6_statement_162 (by decide) (by omega) (by decide) (fun c_162 => ?_) (fun c_162 => ?_)
                · skip
                  refine lv_iconst (v := iI (((0 : Nat) : Int))) S.1 S.2.1 dX6_statement_169 (by decide) ?_
                  refine zc_Vv (n := 2) (As := [.int (iI ((0 : Nat) : Int)), .int (iI ((0 : Nat) : Int))]) (rest := []) S hAM hA (kX6_checked l X h Q s rd kp km tx lnn sj_538 2 wi gi 0 0 ht (by decide) (by decide) (by decide)) rfl gX6_statement_X6_checked  (by decide +kernel) ⟨Nat.le_of_ble_eq_true rfl, Nat.le_of_ble_eq_true rfl⟩ hH hS [0, 1, 2, 3, 4, 5, 6] rfl 7 rfl (List.Perm.refl _) 6 0 rfl rfl rfl hl.1 rfl (Nat.le_of_ble_eq_true rfl) dX6_statement_170 ⟨Nat.le_of_ble_eq_true rfl, Nat.le_of_ble_eq_true rfl⟩ (fun rj_554 H locs hp556 hH hS => ?_)
                  have hH : Hold X A [mO h Q km ((lnn : Nat) : Int) ((sj_538 : Nat) : Int) ((rj_554 : Nat) : Int), aW X (Q 0) 125 s, aW X (Q 1) 125 rd, aW X (Q 2) 625 kp, aW X (Q 3) 400 tx, aW X (Q 4) 8 wi, aW X (Q 5) 8 gi].flatten H := hH
                  have hc_170 := hp556
                  obtain rfl : rj_554 = 2 := hc_170.trans (by decide)
                  refine lv_aload_n S.1 S.2.1 dX6_statement_173 rfl (lv_at hl 4 rfl) ?_
                  refine zv_get (v := .int (iI ((2 : Nat) : Int))) S hAM hH nX6_statement_X6 0 rfl rfl 7 (by decide) mX6_statement_3 rfl rfl dX6_statement_174 ?_
                  refine zv_if_ne (tgt := 191) S dX6_statement_177 (by decide) (by decide) (fun c_177 => ?_) (fun c_177 => ?_)
                  · skip
                    refine lv_goto (tgt := 344) S.1 S.2.1 dX6_statement_191 (by decide) ?_
                    have eS : stm tx lnn p rd = (2, 0, rd) := by rw [stm, if_neg c_19, if_pos c_109, stRole, if_pos q1, if_neg q2, if_neg q3, if_pos q4, stNums, hm_118, bnd_none]
                    rw [eS] at hret
                    exact hret 344 ls _ _ (sj_538, 2) dX6_statement_344 ⟨rfl, (fun z => absurd z (by decide)), (by omega)⟩ hH hS
                  · exact (show False by omega).elim
                · skip
                  refine lv_iconst (v := iI (((1 : Nat) : Int))) S.1 S.2.1 dX6_statement_165 (by decide) ?_
                  refine lv_goto (tgt := 170) S.1 S.2.1 dX6_statement_166 (by decide) ?_
                  refine zc_Vv (n := 2) (As := [.int (iI ((0 : Nat) : Int)), .int (iI ((1 : Nat) : Int))]) (rest := []) S hAM hA (kX6_checked l X h Q s rd kp km tx lnn sj_538 2 wi gi 0 1 ht (by decide) (by decide) (by decide)) rfl gX6_statement_X6_checked  (by decide +kernel) ⟨Nat.le_of_ble_eq_true rfl, Nat.le_of_ble_eq_true rfl⟩ hH hS [0, 1, 2, 3, 4, 5, 6] rfl 7 rfl (List.Perm.refl _) 6 0 rfl rfl rfl hl.1 rfl (Nat.le_of_ble_eq_true rfl) dX6_statement_170 ⟨Nat.le_of_ble_eq_true rfl, Nat.le_of_ble_eq_true rfl⟩ (fun rj_557 H locs hp559 hH hS => ?_)
                  have hH : Hold X A [mO h Q km ((lnn : Nat) : Int) ((sj_538 : Nat) : Int) ((rj_557 : Nat) : Int), aW X (Q 0) 125 s, aW X (Q 1) 125 rd, aW X (Q 2) 625 kp, aW X (Q 3) 400 tx, aW X (Q 4) 8 wi, aW X (Q 5) 8 gi].flatten H := hH
                  have hc_170 := hp559
                  obtain rfl : rj_557 = 2 := hc_170.trans (by decide)
                  refine lv_aload_n S.1 S.2.1 dX6_statement_173 rfl (lv_at hl 4 rfl) ?_
                  refine zv_get (v := .int (iI ((2 : Nat) : Int))) S hAM hH nX6_statement_X6 0 rfl rfl 7 (by decide) mX6_statement_3 rfl rfl dX6_statement_174 ?_
                  refine zv_if_ne (tgt := 191) S dX6_statement_177 (by decide) (by decide) (fun c_177 => ?_) (fun c_177 => ?_)
                  · skip
                    refine lv_goto (tgt := 344) S.1 S.2.1 dX6_statement_191 (by decide) ?_
                    have eS : stm tx lnn p rd = (2, 0, rd) := by rw [stm, if_neg c_19, if_pos c_109, stRole, if_pos q1, if_neg q2, if_neg q3, if_pos q4, stNums, hm_118, bnd_none]
                    rw [eS] at hret
                    exact hret 344 ls _ _ (sj_538, 2) dX6_statement_344 ⟨rfl, (fun z => absurd z (by decide)), (by omega)⟩ hH hS
                  · exact (show False by omega).elim
              · skip
                refine lv_iload S.1 S.2.1 dX6_statement_141 (lv_at hl 0 rfl) ?_
                refine lv_bipush (v := iI (((60 : Nat) : Int))) S.1 S.2.1 dX6_statement_143 (by decide) ?_
                refine zv_icmp_gt (tgt := 152) S dX6_statement_145 (by decide) (by omega) (by decide) (fun c_145 => ?_) (fun c_145 => ?_)
                · skip
                  refine lv_iconst (v := iI (((0 : Nat) : Int))) S.1 S.2.1 dX6_statement_152 (by decide) ?_
                  refine lv_aload_n S.1 S.2.1 dX6_statement_153 rfl (lv_at hl 4 rfl) ?_
                  refine zv_get (v := .ref (Q 1)) S hAM hH nX6_statement_X6 0 rfl rfl 1 (by decide) mX6_statement_2 rfl rfl dX6_statement_154 ?_
                  refine lv_bipush (v := iI (((11 : Nat) : Int))) S.1 S.2.1 dX6_statement_157 (by decide) ?_
                  refine zv_iald S hAM hH 2 rfl (11) rfl (by decide) (by decide) dX6_statement_159 ?_
                  refine zv_top (z := rd 11) (z2 := ((nr rd : Nat) : Int)) hrd.e11 ?_
                  refine lv_bipush (v := iI (((8 : Nat) : Int))) S.1 S.2.1 dX6_statement_160 (by decide) ?_
                  refine zv_icmp_ge (tgt := 169) S dX6_statement_162 (by decide) (by omega) (by decide) (fun c_162 => ?_) (fun c_162 => ?_)
                  · skip
                    refine lv_iconst (v := iI (((0 : Nat) : Int))) S.1 S.2.1 dX6_statement_169 (by decide) ?_
                    refine zc_Vv (n := 2) (As := [.int (iI ((0 : Nat) : Int)), .int (iI ((0 : Nat) : Int))]) (rest := []) S hAM hA (kX6_checked l X h Q s rd kp km tx lnn sj_538 2 wi gi 0 0 ht (by decide) (by decide) (by decide)) rfl gX6_statement_X6_checked  (by decide +kernel) ⟨Nat.le_of_ble_eq_true rfl, Nat.le_of_ble_eq_true rfl⟩ hH hS [0, 1, 2, 3, 4, 5, 6] rfl 7 rfl (List.Perm.refl _) 6 0 rfl rfl rfl hl.1 rfl (Nat.le_of_ble_eq_true rfl) dX6_statement_170 ⟨Nat.le_of_ble_eq_true rfl, Nat.le_of_ble_eq_true rfl⟩ (fun rj_560 H locs hp562 hH hS => ?_)
                    have hH : Hold X A [mO h Q km ((lnn : Nat) : Int) ((sj_538 : Nat) : Int) ((rj_560 : Nat) : Int), aW X (Q 0) 125 s, aW X (Q 1) 125 rd, aW X (Q 2) 625 kp, aW X (Q 3) 400 tx, aW X (Q 4) 8 wi, aW X (Q 5) 8 gi].flatten H := hH
                    have hc_170 := hp562
                    obtain rfl : rj_560 = 2 := hc_170.trans (by decide)
                    refine lv_aload_n S.1 S.2.1 dX6_statement_173 rfl (lv_at hl 4 rfl) ?_
                    refine zv_get (v := .int (iI ((2 : Nat) : Int))) S hAM hH nX6_statement_X6 0 rfl rfl 7 (by decide) mX6_statement_3 rfl rfl dX6_statement_174 ?_
                    refine zv_if_ne (tgt := 191) S dX6_statement_177 (by decide) (by decide) (fun c_177 => ?_) (fun c_177 => ?_)
                    · skip
                      refine lv_goto (tgt := 344) S.1 S.2.1 dX6_statement_191 (by decide) ?_
                      have eS : stm tx lnn p rd = (2, 0, rd) := by rw [stm, if_neg c_19, if_pos c_109, stRole, if_pos q1, if_neg q2, if_neg q3, if_pos q4, stNums, hm_118, bnd_none]
                      rw [eS] at hret
                      exact hret 344 ls _ _ (sj_538, 2) dX6_statement_344 ⟨rfl, (fun z => absurd z (by decide)), (by omega)⟩ hH hS
                    · exact (show False by omega).elim
                  · skip
                    refine lv_iconst (v := iI (((1 : Nat) : Int))) S.1 S.2.1 dX6_statement_165 (by decide) ?_
                    refine lv_goto (tgt := 170) S.1 S.2.1 dX6_statement_166 (by decide) ?_
                    refine zc_Vv (n := 2) (As := [.int (iI ((0 : Nat) : Int)), .int (iI ((1 : Nat) : Int))]) (rest := []) S hAM hA (kX6_checked l X h Q s rd kp km tx lnn sj_538 2 wi gi 0 1 ht (by decide) (by decide) (by decide)) rfl gX6_statement_X6_checked  (by decide +kernel) ⟨Nat.le_of_ble_eq_true rfl, Nat.le_of_ble_eq_true rfl⟩ hH hS [0, 1, 2, 3, 4, 5, 6] rfl 7 rfl (List.Perm.refl _) 6 0 rfl rfl rfl hl.1 rfl (Nat.le_of_ble_eq_true rfl) dX6_statement_170 ⟨Nat.le_of_ble_eq_true rfl, Nat.le_of_ble_eq_true rfl⟩ (fun rj_563 H locs hp565 hH hS => ?_)
                    have hH : Hold X A [mO h Q km ((lnn : Nat) : Int) ((sj_538 : Nat) : Int) ((rj_563 : Nat) : Int), aW X (Q 0) 125 s, aW X (Q 1) 125 rd, aW X (Q 2) 625 kp, aW X (Q 3) 400 tx, aW X (Q 4) 8 wi, aW X (Q 5) 8 gi].flatten H := hH
                    have hc_170 := hp565
                    obtain rfl : rj_563 = 2 := hc_170.trans (by decide)
                    refine lv_aload_n S.1 S.2.1 dX6_statement_173 rfl (lv_at hl 4 rfl) ?_
                    refine zv_get (v := .int (iI ((2 : Nat) : Int))) S hAM hH nX6_statement_X6 0 rfl rfl 7 (by decide) mX6_statement_3 rfl rfl dX6_statement_174 ?_
                    refine zv_if_ne (tgt := 191) S dX6_statement_177 (by decide) (by decide) (fun c_177 => ?_) (fun c_177 => ?_)
                    · skip
                      refine lv_goto (tgt := 344) S.1 S.2.1 dX6_statement_191 (by decide) ?_
                      have eS : stm tx lnn p rd = (2, 0, rd) := by rw [stm, if_neg c_19, if_pos c_109, stRole, if_pos q1, if_neg q2, if_neg q3, if_pos q4, stNums, hm_118, bnd_none]
                      rw [eS] at hret
                      exact hret 344 ls _ _ (sj_538, 2) dX6_statement_344 ⟨rfl, (fun z => absurd z (by decide)), (by omega)⟩ hH hS
                    · exact (show False by omega).elim
                · skip
                  refine lv_iconst (v := iI (((1 : Nat) : Int))) S.1 S.2.1 dX6_statement_148 (by decide) ?_
                  refine lv_goto (tgt := 153) S.1 S.2.1 dX6_statement_149 (by decide) ?_
                  refine lv_aload_n S.1 S.2.1 dX6_statement_153 rfl (lv_at hl 4 rfl) ?_
                  refine zv_get (v := .ref (Q 1)) S hAM hH nX6_statement_X6 0 rfl rfl 1 (by decide) mX6_statement_2 rfl rfl dX6_statement_154 ?_
                  refine lv_bipush (v := iI (((11 : Nat) : Int))) S.1 S.2.1 dX6_statement_157 (by decide) ?_
                  refine zv_iald S hAM hH 2 rfl (11) rfl (by decide) (by decide) dX6_statement_159 ?_
                  refine zv_top (z := rd 11) (z2 := ((nr rd : Nat) : Int)) hrd.e11 ?_
                  refine lv_bipush (v := iI (((8 : Nat) : Int))) S.1 S.2.1 dX6_statement_160 (by decide) ?_
                  refine zv_icmp_ge (tgt := 169) S dX6_statement_162 (by decide) (by omega) (by decide) (fun c_162 => ?_) (fun c_162 => ?_)
                  · skip
                    refine lv_iconst (v := iI (((0 : Nat) : Int))) S.1 S.2.1 dX6_statement_169 (by decide) ?_
                    refine zc_Vv (n := 2) (As := [.int (iI ((1 : Nat) : Int)), .int (iI ((0 : Nat) : Int))]) (rest := []) S hAM hA (kX6_checked l X h Q s rd kp km tx lnn sj_538 2 wi gi 1 0 ht (by decide) (by decide) (by decide)) rfl gX6_statement_X6_checked  (by decide +kernel) ⟨Nat.le_of_ble_eq_true rfl, Nat.le_of_ble_eq_true rfl⟩ hH hS [0, 1, 2, 3, 4, 5, 6] rfl 7 rfl (List.Perm.refl _) 6 0 rfl rfl rfl hl.1 rfl (Nat.le_of_ble_eq_true rfl) dX6_statement_170 ⟨Nat.le_of_ble_eq_true rfl, Nat.le_of_ble_eq_true rfl⟩ (fun rj_566 H locs hp568 hH hS => ?_)
                    have hH : Hold X A [mO h Q km ((lnn : Nat) : Int) ((sj_538 : Nat) : Int) ((rj_566 : Nat) : Int), aW X (Q 0) 125 s, aW X (Q 1) 125 rd, aW X (Q 2) 625 kp, aW X (Q 3) 400 tx, aW X (Q 4) 8 wi, aW X (Q 5) 8 gi].flatten H := hH
                    have hc_170 := hp568
                    obtain rfl : rj_566 = 2 := hc_170.trans (by decide)
                    refine lv_aload_n S.1 S.2.1 dX6_statement_173 rfl (lv_at hl 4 rfl) ?_
                    refine zv_get (v := .int (iI ((2 : Nat) : Int))) S hAM hH nX6_statement_X6 0 rfl rfl 7 (by decide) mX6_statement_3 rfl rfl dX6_statement_174 ?_
                    refine zv_if_ne (tgt := 191) S dX6_statement_177 (by decide) (by decide) (fun c_177 => ?_) (fun c_177 => ?_)
                    · skip
                      refine lv_goto (tgt := 344) S.1 S.2.1 dX6_statement_191 (by decide) ?_
                      have eS : stm tx lnn p rd = (2, 0, rd) := by rw [stm, if_neg c_19, if_pos c_109, stRole, if_pos q1, if_neg q2, if_neg q3, if_pos q4, stNums, hm_118, bnd_none]
                      rw [eS] at hret
                      exact hret 344 ls _ _ (sj_538, 2) dX6_statement_344 ⟨rfl, (fun z => absurd z (by decide)), (by omega)⟩ hH hS
                    · exact (show False by omega).elim
                  · skip
                    refine lv_iconst (v := iI (((1 : Nat) : Int))) S.1 S.2.1 dX6_statement_165 (by decide) ?_
                    refine lv_goto (tgt := 170) S.1 S.2.1 dX6_statement_166 (by decide) ?_
                    refine zc_Vv (n := 2) (As := [.int (iI ((1 : Nat) : Int)), .int (iI ((1 : Nat) : Int))]) (rest := []) S hAM hA (kX6_checked l X h Q s rd kp km tx lnn sj_538 2 wi gi 1 1 ht (by decide) (by decide) (by decide)) rfl gX6_statement_X6_checked  (by decide +kernel) ⟨Nat.le_of_ble_eq_true rfl, Nat.le_of_ble_eq_true rfl⟩ hH hS [0, 1, 2, 3, 4, 5, 6] rfl 7 rfl (List.Perm.refl _) 6 0 rfl rfl rfl hl.1 rfl (Nat.le_of_ble_eq_true rfl) dX6_statement_170 ⟨Nat.le_of_ble_eq_true rfl, Nat.le_of_ble_eq_true rfl⟩ (fun rj_569 H locs hp571 hH hS => ?_)
                    have hH : Hold X A [mO h Q km ((lnn : Nat) : Int) ((sj_538 : Nat) : Int) ((rj_569 : Nat) : Int), aW X (Q 0) 125 s, aW X (Q 1) 125 rd, aW X (Q 2) 625 kp, aW X (Q 3) 400 tx, aW X (Q 4) 8 wi, aW X (Q 5) 8 gi].flatten H := hH
                    have hc_170 := hp571
                    obtain rfl : rj_569 = 2 := hc_170.trans (by decide)
                    refine lv_aload_n S.1 S.2.1 dX6_statement_173 rfl (lv_at hl 4 rfl) ?_
                    refine zv_get (v := .int (iI ((2 : Nat) : Int))) S hAM hH nX6_statement_X6 0 rfl rfl 7 (by decide) mX6_statement_3 rfl rfl dX6_statement_174 ?_
                    refine zv_if_ne (tgt := 191) S dX6_statement_177 (by decide) (by decide) (fun c_177 => ?_) (fun c_177 => ?_)
                    · skip
                      refine lv_goto (tgt := 344) S.1 S.2.1 dX6_statement_191 (by decide) ?_
                      have eS : stm tx lnn p rd = (2, 0, rd) := by rw [stm, if_neg c_19, if_pos c_109, stRole, if_pos q1, if_neg q2, if_neg q3, if_pos q4, stNums, hm_118, bnd_none]
                      rw [eS] at hret
                      exact hret 344 ls _ _ (sj_538, 2) dX6_statement_344 ⟨rfl, (fun z => absurd z (by decide)), (by omega)⟩ hH hS
                    · exact (show False by omega).elim
            · exact absurd q1 (by decide)
            · exact absurd q1 (by decide)
          · exact absurd q1 (by decide)
          · exact absurd q1 (by decide)
        · skip
          refine lv_istore_n (lv' := [(3, .int (iI ((zz_537 : Nat) : Int))), (2, .int (iI ((2 : Nat) : Int))), (1, .int (iI (wdV tx p (we tx lnn p - p)))), (0, .ref (h))]) S.1 S.2.1 dX6_statement_121 rfl hl (by decide) rfl (fun ls hl => ?_)
          refine lv_aload_n S.1 S.2.1 dX6_statement_122 rfl (lv_at hl 3 rfl) ?_
          refine zc_Vi (n := 0) (As := []) (rest := []) S hAM hA (kX6_number l X h Q s rd kp km tx lnn sj_538 0 wi gi ht (by omega) (by omega) (by omega)) rfl gX6_statement_X6_number  (by decide +kernel) ⟨Nat.le_of_ble_eq_true rfl, Nat.le_of_ble_eq_true rfl⟩ hH hS [0, 1, 2, 3, 4, 5, 6] rfl 7 rfl (List.Perm.refl _) 6 0 rfl rfl rfl hl.1 rfl (Nat.le_of_ble_eq_true rfl) dX6_statement_123 ⟨Nat.le_of_ble_eq_true rfl, Nat.le_of_ble_eq_true rfl⟩ (fun z576 u575 H locs hp577 hH hS => ?_)
          obtain ⟨zz_572, sj_573, rj_574⟩ := u575
          have hH : Hold X A [mO h Q km ((lnn : Nat) : Int) ((sj_573 : Nat) : Int) ((rj_574 : Nat) : Int), aW X (Q 0) 125 s, aW X (Q 1) 125 rd, aW X (Q 2) 625 kp, aW X (Q 3) 400 tx, aW X (Q 4) 8 wi, aW X (Q 5) 8 gi].flatten H := hH
          obtain ⟨rfl, hz_123, hn_123⟩ := hp577
          rcases hn_123 with ⟨q1, -⟩ | ⟨-, rfl, hm_123, hb_123⟩ | ⟨-, rfl, hm_123, hb_123⟩
          · exact absurd rfl q1
          · skip
            refine lv_istore (lv' := [(4, .int (iI ((zz_572 : Nat) : Int))), (3, .int (iI ((zz_537 : Nat) : Int))), (2, .int (iI ((2 : Nat) : Int))), (1, .int (iI (wdV tx p (we tx lnn p - p)))), (0, .ref (h))]) S.1 S.2.1 dX6_statement_126 hl (by decide) rfl (fun ls hl => ?_)
            refine lv_aload_n S.1 S.2.1 dX6_statement_128 rfl (lv_at hl 4 rfl) ?_
            refine lv_bipush (v := iI (((59 : Nat) : Int))) S.1 S.2.1 dX6_statement_129 (by decide) ?_
            refine zc_Vv (n := 1) (As := [.int (iI ((59 : Nat) : Int))]) (rest := []) S hAM hA (kX6_wants l X h Q s rd kp km tx lnn sj_573 2 wi gi 59 ht (by decide) (by omega) (by omega)) rfl gX6_statement_X6_wants  (by decide +kernel) ⟨Nat.le_of_ble_eq_true rfl, Nat.le_of_ble_eq_true rfl⟩ hH hS [0, 1, 2, 3, 4, 5, 6] rfl 7 rfl (List.Perm.refl _) 6 0 rfl rfl rfl hl.1 rfl (Nat.le_of_ble_eq_true rfl) dX6_statement_131 ⟨Nat.le_of_ble_eq_true rfl, Nat.le_of_ble_eq_true rfl⟩ (fun u580 H locs hp582 hH hS => ?_)
            obtain ⟨sj_578, rj_579⟩ := u580
            have hH : Hold X A [mO h Q km ((lnn : Nat) : Int) ((sj_578 : Nat) : Int) ((rj_579 : Nat) : Int), aW X (Q 0) 125 s, aW X (Q 1) 125 rd, aW X (Q 2) 625 kp, aW X (Q 3) 400 tx, aW X (Q 4) 8 wi, aW X (Q 5) 8 gi].flatten H := hH
            have hw_131 := hp582
            rcases hw_131 with ⟨-, rfl, rfl⟩ | ⟨q1, -⟩ | ⟨q1, -⟩
            · skip
              refine lv_aload_n S.1 S.2.1 dX6_statement_134 rfl (lv_at hl 4 rfl) ?_
              refine lv_iload_n S.1 S.2.1 dX6_statement_135 rfl (lv_at hl 1 rfl) ?_
              refine lv_bipush (v := iI (((60 : Nat) : Int))) S.1 S.2.1 dX6_statement_136 (by decide) ?_
              refine zv_icmp_gt (tgt := 152) S dX6_statement_138 (by decide) (by omega) (by decide) (fun c_138 => ?_) (fun c_138 => ?_)
              · skip
                refine lv_iconst (v := iI (((0 : Nat) : Int))) S.1 S.2.1 dX6_statement_152 (by decide) ?_
                refine lv_aload_n S.1 S.2.1 dX6_statement_153 rfl (lv_at hl 4 rfl) ?_
                refine zv_get (v := .ref (Q 1)) S hAM hH nX6_statement_X6 0 rfl rfl 1 (by decide) mX6_statement_2 rfl rfl dX6_statement_154 ?_
                refine lv_bipush (v := iI (((11 : Nat) : Int))) S.1 S.2.1 dX6_statement_157 (by decide) ?_
                refine zv_iald S hAM hH 2 rfl (11) rfl (by decide) (by decide) dX6_statement_159 ?_
                refine zv_top (z := rd 11) (z2 := ((nr rd : Nat) : Int)) hrd.e11 ?_
                refine lv_bipush (v := iI (((8 : Nat) : Int))) S.1 S.2.1 dX6_statement_160 (by decide) ?_
                refine zv_icmp_ge (tgt := 169) S dX6_statement_162 (by decide) (by omega) (by decide) (fun c_162 => ?_) (fun c_162 => ?_)
                · skip
                  refine lv_iconst (v := iI (((0 : Nat) : Int))) S.1 S.2.1 dX6_statement_169 (by decide) ?_
                  refine zc_Vv (n := 2) (As := [.int (iI ((0 : Nat) : Int)), .int (iI ((0 : Nat) : Int))]) (rest := []) S hAM hA (kX6_checked l X h Q s rd kp km tx lnn sj_573 2 wi gi 0 0 ht (by decide) (by decide) (by decide)) rfl gX6_statement_X6_checked  (by decide +kernel) ⟨Nat.le_of_ble_eq_true rfl, Nat.le_of_ble_eq_true rfl⟩ hH hS [0, 1, 2, 3, 4, 5, 6] rfl 7 rfl (List.Perm.refl _) 6 0 rfl rfl rfl hl.1 rfl (Nat.le_of_ble_eq_true rfl) dX6_statement_170 ⟨Nat.le_of_ble_eq_true rfl, Nat.le_of_ble_eq_true rfl⟩ (fun rj_583 H locs hp585 hH hS => ?_)
                  have hH : Hold X A [mO h Q km ((lnn : Nat) : Int) ((sj_573 : Nat) : Int) ((rj_583 : Nat) : Int), aW X (Q 0) 125 s, aW X (Q 1) 125 rd, aW X (Q 2) 625 kp, aW X (Q 3) 400 tx, aW X (Q 4) 8 wi, aW X (Q 5) 8 gi].flatten H := hH
                  have hc_170 := hp585
                  obtain rfl : rj_583 = 2 := hc_170.trans (by decide)
                  refine lv_aload_n S.1 S.2.1 dX6_statement_173 rfl (lv_at hl 4 rfl) ?_
                  refine zv_get (v := .int (iI ((2 : Nat) : Int))) S hAM hH nX6_statement_X6 0 rfl rfl 7 (by decide) mX6_statement_3 rfl rfl dX6_statement_174 ?_
                  refine zv_if_ne (tgt := 191) S dX6_statement_177 (by decide) (by decide) (fun c_177 => ?_) (fun c_177 => ?_)
                  · skip
                    refine lv_goto (tgt := 344) S.1 S.2.1 dX6_statement_191 (by decide) ?_
                    have eS : stm tx lnn p rd = (2, 0, rd) := by rw [stm, if_neg c_19, if_pos c_109, stRole, if_pos q1, if_neg q2, if_neg q3, if_pos q4, stNums, hm_118, bnd_some, hm_123, bnd_none]
                    rw [eS] at hret
                    exact hret 344 ls _ _ (sj_573, 2) dX6_statement_344 ⟨rfl, (fun z => absurd z (by decide)), (by omega)⟩ hH hS
                  · exact (show False by omega).elim
                · skip
                  refine lv_iconst (v := iI (((1 : Nat) : Int))) S.1 S.2.1 dX6_statement_165 (by decide) ?_
                  refine lv_goto (tgt := 170) S.1 S.2.1 dX6_statement_166 (by decide) ?_
                  refine zc_Vv (n := 2) (As := [.int (iI ((0 : Nat) : Int)), .int (iI ((1 : Nat) : Int))]) (rest := []) S hAM hA (kX6_checked l X h Q s rd kp km tx lnn sj_573 2 wi gi 0 1 ht (by decide) (by decide) (by decide)) rfl gX6_statement_X6_checked  (by decide +kernel) ⟨Nat.le_of_ble_eq_true rfl, Nat.le_of_ble_eq_true rfl⟩ hH hS [0, 1, 2, 3, 4, 5, 6] rfl 7 rfl (List.Perm.refl _) 6 0 rfl rfl rfl hl.1 rfl (Nat.le_of_ble_eq_true rfl) dX6_statement_170 ⟨Nat.le_of_ble_eq_true rfl, Nat.le_of_ble_eq_true rfl⟩ (fun rj_586 H locs hp588 hH hS => ?_)
                  have hH : Hold X A [mO h Q km ((lnn : Nat) : Int) ((sj_573 : Nat) : Int) ((rj_586 : Nat) : Int), aW X (Q 0) 125 s, aW X (Q 1) 125 rd, aW X (Q 2) 625 kp, aW X (Q 3) 400 tx, aW X (Q 4) 8 wi, aW X (Q 5) 8 gi].flatten H := hH
                  have hc_170 := hp588
                  obtain rfl : rj_586 = 2 := hc_170.trans (by decide)
                  refine lv_aload_n S.1 S.2.1 dX6_statement_173 rfl (lv_at hl 4 rfl) ?_
                  refine zv_get (v := .int (iI ((2 : Nat) : Int))) S hAM hH nX6_statement_X6 0 rfl rfl 7 (by decide) mX6_statement_3 rfl rfl dX6_statement_174 ?_
                  refine zv_if_ne (tgt := 191) S dX6_statement_177 (by decide) (by decide) (fun c_177 => ?_) (fun c_177 => ?_)
                  · skip
                    refine lv_goto (tgt := 344) S.1 S.2.1 dX6_statement_191 (by decide) ?_
                    have eS : stm tx lnn p rd = (2, 0, rd) := by rw [stm, if_neg c_19, if_pos c_109, stRole, if_pos q1, if_neg q2, if_neg q3, if_pos q4, stNums, hm_118, bnd_some, hm_123, bnd_none]
                    rw [eS] at hret
                    exact hret 344 ls _ _ (sj_573, 2) dX6_statement_344 ⟨rfl, (fun z => absurd z (by decide)), (by omega)⟩ hH hS
                  · exact (show False by omega).elim
              · skip
                refine lv_iload S.1 S.2.1 dX6_statement_141 (lv_at hl 0 rfl) ?_
                refine lv_bipush (v := iI (((60 : Nat) : Int))) S.1 S.2.1 dX6_statement_143 (by decide) ?_
                refine zv_icmp_gt (tgt := 152) S dX6_statement_145 (by decide) (by omega) (by decide) (fun c_145 => ?_) (fun c_145 => ?_)
                · skip
                  refine lv_iconst (v := iI (((0 : Nat) : Int))) S.1 S.2.1 dX6_statement_152 (by decide) ?_
                  refine lv_aload_n S.1 S.2.1 dX6_statement_153 rfl (lv_at hl 4 rfl) ?_
                  refine zv_get (v := .ref (Q 1)) S hAM hH nX6_statement_X6 0 rfl rfl 1 (by decide) mX6_statement_2 rfl rfl dX6_statement_154 ?_
                  refine lv_bipush (v := iI (((11 : Nat) : Int))) S.1 S.2.1 dX6_statement_157 (by decide) ?_
                  refine zv_iald S hAM hH 2 rfl (11) rfl (by decide) (by decide) dX6_statement_159 ?_
                  refine zv_top (z := rd 11) (z2 := ((nr rd : Nat) : Int)) hrd.e11 ?_
                  refine lv_bipush (v := iI (((8 : Nat) : Int))) S.1 S.2.1 dX6_statement_160 (by decide) ?_
                  refine zv_icmp_ge (tgt := 169) S dX6_statement_162 (by decide) (by omega) (by decide) (fun c_162 => ?_) (fun c_162 => ?_)
                  · skip
                    refine lv_iconst (v := iI (((0 : Nat) : Int))) S.1 S.2.1 dX6_statement_169 (by decide) ?_
                    refine zc_Vv (n := 2) (As := [.int (iI ((0 : Nat) : Int)), .int (iI ((0 : Nat) : Int))]) (rest := []) S hAM hA (kX6_checked l X h Q s rd kp km tx lnn sj_573 2 wi gi 0 0 ht (by decide) (by decide) (by decide)) rfl gX6_statement_X6_checked  (by decide +kernel) ⟨Nat.le_of_ble_eq_true rfl, Nat.le_of_ble_eq_true rfl⟩ hH hS [0, 1, 2, 3, 4, 5, 6] rfl 7 rfl (List.Perm.refl _) 6 0 rfl rfl rfl hl.1 rfl (Nat.le_of_ble_eq_true rfl) dX6_statement_170 ⟨Nat.le_of_ble_eq_true rfl, Nat.le_of_ble_eq_true rfl⟩ (fun rj_589 H locs hp591 hH hS => ?_)
                    have hH : Hold X A [mO h Q km ((lnn : Nat) : Int) ((sj_573 : Nat) : Int) ((rj_589 : Nat) : Int), aW X (Q 0) 125 s, aW X (Q 1) 125 rd, aW X (Q 2) 625 kp, aW X (Q 3) 400 tx, aW X (Q 4) 8 wi, aW X (Q 5) 8 gi].flatten H := hH
                    have hc_170 := hp591
                    obtain rfl : rj_589 = 2 := hc_170.trans (by decide)
                    refine lv_aload_n S.1 S.2.1 dX6_statement_173 rfl (lv_at hl 4 rfl) ?_
                    refine zv_get (v := .int (iI ((2 : Nat) : Int))) S hAM hH nX6_statement_X6 0 rfl rfl 7 (by decide) mX6_statement_3 rfl rfl dX6_statement_174 ?_
                    refine zv_if_ne (tgt := 191) S dX6_statement_177 (by decide) (by decide) (fun c_177 => ?_) (fun c_177 => ?_)
                    · skip
                      refine lv_goto (tgt := 344) S.1 S.2.1 dX6_statement_191 (by decide) ?_
                      have eS : stm tx lnn p rd = (2, 0, rd) := by rw [stm, if_neg c_19, if_pos c_109, stRole, if_pos q1, if_neg q2, if_neg q3, if_pos q4, stNums, hm_118, bnd_some, hm_123, bnd_none]
                      rw [eS] at hret
                      exact hret 344 ls _ _ (sj_573, 2) dX6_statement_344 ⟨rfl, (fun z => absurd z (by decide)), (by omega)⟩ hH hS
                    · exact (show False by omega).elim
                  · skip
                    refine lv_iconst (v := iI (((1 : Nat) : Int))) S.1 S.2.1 dX6_statement_165 (by decide) ?_
                    refine lv_goto (tgt := 170) S.1 S.2.1 dX6_statement_166 (by decide) ?_
                    refine zc_Vv (n := 2) (As := [.int (iI ((0 : Nat) : Int)), .int (iI ((1 : Nat) : Int))]) (rest := []) S hAM hA (kX6_checked l X h Q s rd kp km tx lnn sj_573 2 wi gi 0 1 ht (by decide) (by decide) (by decide)) rfl gX6_statement_X6_checked  (by decide +kernel) ⟨Nat.le_of_ble_eq_true rfl, Nat.le_of_ble_eq_true rfl⟩ hH hS [0, 1, 2, 3, 4, 5, 6] rfl 7 rfl (List.Perm.refl _) 6 0 rfl rfl rfl hl.1 rfl (Nat.le_of_ble_eq_true rfl) dX6_statement_170 ⟨Nat.le_of_ble_eq_true rfl, Nat.le_of_ble_eq_true rfl⟩ (fun rj_592 H locs hp594 hH hS => ?_)
                    have hH : Hold X A [mO h Q km ((lnn : Nat) : Int) ((sj_573 : Nat) : Int) ((rj_592 : Nat) : Int), aW X (Q 0) 125 s, aW X (Q 1) 125 rd, aW X (Q 2) 625 kp, aW X (Q 3) 400 tx, aW X (Q 4) 8 wi, aW X (Q 5) 8 gi].flatten H := hH
                    have hc_170 := hp594
                    obtain rfl : rj_592 = 2 := hc_170.trans (by decide)
                    refine lv_aload_n S.1 S.2.1 dX6_statement_173 rfl (lv_at hl 4 rfl) ?_
                    refine zv_get (v := .int (iI ((2 : Nat) : Int))) S hAM hH nX6_statement_X6 0 rfl rfl 7 (by decide) mX6_statement_3 rfl rfl dX6_statement_174 ?_
                    refine zv_if_ne (tgt := 191) S dX6_statement_177 (by decide) (by decide) (fun c_177 => ?_) (fun c_177 => ?_)
                    · skip
                      refine lv_goto (tgt := 344) S.1 S.2.1 dX6_statement_191 (by decide) ?_
                      have eS : stm tx lnn p rd = (2, 0, rd) := by rw [stm, if_neg c_19, if_pos c_109, stRole, if_pos q1, if_neg q2, if_neg q3, if_pos q4, stNums, hm_118, bnd_some, hm_123, bnd_none]
                      rw [eS] at hret
                      exact hret 344 ls _ _ (sj_573, 2) dX6_statement_344 ⟨rfl, (fun z => absurd z (by decide)), (by omega)⟩ hH hS
                    · exact (show False by omega).elim
                · skip
                  refine lv_iconst (v := iI (((1 : Nat) : Int))) S.1 S.2.1 dX6_statement_148 (by decide) ?_
                  refine lv_goto (tgt := 153) S.1 S.2.1 dX6_statement_149 (by decide) ?_
                  refine lv_aload_n S.1 S.2.1 dX6_statement_153 rfl (lv_at hl 4 rfl) ?_
                  refine zv_get (v := .ref (Q 1)) S hAM hH nX6_statement_X6 0 rfl rfl 1 (by decide) mX6_statement_2 rfl rfl dX6_statement_154 ?_
                  refine lv_bipush (v := iI (((11 : Nat) : Int))) S.1 S.2.1 dX6_statement_157 (by decide) ?_
                  refine zv_iald S hAM hH 2 rfl (11) rfl (by decide) (by decide) dX6_statement_159 ?_
                  refine zv_top (z := rd 11) (z2 := ((nr rd : Nat) : Int)) hrd.e11 ?_
                  refine lv_bipush (v := iI (((8 : Nat) : Int))) S.1 S.2.1 dX6_statement_160 (by decide) ?_
                  refine zv_icmp_ge (tgt := 169) S dX6_statement_162 (by decide) (by omega) (by decide) (fun c_162 => ?_) (fun c_162 => ?_)
                  · skip
                    refine lv_iconst (v := iI (((0 : Nat) : Int))) S.1 S.2.1 dX6_statement_169 (by decide) ?_
                    refine zc_Vv (n := 2) (As := [.int (iI ((1 : Nat) : Int)), .int (iI ((0 : Nat) : Int))]) (rest := []) S hAM hA (kX6_checked l X h Q s rd kp km tx lnn sj_573 2 wi gi 1 0 ht (by decide) (by decide) (by decide)) rfl gX6_statement_X6_checked  (by decide +kernel) ⟨Nat.le_of_ble_eq_true rfl, Nat.le_of_ble_eq_true rfl⟩ hH hS [0, 1, 2, 3, 4, 5, 6] rfl 7 rfl (List.Perm.refl _) 6 0 rfl rfl rfl hl.1 rfl (Nat.le_of_ble_eq_true rfl) dX6_statement_170 ⟨Nat.le_of_ble_eq_true rfl, Nat.le_of_ble_eq_true rfl⟩ (fun rj_595 H locs hp597 hH hS => ?_)
                    have hH : Hold X A [mO h Q km ((lnn : Nat) : Int) ((sj_573 : Nat) : Int) ((rj_595 : Nat) : Int), aW X (Q 0) 125 s, aW X (Q 1) 125 rd, aW X (Q 2) 625 kp, aW X (Q 3) 400 tx, aW X (Q 4) 8 wi, aW X (Q 5) 8 gi].flatten H := hH
                    have hc_170 := hp597
                    obtain rfl : rj_595 = 2 := hc_170.trans (by decide)
                    refine lv_aload_n S.1 S.2.1 dX6_statement_173 rfl (lv_at hl 4 rfl) ?_
                    refine zv_get (v := .int (iI ((2 : Nat) : Int))) S hAM hH nX6_statement_X6 0 rfl rfl 7 (by decide) mX6_statement_3 rfl rfl dX6_statement_174 ?_
                    refine zv_if_ne (tgt := 191) S dX6_statement_177 (by decide) (by decide) (fun c_177 => ?_) (fun c_177 => ?_)
                    · skip
                      refine lv_goto (tgt := 344) S.1 S.2.1 dX6_statement_191 (by decide) ?_
                      have eS : stm tx lnn p rd = (2, 0, rd) := by rw [stm, if_neg c_19, if_pos c_109, stRole, if_pos q1, if_neg q2, if_neg q3, if_pos q4, stNums, hm_118, bnd_some, hm_123, bnd_none]
                      rw [eS] at hret
                      exact hret 344 ls _ _ (sj_573, 2) dX6_statement_344 ⟨rfl, (fun z => absurd z (by decide)), (by omega)⟩ hH hS
                    · exact (show False by omega).elim
                  · skip
                    refine lv_iconst (v := iI (((1 : Nat) : Int))) S.1 S.2.1 dX6_statement_165 (by decide) ?_
                    refine lv_goto (tgt := 170) S.1 S.2.1 dX6_statement_166 (by decide) ?_
                    refine zc_Vv (n := 2) (As := [.int (iI ((1 : Nat) : Int)), .int (iI ((1 : Nat) : Int))]) (rest := []) S hAM hA (kX6_checked l X h Q s rd kp km tx lnn sj_573 2 wi gi 1 1 ht (by decide) (by decide) (by decide)) rfl gX6_statement_X6_checked  (by decide +kernel) ⟨Nat.le_of_ble_eq_true rfl, Nat.le_of_ble_eq_true rfl⟩ hH hS [0, 1, 2, 3, 4, 5, 6] rfl 7 rfl (List.Perm.refl _) 6 0 rfl rfl rfl hl.1 rfl (Nat.le_of_ble_eq_true rfl) dX6_statement_170 ⟨Nat.le_of_ble_eq_true rfl, Nat.le_of_ble_eq_true rfl⟩ (fun rj_598 H locs hp600 hH hS => ?_)
                    have hH : Hold X A [mO h Q km ((lnn : Nat) : Int) ((sj_573 : Nat) : Int) ((rj_598 : Nat) : Int), aW X (Q 0) 125 s, aW X (Q 1) 125 rd, aW X (Q 2) 625 kp, aW X (Q 3) 400 tx, aW X (Q 4) 8 wi, aW X (Q 5) 8 gi].flatten H := hH
                    have hc_170 := hp600
                    obtain rfl : rj_598 = 2 := hc_170.trans (by decide)
                    refine lv_aload_n S.1 S.2.1 dX6_statement_173 rfl (lv_at hl 4 rfl) ?_
                    refine zv_get (v := .int (iI ((2 : Nat) : Int))) S hAM hH nX6_statement_X6 0 rfl rfl 7 (by decide) mX6_statement_3 rfl rfl dX6_statement_174 ?_
                    refine zv_if_ne (tgt := 191) S dX6_statement_177 (by decide) (by decide) (fun c_177 => ?_) (fun c_177 => ?_)
                    · skip
                      refine lv_goto (tgt := 344) S.1 S.2.1 dX6_statement_191 (by decide) ?_
                      have eS : stm tx lnn p rd = (2, 0, rd) := by rw [stm, if_neg c_19, if_pos c_109, stRole, if_pos q1, if_neg q2, if_neg q3, if_pos q4, stNums, hm_118, bnd_some, hm_123, bnd_none]
                      rw [eS] at hret
                      exact hret 344 ls _ _ (sj_573, 2) dX6_statement_344 ⟨rfl, (fun z => absurd z (by decide)), (by omega)⟩ hH hS
                    · exact (show False by omega).elim
            · exact absurd q1 (by decide)
            · exact absurd q1 (by decide)
          · skip
            refine lv_istore (lv' := [(4, .int (iI ((zz_572 : Nat) : Int))), (3, .int (iI ((zz_537 : Nat) : Int))), (2, .int (iI ((2 : Nat) : Int))), (1, .int (iI (wdV tx p (we tx lnn p - p)))), (0, .ref (h))]) S.1 S.2.1 dX6_statement_126 hl (by decide) rfl (fun ls hl => ?_)
            refine lv_aload_n S.1 S.2.1 dX6_statement_128 rfl (lv_at hl 4 rfl) ?_
            refine lv_bipush (v := iI (((59 : Nat) : Int))) S.1 S.2.1 dX6_statement_129 (by decide) ?_
            refine zc_Vv (n := 1) (As := [.int (iI ((59 : Nat) : Int))]) (rest := []) S hAM hA (kX6_wants l X h Q s rd kp km tx lnn sj_573 0 wi gi 59 ht (by decide) (by omega) (by omega)) rfl gX6_statement_X6_wants  (by decide +kernel) ⟨Nat.le_of_ble_eq_true rfl, Nat.le_of_ble_eq_true rfl⟩ hH hS [0, 1, 2, 3, 4, 5, 6] rfl 7 rfl (List.Perm.refl _) 6 0 rfl rfl rfl hl.1 rfl (Nat.le_of_ble_eq_true rfl) dX6_statement_131 ⟨Nat.le_of_ble_eq_true rfl, Nat.le_of_ble_eq_true rfl⟩ (fun u603 H locs hp605 hH hS => ?_)
            obtain ⟨sj_601, rj_602⟩ := u603
            have hH : Hold X A [mO h Q km ((lnn : Nat) : Int) ((sj_601 : Nat) : Int) ((rj_602 : Nat) : Int), aW X (Q 0) 125 s, aW X (Q 1) 125 rd, aW X (Q 2) 625 kp, aW X (Q 3) 400 tx, aW X (Q 4) 8 wi, aW X (Q 5) 8 gi].flatten H := hH
            have hw_131 := hp605
            rcases hw_131 with ⟨q1, -⟩ | ⟨-, rfl, rfl, hq_131⟩ | ⟨-, rfl, rfl, hq_131⟩
            · exact absurd rfl q1
            · skip
              refine lv_aload_n S.1 S.2.1 dX6_statement_134 rfl (lv_at hl 4 rfl) ?_
              refine lv_iload_n S.1 S.2.1 dX6_statement_135 rfl (lv_at hl 1 rfl) ?_
              refine lv_bipush (v := iI (((60 : Nat) : Int))) S.1 S.2.1 dX6_statement_136 (by decide) ?_
              refine zv_icmp_gt (tgt := 152) S dX6_statement_138 (by decide) (by omega) (by decide) (fun c_138 => ?_) (fun c_138 => ?_)
              · skip
                refine lv_iconst (v := iI (((0 : Nat) : Int))) S.1 S.2.1 dX6_statement_152 (by decide) ?_
                refine lv_aload_n S.1 S.2.1 dX6_statement_153 rfl (lv_at hl 4 rfl) ?_
                refine zv_get (v := .ref (Q 1)) S hAM hH nX6_statement_X6 0 rfl rfl 1 (by decide) mX6_statement_2 rfl rfl dX6_statement_154 ?_
                refine lv_bipush (v := iI (((11 : Nat) : Int))) S.1 S.2.1 dX6_statement_157 (by decide) ?_
                refine zv_iald S hAM hH 2 rfl (11) rfl (by decide) (by decide) dX6_statement_159 ?_
                refine zv_top (z := rd 11) (z2 := ((nr rd : Nat) : Int)) hrd.e11 ?_
                refine lv_bipush (v := iI (((8 : Nat) : Int))) S.1 S.2.1 dX6_statement_160 (by decide) ?_
                refine zv_icmp_ge (tgt := 169) S dX6_statement_162 (by decide) (by omega) (by decide) (fun c_162 => ?_) (fun c_162 => ?_)
                · skip
                  refine lv_iconst (v := iI (((0 : Nat) : Int))) S.1 S.2.1 dX6_statement_169 (by decide) ?_
                  refine zc_Vv (n := 2) (As := [.int (iI ((0 : Nat) : Int)), .int (iI ((0 : Nat) : Int))]) (rest := []) S hAM hA (kX6_checked l X h Q s rd kp km tx lnn (sj_573 + 1) 0 wi gi 0 0 ht (by decide) (by decide) (by decide)) rfl gX6_statement_X6_checked  (by decide +kernel) ⟨Nat.le_of_ble_eq_true rfl, Nat.le_of_ble_eq_true rfl⟩ hH hS [0, 1, 2, 3, 4, 5, 6] rfl 7 rfl (List.Perm.refl _) 6 0 rfl rfl rfl hl.1 rfl (Nat.le_of_ble_eq_true rfl) dX6_statement_170 ⟨Nat.le_of_ble_eq_true rfl, Nat.le_of_ble_eq_true rfl⟩ (fun rj_606 H locs hp608 hH hS => ?_)
                  have hH : Hold X A [mO h Q km ((lnn : Nat) : Int) (((sj_573 + 1) : Nat) : Int) ((rj_606 : Nat) : Int), aW X (Q 0) 125 s, aW X (Q 1) 125 rd, aW X (Q 2) 625 kp, aW X (Q 3) 400 tx, aW X (Q 4) 8 wi, aW X (Q 5) 8 gi].flatten H := hH
                  have hc_170 := hp608
                  obtain rfl : rj_606 = 3 := hc_170.trans (by decide)
                  refine lv_aload_n S.1 S.2.1 dX6_statement_173 rfl (lv_at hl 4 rfl) ?_
                  refine zv_get (v := .int (iI ((3 : Nat) : Int))) S hAM hH nX6_statement_X6 0 rfl rfl 7 (by decide) mX6_statement_3 rfl rfl dX6_statement_174 ?_
                  refine zv_if_ne (tgt := 191) S dX6_statement_177 (by decide) (by decide) (fun c_177 => ?_) (fun c_177 => ?_)
                  · skip
                    refine lv_goto (tgt := 344) S.1 S.2.1 dX6_statement_191 (by decide) ?_
                    have eS : stm tx lnn p rd = (3, 0, rd) := by rw [stm, if_neg c_19, if_pos c_109, stRole, if_pos q1, if_neg q2, if_neg q3, if_pos q4, stNums, hm_118, bnd_some, hm_123, bnd_some, if_pos hq_131, if_neg (by omega)]
                    rw [eS] at hret
                    exact hret 344 ls _ _ ((sj_573 + 1), 3) dX6_statement_344 ⟨rfl, (fun z => absurd z (by decide)), (by omega)⟩ hH hS
                  · exact (show False by omega).elim
                · skip
                  refine lv_iconst (v := iI (((1 : Nat) : Int))) S.1 S.2.1 dX6_statement_165 (by decide) ?_
                  refine lv_goto (tgt := 170) S.1 S.2.1 dX6_statement_166 (by decide) ?_
                  refine zc_Vv (n := 2) (As := [.int (iI ((0 : Nat) : Int)), .int (iI ((1 : Nat) : Int))]) (rest := []) S hAM hA (kX6_checked l X h Q s rd kp km tx lnn (sj_573 + 1) 0 wi gi 0 1 ht (by decide) (by decide) (by decide)) rfl gX6_statement_X6_checked  (by decide +kernel) ⟨Nat.le_of_ble_eq_true rfl, Nat.le_of_ble_eq_true rfl⟩ hH hS [0, 1, 2, 3, 4, 5, 6] rfl 7 rfl (List.Perm.refl _) 6 0 rfl rfl rfl hl.1 rfl (Nat.le_of_ble_eq_true rfl) dX6_statement_170 ⟨Nat.le_of_ble_eq_true rfl, Nat.le_of_ble_eq_true rfl⟩ (fun rj_609 H locs hp611 hH hS => ?_)
                  have hH : Hold X A [mO h Q km ((lnn : Nat) : Int) (((sj_573 + 1) : Nat) : Int) ((rj_609 : Nat) : Int), aW X (Q 0) 125 s, aW X (Q 1) 125 rd, aW X (Q 2) 625 kp, aW X (Q 3) 400 tx, aW X (Q 4) 8 wi, aW X (Q 5) 8 gi].flatten H := hH
                  have hc_170 := hp611
                  obtain rfl : rj_609 = 3 := hc_170.trans (by decide)
                  refine lv_aload_n S.1 S.2.1 dX6_statement_173 rfl (lv_at hl 4 rfl) ?_
                  refine zv_get (v := .int (iI ((3 : Nat) : Int))) S hAM hH nX6_statement_X6 0 rfl rfl 7 (by decide) mX6_statement_3 rfl rfl dX6_statement_174 ?_
                  refine zv_if_ne (tgt := 191) S dX6_statement_177 (by decide) (by decide) (fun c_177 => ?_) (fun c_177 => ?_)
                  · skip
                    refine lv_goto (tgt := 344) S.1 S.2.1 dX6_statement_191 (by decide) ?_
                    have eS : stm tx lnn p rd = (3, 0, rd) := by rw [stm, if_neg c_19, if_pos c_109, stRole, if_pos q1, if_neg q2, if_neg q3, if_pos q4, stNums, hm_118, bnd_some, hm_123, bnd_some, if_pos hq_131, if_neg (by omega)]
                    rw [eS] at hret
                    exact hret 344 ls _ _ ((sj_573 + 1), 3) dX6_statement_344 ⟨rfl, (fun z => absurd z (by decide)), (by omega)⟩ hH hS
                  · exact (show False by omega).elim
              · skip
                refine lv_iload S.1 S.2.1 dX6_statement_141 (lv_at hl 0 rfl) ?_
                refine lv_bipush (v := iI (((60 : Nat) : Int))) S.1 S.2.1 dX6_statement_143 (by decide) ?_
                refine zv_icmp_gt (tgt := 152) S dX6_statement_145 (by decide) (by omega) (by decide) (fun c_145 => ?_) (fun c_145 => ?_)
                · skip
                  refine lv_iconst (v := iI (((0 : Nat) : Int))) S.1 S.2.1 dX6_statement_152 (by decide) ?_
                  refine lv_aload_n S.1 S.2.1 dX6_statement_153 rfl (lv_at hl 4 rfl) ?_
                  refine zv_get (v := .ref (Q 1)) S hAM hH nX6_statement_X6 0 rfl rfl 1 (by decide) mX6_statement_2 rfl rfl dX6_statement_154 ?_
                  refine lv_bipush (v := iI (((11 : Nat) : Int))) S.1 S.2.1 dX6_statement_157 (by decide) ?_
                  refine zv_iald S hAM hH 2 rfl (11) rfl (by decide) (by decide) dX6_statement_159 ?_
                  refine zv_top (z := rd 11) (z2 := ((nr rd : Nat) : Int)) hrd.e11 ?_
                  refine lv_bipush (v := iI (((8 : Nat) : Int))) S.1 S.2.1 dX6_statement_160 (by decide) ?_
                  refine zv_icmp_ge (tgt := 169) S dX6_statement_162 (by decide) (by omega) (by decide) (fun c_162 => ?_) (fun c_162 => ?_)
                  · skip
                    refine lv_iconst (v := iI (((0 : Nat) : Int))) S.1 S.2.1 dX6_statement_169 (by decide) ?_
                    refine zc_Vv (n := 2) (As := [.int (iI ((0 : Nat) : Int)), .int (iI ((0 : Nat) : Int))]) (rest := []) S hAM hA (kX6_checked l X h Q s rd kp km tx lnn (sj_573 + 1) 0 wi gi 0 0 ht (by decide) (by decide) (by decide)) rfl gX6_statement_X6_checked  (by decide +kernel) ⟨Nat.le_of_ble_eq_true rfl, Nat.le_of_ble_eq_true rfl⟩ hH hS [0, 1, 2, 3, 4, 5, 6] rfl 7 rfl (List.Perm.refl _) 6 0 rfl rfl rfl hl.1 rfl (Nat.le_of_ble_eq_true rfl) dX6_statement_170 ⟨Nat.le_of_ble_eq_true rfl, Nat.le_of_ble_eq_true rfl⟩ (fun rj_612 H locs hp614 hH hS => ?_)
                    have hH : Hold X A [mO h Q km ((lnn : Nat) : Int) (((sj_573 + 1) : Nat) : Int) ((rj_612 : Nat) : Int), aW X (Q 0) 125 s, aW X (Q 1) 125 rd, aW X (Q 2) 625 kp, aW X (Q 3) 400 tx, aW X (Q 4) 8 wi, aW X (Q 5) 8 gi].flatten H := hH
                    have hc_170 := hp614
                    obtain rfl : rj_612 = 3 := hc_170.trans (by decide)
                    refine lv_aload_n S.1 S.2.1 dX6_statement_173 rfl (lv_at hl 4 rfl) ?_
                    refine zv_get (v := .int (iI ((3 : Nat) : Int))) S hAM hH nX6_statement_X6 0 rfl rfl 7 (by decide) mX6_statement_3 rfl rfl dX6_statement_174 ?_
                    refine zv_if_ne (tgt := 191) S dX6_statement_177 (by decide) (by decide) (fun c_177 => ?_) (fun c_177 => ?_)
                    · skip
                      refine lv_goto (tgt := 344) S.1 S.2.1 dX6_statement_191 (by decide) ?_
                      have eS : stm tx lnn p rd = (3, 0, rd) := by rw [stm, if_neg c_19, if_pos c_109, stRole, if_pos q1, if_neg q2, if_neg q3, if_pos q4, stNums, hm_118, bnd_some, hm_123, bnd_some, if_pos hq_131, if_neg (by omega)]
                      rw [eS] at hret
                      exact hret 344 ls _ _ ((sj_573 + 1), 3) dX6_statement_344 ⟨rfl, (fun z => absurd z (by decide)), (by omega)⟩ hH hS
                    · exact (show False by omega).elim
                  · skip
                    refine lv_iconst (v := iI (((1 : Nat) : Int))) S.1 S.2.1 dX6_statement_165 (by decide) ?_
                    refine lv_goto (tgt := 170) S.1 S.2.1 dX6_statement_166 (by decide) ?_
                    refine zc_Vv (n := 2) (As := [.int (iI ((0 : Nat) : Int)), .int (iI ((1 : Nat) : Int))]) (rest := []) S hAM hA (kX6_checked l X h Q s rd kp km tx lnn (sj_573 + 1) 0 wi gi 0 1 ht (by decide) (by decide) (by decide)) rfl gX6_statement_X6_checked  (by decide +kernel) ⟨Nat.le_of_ble_eq_true rfl, Nat.le_of_ble_eq_true rfl⟩ hH hS [0, 1, 2, 3, 4, 5, 6] rfl 7 rfl (List.Perm.refl _) 6 0 rfl rfl rfl hl.1 rfl (Nat.le_of_ble_eq_true rfl) dX6_statement_170 ⟨Nat.le_of_ble_eq_true rfl, Nat.le_of_ble_eq_true rfl⟩ (fun rj_615 H locs hp617 hH hS => ?_)
                    have hH : Hold X A [mO h Q km ((lnn : Nat) : Int) (((sj_573 + 1) : Nat) : Int) ((rj_615 : Nat) : Int), aW X (Q 0) 125 s, aW X (Q 1) 125 rd, aW X (Q 2) 625 kp, aW X (Q 3) 400 tx, aW X (Q 4) 8 wi, aW X (Q 5) 8 gi].flatten H := hH
                    have hc_170 := hp617
                    obtain rfl : rj_615 = 3 := hc_170.trans (by decide)
                    refine lv_aload_n S.1 S.2.1 dX6_statement_173 rfl (lv_at hl 4 rfl) ?_
                    refine zv_get (v := .int (iI ((3 : Nat) : Int))) S hAM hH nX6_statement_X6 0 rfl rfl 7 (by decide) mX6_statement_3 rfl rfl dX6_statement_174 ?_
                    refine zv_if_ne (tgt := 191) S dX6_statement_177 (by decide) (by decide) (fun c_177 => ?_) (fun c_177 => ?_)
                    · skip
                      refine lv_goto (tgt := 344) S.1 S.2.1 dX6_statement_191 (by decide) ?_
                      have eS : stm tx lnn p rd = (3, 0, rd) := by rw [stm, if_neg c_19, if_pos c_109, stRole, if_pos q1, if_neg q2, if_neg q3, if_pos q4, stNums, hm_118, bnd_some, hm_123, bnd_some, if_pos hq_131, if_neg (by omega)]
                      rw [eS] at hret
                      exact hret 344 ls _ _ ((sj_573 + 1), 3) dX6_statement_344 ⟨rfl, (fun z => absurd z (by decide)), (by omega)⟩ hH hS
                    · exact (show False by omega).elim
                · skip
                  refine lv_iconst (v := iI (((1 : Nat) : Int))) S.1 S.2.1 dX6_statement_148 (by decide) ?_
                  refine lv_goto (tgt := 153) S.1 S.2.1 dX6_statement_149 (by decide) ?_
                  refine lv_aload_n S.1 S.2.1 dX6_statement_153 rfl (lv_at hl 4 rfl) ?_
                  refine zv_get (v := .ref (Q 1)) S hAM hH nX6_statement_X6 0 rfl rfl 1 (by decide) mX6_statement_2 rfl rfl dX6_statement_154 ?_
                  refine lv_bipush (v := iI (((11 : Nat) : Int))) S.1 S.2.1 dX6_statement_157 (by decide) ?_
                  refine zv_iald S hAM hH 2 rfl (11) rfl (by decide) (by decide) dX6_statement_159 ?_
                  refine zv_top (z := rd 11) (z2 := ((nr rd : Nat) : Int)) hrd.e11 ?_
                  refine lv_bipush (v := iI (((8 : Nat) : Int))) S.1 S.2.1 dX6_statement_160 (by decide) ?_
                  refine zv_icmp_ge (tgt := 169) S dX6_statement_162 (by decide) (by omega) (by decide) (fun c_162 => ?_) (fun c_162 => ?_)
                  · skip
                    refine lv_iconst (v := iI (((0 : Nat) : Int))) S.1 S.2.1 dX6_statement_169 (by decide) ?_
                    refine zc_Vv (n := 2) (As := [.int (iI ((1 : Nat) : Int)), .int (iI ((0 : Nat) : Int))]) (rest := []) S hAM hA (kX6_checked l X h Q s rd kp km tx lnn (sj_573 + 1) 0 wi gi 1 0 ht (by decide) (by decide) (by decide)) rfl gX6_statement_X6_checked  (by decide +kernel) ⟨Nat.le_of_ble_eq_true rfl, Nat.le_of_ble_eq_true rfl⟩ hH hS [0, 1, 2, 3, 4, 5, 6] rfl 7 rfl (List.Perm.refl _) 6 0 rfl rfl rfl hl.1 rfl (Nat.le_of_ble_eq_true rfl) dX6_statement_170 ⟨Nat.le_of_ble_eq_true rfl, Nat.le_of_ble_eq_true rfl⟩ (fun rj_618 H locs hp620 hH hS => ?_)
                    have hH : Hold X A [mO h Q km ((lnn : Nat) : Int) (((sj_573 + 1) : Nat) : Int) ((rj_618 : Nat) : Int), aW X (Q 0) 125 s, aW X (Q 1) 125 rd, aW X (Q 2) 625 kp, aW X (Q 3) 400 tx, aW X (Q 4) 8 wi, aW X (Q 5) 8 gi].flatten H := hH
                    have hc_170 := hp620
                    obtain rfl : rj_618 = 4 := hc_170.trans (by decide)
                    refine lv_aload_n S.1 S.2.1 dX6_statement_173 rfl (lv_at hl 4 rfl) ?_
                    refine zv_get (v := .int (iI ((4 : Nat) : Int))) S hAM hH nX6_statement_X6 0 rfl rfl 7 (by decide) mX6_statement_3 rfl rfl dX6_statement_174 ?_
                    refine zv_if_ne (tgt := 191) S dX6_statement_177 (by decide) (by decide) (fun c_177 => ?_) (fun c_177 => ?_)
                    · skip
                      refine lv_goto (tgt := 344) S.1 S.2.1 dX6_statement_191 (by decide) ?_
                      have eS : stm tx lnn p rd = (4, 0, rd) := by rw [stm, if_neg c_19, if_pos c_109, stRole, if_pos q1, if_neg q2, if_neg q3, if_pos q4, stNums, hm_118, bnd_some, hm_123, bnd_some, if_pos hq_131, if_pos (by omega), if_neg (by omega)]
                      rw [eS] at hret
                      exact hret 344 ls _ _ ((sj_573 + 1), 4) dX6_statement_344 ⟨rfl, (fun z => absurd z (by decide)), (by omega)⟩ hH hS
                    · exact (show False by omega).elim
                  · skip
                    refine lv_iconst (v := iI (((1 : Nat) : Int))) S.1 S.2.1 dX6_statement_165 (by decide) ?_
                    refine lv_goto (tgt := 170) S.1 S.2.1 dX6_statement_166 (by decide) ?_
                    refine zc_Vv (n := 2) (As := [.int (iI ((1 : Nat) : Int)), .int (iI ((1 : Nat) : Int))]) (rest := []) S hAM hA (kX6_checked l X h Q s rd kp km tx lnn (sj_573 + 1) 0 wi gi 1 1 ht (by decide) (by decide) (by decide)) rfl gX6_statement_X6_checked  (by decide +kernel) ⟨Nat.le_of_ble_eq_true rfl, Nat.le_of_ble_eq_true rfl⟩ hH hS [0, 1, 2, 3, 4, 5, 6] rfl 7 rfl (List.Perm.refl _) 6 0 rfl rfl rfl hl.1 rfl (Nat.le_of_ble_eq_true rfl) dX6_statement_170 ⟨Nat.le_of_ble_eq_true rfl, Nat.le_of_ble_eq_true rfl⟩ (fun rj_621 H locs hp623 hH hS => ?_)
                    have hH : Hold X A [mO h Q km ((lnn : Nat) : Int) (((sj_573 + 1) : Nat) : Int) ((rj_621 : Nat) : Int), aW X (Q 0) 125 s, aW X (Q 1) 125 rd, aW X (Q 2) 625 kp, aW X (Q 3) 400 tx, aW X (Q 4) 8 wi, aW X (Q 5) 8 gi].flatten H := hH
                    have hc_170 := hp623
                    obtain rfl : rj_621 = 0 := hc_170.trans (by decide)
                    refine lv_aload_n S.1 S.2.1 dX6_statement_173 rfl (lv_at hl 4 rfl) ?_
                    refine zv_get (v := .int (iI ((0 : Nat) : Int))) S hAM hH nX6_statement_X6 0 rfl rfl 7 (by decide) mX6_statement_3 rfl rfl dX6_statement_174 ?_
                    refine zv_if_ne (tgt := 191) S dX6_statement_177 (by decide) (by decide) (fun c_177 => ?_) (fun c_177 => ?_)
                    · exact (show False by omega).elim
                    · skip
                      refine lv_aload_n S.1 S.2.1 dX6_statement_180 rfl (lv_at hl 4 rfl) ?_
                      refine zv_get (v := .ref (Q 1)) S hAM hH nX6_statement_X6 0 rfl rfl 1 (by decide) mX6_statement_2 rfl rfl dX6_statement_181 ?_
                      refine lv_iload_n S.1 S.2.1 dX6_statement_184 rfl (lv_at hl 2 rfl) ?_
                      refine lv_iload_n S.1 S.2.1 dX6_statement_185 rfl (lv_at hl 1 rfl) ?_
                      refine lv_iload S.1 S.2.1 dX6_statement_186 (lv_at hl 0 rfl) ?_
                      refine zc_Sv (n := 4) (As := [.ref (Q 1), .int (iI ((2 : Nat) : Int)), .int (iI ((zz_537 : Nat) : Int)), .int (iI ((zz_572 : Nat) : Int))]) (rest := []) S hAM hA (kX6_role l X (Q 1) rd 2 ((zz_537 : Nat) : Int) ((zz_572 : Nat) : Int) hrd (by omega)) rfl gX6_statement_X6_role  (by decide +kernel) ⟨Nat.le_of_ble_eq_true rfl, Nat.le_of_ble_eq_true rfl⟩ hH hS [2, 0, 1, 3, 4, 5, 6] rfl 7 rfl (by decide)  rfl hl.1 rfl (Nat.le_of_ble_eq_true rfl) dX6_statement_188 ⟨Nat.le_of_ble_eq_true rfl, Nat.le_of_ble_eq_true rfl⟩ (fun _ H locs hp626 hH hS => ?_)
                      have hH : Hold X A [aW X (Q 1) 125 (addRole rd 2 ((zz_537 : Nat) : Int) ((zz_572 : Nat) : Int)), mO h Q km ((lnn : Nat) : Int) (((sj_573 + 1) : Nat) : Int) ((0 : Nat) : Int), aW X (Q 0) 125 s, aW X (Q 2) 625 kp, aW X (Q 3) 400 tx, aW X (Q 4) 8 wi, aW X (Q 5) 8 gi].flatten H := hH
                      refine lv_goto (tgt := 344) S.1 S.2.1 dX6_statement_191 (by decide) ?_
                      have hH : Hold X A [mO h Q km ((lnn : Nat) : Int) (((sj_573 + 1) : Nat) : Int) ((0 : Nat) : Int), aW X (Q 0) 125 s, aW X (Q 1) 125 (addRole rd 2 ((zz_537 : Nat) : Int) ((zz_572 : Nat) : Int)), aW X (Q 2) 625 kp, aW X (Q 3) 400 tx, aW X (Q 4) 8 wi, aW X (Q 5) 8 gi].flatten _ := hH.pick [1, 2, 0, 3, 4, 5, 6] rfl 7 rfl (by decide)
                      have eS : stm tx lnn p rd = (0, (sj_573 + 1), (addRole rd 2 ((zz_537 : Nat) : Int) ((zz_572 : Nat) : Int))) := by rw [stm, if_neg c_19, if_pos c_109, stRole, if_pos q1, if_neg q2, if_neg q3, if_pos q4, stNums, hm_118, bnd_some, hm_123, bnd_some, if_pos hq_131, if_pos (by omega), if_pos (by omega)]
                      rw [eS] at hret
                      exact hret 344 ls _ _ ((sj_573 + 1), 0) dX6_statement_344 ⟨rfl, (fun _ => rfl), (by omega)⟩ hH hS
            · skip
              refine lv_aload_n S.1 S.2.1 dX6_statement_134 rfl (lv_at hl 4 rfl) ?_
              refine lv_iload_n S.1 S.2.1 dX6_statement_135 rfl (lv_at hl 1 rfl) ?_
              refine lv_bipush (v := iI (((60 : Nat) : Int))) S.1 S.2.1 dX6_statement_136 (by decide) ?_
              refine zv_icmp_gt (tgt := 152) S dX6_statement_138 (by decide) (by omega) (by decide) (fun c_138 => ?_) (fun c_138 => ?_)
              · skip
                refine lv_iconst (v := iI (((0 : Nat) : Int))) S.1 S.2.1 dX6_statement_152 (by decide) ?_
                refine lv_aload_n S.1 S.2.1 dX6_statement_153 rfl (lv_at hl 4 rfl) ?_
                refine zv_get (v := .ref (Q 1)) S hAM hH nX6_statement_X6 0 rfl rfl 1 (by decide) mX6_statement_2 rfl rfl dX6_statement_154 ?_
                refine lv_bipush (v := iI (((11 : Nat) : Int))) S.1 S.2.1 dX6_statement_157 (by decide) ?_
                refine zv_iald S hAM hH 2 rfl (11) rfl (by decide) (by decide) dX6_statement_159 ?_
                refine zv_top (z := rd 11) (z2 := ((nr rd : Nat) : Int)) hrd.e11 ?_
                refine lv_bipush (v := iI (((8 : Nat) : Int))) S.1 S.2.1 dX6_statement_160 (by decide) ?_
                refine zv_icmp_ge (tgt := 169) S dX6_statement_162 (by decide) (by omega) (by decide) (fun c_162 => ?_) (fun c_162 => ?_)
                · skip
                  refine lv_iconst (v := iI (((0 : Nat) : Int))) S.1 S.2.1 dX6_statement_169 (by decide) ?_
                  refine zc_Vv (n := 2) (As := [.int (iI ((0 : Nat) : Int)), .int (iI ((0 : Nat) : Int))]) (rest := []) S hAM hA (kX6_checked l X h Q s rd kp km tx lnn (sj_573 + 1) 2 wi gi 0 0 ht (by decide) (by decide) (by decide)) rfl gX6_statement_X6_checked  (by decide +kernel) ⟨Nat.le_of_ble_eq_true rfl, Nat.le_of_ble_eq_true rfl⟩ hH hS [0, 1, 2, 3, 4, 5, 6] rfl 7 rfl (List.Perm.refl _) 6 0 rfl rfl rfl hl.1 rfl (Nat.le_of_ble_eq_true rfl) dX6_statement_170 ⟨Nat.le_of_ble_eq_true rfl, Nat.le_of_ble_eq_true rfl⟩ (fun rj_627 H locs hp629 hH hS => ?_)
                  have hH : Hold X A [mO h Q km ((lnn : Nat) : Int) (((sj_573 + 1) : Nat) : Int) ((rj_627 : Nat) : Int), aW X (Q 0) 125 s, aW X (Q 1) 125 rd, aW X (Q 2) 625 kp, aW X (Q 3) 400 tx, aW X (Q 4) 8 wi, aW X (Q 5) 8 gi].flatten H := hH
                  have hc_170 := hp629
                  obtain rfl : rj_627 = 2 := hc_170.trans (by decide)
                  refine lv_aload_n S.1 S.2.1 dX6_statement_173 rfl (lv_at hl 4 rfl) ?_
                  refine zv_get (v := .int (iI ((2 : Nat) : Int))) S hAM hH nX6_statement_X6 0 rfl rfl 7 (by decide) mX6_statement_3 rfl rfl dX6_statement_174 ?_
                  refine zv_if_ne (tgt := 191) S dX6_statement_177 (by decide) (by decide) (fun c_177 => ?_) (fun c_177 => ?_)
                  · skip
                    refine lv_goto (tgt := 344) S.1 S.2.1 dX6_statement_191 (by decide) ?_
                    have eS : stm tx lnn p rd = (2, 0, rd) := by rw [stm, if_neg c_19, if_pos c_109, stRole, if_pos q1, if_neg q2, if_neg q3, if_pos q4, stNums, hm_118, bnd_some, hm_123, bnd_some, if_neg hq_131]
                    rw [eS] at hret
                    exact hret 344 ls _ _ ((sj_573 + 1), 2) dX6_statement_344 ⟨rfl, (fun z => absurd z (by decide)), (by omega)⟩ hH hS
                  · exact (show False by omega).elim
                · skip
                  refine lv_iconst (v := iI (((1 : Nat) : Int))) S.1 S.2.1 dX6_statement_165 (by decide) ?_
                  refine lv_goto (tgt := 170) S.1 S.2.1 dX6_statement_166 (by decide) ?_
                  refine zc_Vv (n := 2) (As := [.int (iI ((0 : Nat) : Int)), .int (iI ((1 : Nat) : Int))]) (rest := []) S hAM hA (kX6_checked l X h Q s rd kp km tx lnn (sj_573 + 1) 2 wi gi 0 1 ht (by decide) (by decide) (by decide)) rfl gX6_statement_X6_checked  (by decide +kernel) ⟨Nat.le_of_ble_eq_true rfl, Nat.le_of_ble_eq_true rfl⟩ hH hS [0, 1, 2, 3, 4, 5, 6] rfl 7 rfl (List.Perm.refl _) 6 0 rfl rfl rfl hl.1 rfl (Nat.le_of_ble_eq_true rfl) dX6_statement_170 ⟨Nat.le_of_ble_eq_true rfl, Nat.le_of_ble_eq_true rfl⟩ (fun rj_630 H locs hp632 hH hS => ?_)
                  have hH : Hold X A [mO h Q km ((lnn : Nat) : Int) (((sj_573 + 1) : Nat) : Int) ((rj_630 : Nat) : Int), aW X (Q 0) 125 s, aW X (Q 1) 125 rd, aW X (Q 2) 625 kp, aW X (Q 3) 400 tx, aW X (Q 4) 8 wi, aW X (Q 5) 8 gi].flatten H := hH
                  have hc_170 := hp632
                  obtain rfl : rj_630 = 2 := hc_170.trans (by decide)
                  refine lv_aload_n S.1 S.2.1 dX6_statement_173 rfl (lv_at hl 4 rfl) ?_
                  refine zv_get (v := .int (iI ((2 : Nat) : Int))) S hAM hH nX6_statement_X6 0 rfl rfl 7 (by decide) mX6_statement_3 rfl rfl dX6_statement_174 ?_
                  refine zv_if_ne (tgt := 191) S dX6_statement_177 (by decide) (by decide) (fun c_177 => ?_) (fun c_177 => ?_)
                  · skip
                    refine lv_goto (tgt := 344) S.1 S.2.1 dX6_statement_191 (by decide) ?_
                    have eS : stm tx lnn p rd = (2, 0, rd) := by rw [stm, if_neg c_19, if_pos c_109, stRole, if_pos q1, if_neg q2, if_neg q3, if_pos q4, stNums, hm_118, bnd_some, hm_123, bnd_some, if_neg hq_131]
                    rw [eS] at hret
                    exact hret 344 ls _ _ ((sj_573 + 1), 2) dX6_statement_344 ⟨rfl, (fun z => absurd z (by decide)), (by omega)⟩ hH hS
                  · exact (show False by omega).elim
              · skip
                refine lv_iload S.1 S.2.1 dX6_statement_141 (lv_at hl 0 rfl) ?_
                refine lv_bipush (v := iI (((60 : Nat) : Int))) S.1 S.2.1 dX6_statement_143 (by decide) ?_
                refine zv_icmp_gt (tgt := 152) S dX6_statement_145 (by decide) (by omega) (by decide) (fun c_145 => ?_) (fun c_145 => ?_)
                · skip
                  refine lv_iconst (v := iI (((0 : Nat) : Int))) S.1 S.2.1 dX6_statement_152 (by decide) ?_
                  refine lv_aload_n S.1 S.2.1 dX6_statement_153 rfl (lv_at hl 4 rfl) ?_
                  refine zv_get (v := .ref (Q 1)) S hAM hH nX6_statement_X6 0 rfl rfl 1 (by decide) mX6_statement_2 rfl rfl dX6_statement_154 ?_
                  refine lv_bipush (v := iI (((11 : Nat) : Int))) S.1 S.2.1 dX6_statement_157 (by decide) ?_
                  refine zv_iald S hAM hH 2 rfl (11) rfl (by decide) (by decide) dX6_statement_159 ?_
                  refine zv_top (z := rd 11) (z2 := ((nr rd : Nat) : Int)) hrd.e11 ?_
                  refine lv_bipush (v := iI (((8 : Nat) : Int))) S.1 S.2.1 dX6_statement_160 (by decide) ?_
                  refine zv_icmp_ge (tgt := 169) S dX6_statement_162 (by decide) (by omega) (by decide) (fun c_162 => ?_) (fun c_162 => ?_)
                  · skip
                    refine lv_iconst (v := iI (((0 : Nat) : Int))) S.1 S.2.1 dX6_statement_169 (by decide) ?_
                    refine zc_Vv (n := 2) (As := [.int (iI ((0 : Nat) : Int)), .int (iI ((0 : Nat) : Int))]) (rest := []) S hAM hA (kX6_checked l X h Q s rd kp km tx lnn (sj_573 + 1) 2 wi gi 0 0 ht (by decide) (by decide) (by decide)) rfl gX6_statement_X6_checked  (by decide +kernel) ⟨Nat.le_of_ble_eq_true rfl, Nat.le_of_ble_eq_true rfl⟩ hH hS [0, 1, 2, 3, 4, 5, 6] rfl 7 rfl (List.Perm.refl _) 6 0 rfl rfl rfl hl.1 rfl (Nat.le_of_ble_eq_true rfl) dX6_statement_170 ⟨Nat.le_of_ble_eq_true rfl, Nat.le_of_ble_eq_true rfl⟩ (fun rj_633 H locs hp635 hH hS => ?_)
                    have hH : Hold X A [mO h Q km ((lnn : Nat) : Int) (((sj_573 + 1) : Nat) : Int) ((rj_633 : Nat) : Int), aW X (Q 0) 125 s, aW X (Q 1) 125 rd, aW X (Q 2) 625 kp, aW X (Q 3) 400 tx, aW X (Q 4) 8 wi, aW X (Q 5) 8 gi].flatten H := hH
                    have hc_170 := hp635
                    obtain rfl : rj_633 = 2 := hc_170.trans (by decide)
                    refine lv_aload_n S.1 S.2.1 dX6_statement_173 rfl (lv_at hl 4 rfl) ?_
                    refine zv_get (v := .int (iI ((2 : Nat) : Int))) S hAM hH nX6_statement_X6 0 rfl rfl 7 (by decide) mX6_statement_3 rfl rfl dX6_statement_174 ?_
                    refine zv_if_ne (tgt := 191) S dX6_statement_177 (by decide) (by decide) (fun c_177 => ?_) (fun c_177 => ?_)
                    · skip
                      refine lv_goto (tgt := 344) S.1 S.2.1 dX6_statement_191 (by decide) ?_
                      have eS : stm tx lnn p rd = (2, 0, rd) := by rw [stm, if_neg c_19, if_pos c_109, stRole, if_pos q1, if_neg q2, if_neg q3, if_pos q4, stNums, hm_118, bnd_some, hm_123, bnd_some, if_neg hq_131]
                      rw [eS] at hret
                      exact hret 344 ls _ _ ((sj_573 + 1), 2) dX6_statement_344 ⟨rfl, (fun z => absurd z (by decide)), (by omega)⟩ hH hS
                    · exact (show False by omega).elim
                  · skip
                    refine lv_iconst (v := iI (((1 : Nat) : Int))) S.1 S.2.1 dX6_statement_165 (by decide) ?_
                    refine lv_goto (tgt := 170) S.1 S.2.1 dX6_statement_166 (by decide) ?_
                    refine zc_Vv (n := 2) (As := [.int (iI ((0 : Nat) : Int)), .int (iI ((1 : Nat) : Int))]) (rest := []) S hAM hA (kX6_checked l X h Q s rd kp km tx lnn (sj_573 + 1) 2 wi gi 0 1 ht (by decide) (by decide) (by decide)) rfl gX6_statement_X6_checked  (by decide +kernel) ⟨Nat.le_of_ble_eq_true rfl, Nat.le_of_ble_eq_true rfl⟩ hH hS [0, 1, 2, 3, 4, 5, 6] rfl 7 rfl (List.Perm.refl _) 6 0 rfl rfl rfl hl.1 rfl (Nat.le_of_ble_eq_true rfl) dX6_statement_170 ⟨Nat.le_of_ble_eq_true rfl, Nat.le_of_ble_eq_true rfl⟩ (fun rj_636 H locs hp638 hH hS => ?_)
                    have hH : Hold X A [mO h Q km ((lnn : Nat) : Int) (((sj_573 + 1) : Nat) : Int) ((rj_636 : Nat) : Int), aW X (Q 0) 125 s, aW X (Q 1) 125 rd, aW X (Q 2) 625 kp, aW X (Q 3) 400 tx, aW X (Q 4) 8 wi, aW X (Q 5) 8 gi].flatten H := hH
                    have hc_170 := hp638
                    obtain rfl : rj_636 = 2 := hc_170.trans (by decide)
                    refine lv_aload_n S.1 S.2.1 dX6_statement_173 rfl (lv_at hl 4 rfl) ?_
                    refine zv_get (v := .int (iI ((2 : Nat) : Int))) S hAM hH nX6_statement_X6 0 rfl rfl 7 (by decide) mX6_statement_3 rfl rfl dX6_statement_174 ?_
                    refine zv_if_ne (tgt := 191) S dX6_statement_177 (by decide) (by decide) (fun c_177 => ?_) (fun c_177 => ?_)
                    · skip
                      refine lv_goto (tgt := 344) S.1 S.2.1 dX6_statement_191 (by decide) ?_
                      have eS : stm tx lnn p rd = (2, 0, rd) := by rw [stm, if_neg c_19, if_pos c_109, stRole, if_pos q1, if_neg q2, if_neg q3, if_pos q4, stNums, hm_118, bnd_some, hm_123, bnd_some, if_neg hq_131]
                      rw [eS] at hret
                      exact hret 344 ls _ _ ((sj_573 + 1), 2) dX6_statement_344 ⟨rfl, (fun z => absurd z (by decide)), (by omega)⟩ hH hS
                    · exact (show False by omega).elim
                · skip
                  refine lv_iconst (v := iI (((1 : Nat) : Int))) S.1 S.2.1 dX6_statement_148 (by decide) ?_
                  refine lv_goto (tgt := 153) S.1 S.2.1 dX6_statement_149 (by decide) ?_
                  refine lv_aload_n S.1 S.2.1 dX6_statement_153 rfl (lv_at hl 4 rfl) ?_
                  refine zv_get (v := .ref (Q 1)) S hAM hH nX6_statement_X6 0 rfl rfl 1 (by decide) mX6_statement_2 rfl rfl dX6_statement_154 ?_
                  refine lv_bipush (v := iI (((11 : Nat) : Int))) S.1 S.2.1 dX6_statement_157 (by decide) ?_
                  refine zv_iald S hAM hH 2 rfl (11) rfl (by decide) (by decide) dX6_statement_159 ?_
                  refine zv_top (z := rd 11) (z2 := ((nr rd : Nat) : Int)) hrd.e11 ?_
                  refine lv_bipush (v := iI (((8 : Nat) : Int))) S.1 S.2.1 dX6_statement_160 (by decide) ?_
                  refine zv_icmp_ge (tgt := 169) S dX6_statement_162 (by decide) (by omega) (by decide) (fun c_162 => ?_) (fun c_162 => ?_)
                  · skip
                    refine lv_iconst (v := iI (((0 : Nat) : Int))) S.1 S.2.1 dX6_statement_169 (by decide) ?_
                    refine zc_Vv (n := 2) (As := [.int (iI ((1 : Nat) : Int)), .int (iI ((0 : Nat) : Int))]) (rest := []) S hAM hA (kX6_checked l X h Q s rd kp km tx lnn (sj_573 + 1) 2 wi gi 1 0 ht (by decide) (by decide) (by decide)) rfl gX6_statement_X6_checked  (by decide +kernel) ⟨Nat.le_of_ble_eq_true rfl, Nat.le_of_ble_eq_true rfl⟩ hH hS [0, 1, 2, 3, 4, 5, 6] rfl 7 rfl (List.Perm.refl _) 6 0 rfl rfl rfl hl.1 rfl (Nat.le_of_ble_eq_true rfl) dX6_statement_170 ⟨Nat.le_of_ble_eq_true rfl, Nat.le_of_ble_eq_true rfl⟩ (fun rj_639 H locs hp641 hH hS => ?_)
                    have hH : Hold X A [mO h Q km ((lnn : Nat) : Int) (((sj_573 + 1) : Nat) : Int) ((rj_639 : Nat) : Int), aW X (Q 0) 125 s, aW X (Q 1) 125 rd, aW X (Q 2) 625 kp, aW X (Q 3) 400 tx, aW X (Q 4) 8 wi, aW X (Q 5) 8 gi].flatten H := hH
                    have hc_170 := hp641
                    obtain rfl : rj_639 = 2 := hc_170.trans (by decide)
                    refine lv_aload_n S.1 S.2.1 dX6_statement_173 rfl (lv_at hl 4 rfl) ?_
                    refine zv_get (v := .int (iI ((2 : Nat) : Int))) S hAM hH nX6_statement_X6 0 rfl rfl 7 (by decide) mX6_statement_3 rfl rfl dX6_statement_174 ?_
                    refine zv_if_ne (tgt := 191) S dX6_statement_177 (by decide) (by decide) (fun c_177 => ?_) (fun c_177 => ?_)
                    · skip
                      refine lv_goto (tgt := 344) S.1 S.2.1 dX6_statement_191 (by decide) ?_
                      have eS : stm tx lnn p rd = (2, 0, rd) := by rw [stm, if_neg c_19, if_pos c_109, stRole, if_pos q1, if_neg q2, if_neg q3, if_pos q4, stNums, hm_118, bnd_some, hm_123, bnd_some, if_neg hq_131]
                      rw [eS] at hret
                      exact hret 344 ls _ _ ((sj_573 + 1), 2) dX6_statement_344 ⟨rfl, (fun z => absurd z (by decide)), (by omega)⟩ hH hS
                    · exact (show False by omega).elim
                  · skip
                    refine lv_iconst (v := iI (((1 : Nat) : Int))) S.1 S.2.1 dX6_statement_165 (by decide) ?_
                    refine lv_goto (tgt := 170) S.1 S.2.1 dX6_statement_166 (by decide) ?_
                    refine zc_Vv (n := 2) (As := [.int (iI ((1 : Nat) : Int)), .int (iI ((1 : Nat) : Int))]) (rest := []) S hAM hA (kX6_checked l X h Q s rd kp km tx lnn (sj_573 + 1) 2 wi gi 1 1 ht (by decide) (by decide) (by decide)) rfl gX6_statement_X6_checked  (by decide +kernel) ⟨Nat.le_of_ble_eq_true rfl, Nat.le_of_ble_eq_true rfl⟩ hH hS [0, 1, 2, 3, 4, 5, 6] rfl 7 rfl (List.Perm.refl _) 6 0 rfl rfl rfl hl.1 rfl (Nat.le_of_ble_eq_true rfl) dX6_statement_170 ⟨Nat.le_of_ble_eq_true rfl, Nat.le_of_ble_eq_true rfl⟩ (fun rj_642 H locs hp644 hH hS => ?_)
                    have hH : Hold X A [mO h Q km ((lnn : Nat) : Int) (((sj_573 + 1) : Nat) : Int) ((rj_642 : Nat) : Int), aW X (Q 0) 125 s, aW X (Q 1) 125 rd, aW X (Q 2) 625 kp, aW X (Q 3) 400 tx, aW X (Q 4) 8 wi, aW X (Q 5) 8 gi].flatten H := hH
                    have hc_170 := hp644
                    obtain rfl : rj_642 = 2 := hc_170.trans (by decide)
                    refine lv_aload_n S.1 S.2.1 dX6_statement_173 rfl (lv_at hl 4 rfl) ?_
                    refine zv_get (v := .int (iI ((2 : Nat) : Int))) S hAM hH nX6_statement_X6 0 rfl rfl 7 (by decide) mX6_statement_3 rfl rfl dX6_statement_174 ?_
                    refine zv_if_ne (tgt := 191) S dX6_statement_177 (by decide) (by decide) (fun c_177 => ?_) (fun c_177 => ?_)
                    · skip
                      refine lv_goto (tgt := 344) S.1 S.2.1 dX6_statement_191 (by decide) ?_
                      have eS : stm tx lnn p rd = (2, 0, rd) := by rw [stm, if_neg c_19, if_pos c_109, stRole, if_pos q1, if_neg q2, if_neg q3, if_pos q4, stNums, hm_118, bnd_some, hm_123, bnd_some, if_neg hq_131]
                      rw [eS] at hret
                      exact hret 344 ls _ _ ((sj_573 + 1), 2) dX6_statement_344 ⟨rfl, (fun z => absurd z (by decide)), (by omega)⟩ hH hS
                    · exact (show False by omega).elim
      · skip
        have hw5 := we_le tx lnn _ ((we tx lnn p) + 1) rfl
        refine lv_istore_n (lv' := [(2, .int (iI (-1))), (1, .int (iI (wdV tx p (we tx lnn p - p)))), (0, .ref (h))]) S.1 S.2.1 dX6_statement_116 rfl hl (by decide) rfl (fun ls hl => ?_)
        refine lv_aload_n S.1 S.2.1 dX6_statement_117 rfl (lv_at hl 2 rfl) ?_
        refine zc_Vi (n := 0) (As := []) (rest := []) S hAM hA (kX6_number l X h Q s rd kp km tx lnn (we tx lnn ((we tx lnn p) + 1)) 1 wi gi ht (by omega) (by omega) (by omega)) rfl gX6_statement_X6_number  (by decide +kernel) ⟨Nat.le_of_ble_eq_true rfl, Nat.le_of_ble_eq_true rfl⟩ hH hS [0, 1, 2, 3, 4, 5, 6] rfl 7 rfl (List.Perm.refl _) 6 0 rfl rfl rfl hl.1 rfl (Nat.le_of_ble_eq_true rfl) dX6_statement_118 ⟨Nat.le_of_ble_eq_true rfl, Nat.le_of_ble_eq_true rfl⟩ (fun z649 u648 H locs hp650 hH hS => ?_)
        obtain ⟨zz_645, sj_646, rj_647⟩ := u648
        have hH : Hold X A [mO h Q km ((lnn : Nat) : Int) ((sj_646 : Nat) : Int) ((rj_647 : Nat) : Int), aW X (Q 0) 125 s, aW X (Q 1) 125 rd, aW X (Q 2) 625 kp, aW X (Q 3) 400 tx, aW X (Q 4) 8 wi, aW X (Q 5) 8 gi].flatten H := hH
        obtain ⟨rfl, hz_118, hn_118⟩ := hp650
        rcases hn_118 with ⟨-, rfl, rfl⟩ | ⟨q1, -⟩ | ⟨q1, -⟩
        · skip
          refine lv_istore_n (lv' := [(3, .int (iI ((zz_645 : Nat) : Int))), (2, .int (iI (-1))), (1, .int (iI (wdV tx p (we tx lnn p - p)))), (0, .ref (h))]) S.1 S.2.1 dX6_statement_121 rfl hl (by decide) rfl (fun ls hl => ?_)
          refine lv_aload_n S.1 S.2.1 dX6_statement_122 rfl (lv_at hl 3 rfl) ?_
          refine zc_Vi (n := 0) (As := []) (rest := []) S hAM hA (kX6_number l X h Q s rd kp km tx lnn (we tx lnn ((we tx lnn p) + 1)) 1 wi gi ht (by omega) (by omega) (by omega)) rfl gX6_statement_X6_number  (by decide +kernel) ⟨Nat.le_of_ble_eq_true rfl, Nat.le_of_ble_eq_true rfl⟩ hH hS [0, 1, 2, 3, 4, 5, 6] rfl 7 rfl (List.Perm.refl _) 6 0 rfl rfl rfl hl.1 rfl (Nat.le_of_ble_eq_true rfl) dX6_statement_123 ⟨Nat.le_of_ble_eq_true rfl, Nat.le_of_ble_eq_true rfl⟩ (fun z655 u654 H locs hp656 hH hS => ?_)
          obtain ⟨zz_651, sj_652, rj_653⟩ := u654
          have hH : Hold X A [mO h Q km ((lnn : Nat) : Int) ((sj_652 : Nat) : Int) ((rj_653 : Nat) : Int), aW X (Q 0) 125 s, aW X (Q 1) 125 rd, aW X (Q 2) 625 kp, aW X (Q 3) 400 tx, aW X (Q 4) 8 wi, aW X (Q 5) 8 gi].flatten H := hH
          obtain ⟨rfl, hz_123, hn_123⟩ := hp656
          rcases hn_123 with ⟨-, rfl, rfl⟩ | ⟨q1, -⟩ | ⟨q1, -⟩
          · skip
            refine lv_istore (lv' := [(4, .int (iI ((zz_651 : Nat) : Int))), (3, .int (iI ((zz_645 : Nat) : Int))), (2, .int (iI (-1))), (1, .int (iI (wdV tx p (we tx lnn p - p)))), (0, .ref (h))]) S.1 S.2.1 dX6_statement_126 hl (by decide) rfl (fun ls hl => ?_)
            refine lv_aload_n S.1 S.2.1 dX6_statement_128 rfl (lv_at hl 4 rfl) ?_
            refine lv_bipush (v := iI (((59 : Nat) : Int))) S.1 S.2.1 dX6_statement_129 (by decide) ?_
            refine zc_Vv (n := 1) (As := [.int (iI ((59 : Nat) : Int))]) (rest := []) S hAM hA (kX6_wants l X h Q s rd kp km tx lnn (we tx lnn ((we tx lnn p) + 1)) 1 wi gi 59 ht (by decide) (by omega) (by omega)) rfl gX6_statement_X6_wants  (by decide +kernel) ⟨Nat.le_of_ble_eq_true rfl, Nat.le_of_ble_eq_true rfl⟩ hH hS [0, 1, 2, 3, 4, 5, 6] rfl 7 rfl (List.Perm.refl _) 6 0 rfl rfl rfl hl.1 rfl (Nat.le_of_ble_eq_true rfl) dX6_statement_131 ⟨Nat.le_of_ble_eq_true rfl, Nat.le_of_ble_eq_true rfl⟩ (fun u659 H locs hp661 hH hS => ?_)
            obtain ⟨sj_657, rj_658⟩ := u659
            have hH : Hold X A [mO h Q km ((lnn : Nat) : Int) ((sj_657 : Nat) : Int) ((rj_658 : Nat) : Int), aW X (Q 0) 125 s, aW X (Q 1) 125 rd, aW X (Q 2) 625 kp, aW X (Q 3) 400 tx, aW X (Q 4) 8 wi, aW X (Q 5) 8 gi].flatten H := hH
            have hw_131 := hp661
            rcases hw_131 with ⟨-, rfl, rfl⟩ | ⟨q1, -⟩ | ⟨q1, -⟩
            · skip
              refine lv_aload_n S.1 S.2.1 dX6_statement_134 rfl (lv_at hl 4 rfl) ?_
              refine lv_iload_n S.1 S.2.1 dX6_statement_135 rfl (lv_at hl 1 rfl) ?_
              refine lv_bipush (v := iI (((60 : Nat) : Int))) S.1 S.2.1 dX6_statement_136 (by decide) ?_
              refine zv_icmp_gt (tgt := 152) S dX6_statement_138 (by decide) (by omega) (by decide) (fun c_138 => ?_) (fun c_138 => ?_)
              · skip
                refine lv_iconst (v := iI (((0 : Nat) : Int))) S.1 S.2.1 dX6_statement_152 (by decide) ?_
                refine lv_aload_n S.1 S.2.1 dX6_statement_153 rfl (lv_at hl 4 rfl) ?_
                refine zv_get (v := .ref (Q 1)) S hAM hH nX6_statement_X6 0 rfl rfl 1 (by decide) mX6_statement_2 rfl rfl dX6_statement_154 ?_
                refine lv_bipush (v := iI (((11 : Nat) : Int))) S.1 S.2.1 dX6_statement_157 (by decide) ?_
                refine zv_iald S hAM hH 2 rfl (11) rfl (by decide) (by decide) dX6_statement_159 ?_
                refine zv_top (z := rd 11) (z2 := ((nr rd : Nat) : Int)) hrd.e11 ?_
                refine lv_bipush (v := iI (((8 : Nat) : Int))) S.1 S.2.1 dX6_statement_160 (by decide) ?_
                refine zv_icmp_ge (tgt := 169) S dX6_statement_162 (by decide) (by omega) (by decide) (fun c_162 => ?_) (fun c_162 => ?_)
                · skip
                  refine lv_iconst (v := iI (((0 : Nat) : Int))) S.1 S.2.1 dX6_statement_169 (by decide) ?_
                  refine zc_Vv (n := 2) (As := [.int (iI ((0 : Nat) : Int)), .int (iI ((0 : Nat) : Int))]) (rest := []) S hAM hA (kX6_checked l X h Q s rd kp km tx lnn (we tx lnn ((we tx lnn p) + 1)) 1 wi gi 0 0 ht (by decide) (by decide) (by decide)) rfl gX6_statement_X6_checked  (by decide +kernel) ⟨Nat.le_of_ble_eq_true rfl, Nat.le_of_ble_eq_true rfl⟩ hH hS [0, 1, 2, 3, 4, 5, 6] rfl 7 rfl (List.Perm.refl _) 6 0 rfl rfl rfl hl.1 rfl (Nat.le_of_ble_eq_true rfl) dX6_statement_170 ⟨Nat.le_of_ble_eq_true rfl, Nat.le_of_ble_eq_true rfl⟩ (fun rj_662 H locs hp664 hH hS => ?_)
                  have hH : Hold X A [mO h Q km ((lnn : Nat) : Int) (((we tx lnn ((we tx lnn p) + 1)) : Nat) : Int) ((rj_662 : Nat) : Int), aW X (Q 0) 125 s, aW X (Q 1) 125 rd, aW X (Q 2) 625 kp, aW X (Q 3) 400 tx, aW X (Q 4) 8 wi, aW X (Q 5) 8 gi].flatten H := hH
                  have hc_170 := hp664
                  obtain rfl : rj_662 = 1 := hc_170.trans (by decide)
                  refine lv_aload_n S.1 S.2.1 dX6_statement_173 rfl (lv_at hl 4 rfl) ?_
                  refine zv_get (v := .int (iI ((1 : Nat) : Int))) S hAM hH nX6_statement_X6 0 rfl rfl 7 (by decide) mX6_statement_3 rfl rfl dX6_statement_174 ?_
                  refine zv_if_ne (tgt := 191) S dX6_statement_177 (by decide) (by decide) (fun c_177 => ?_) (fun c_177 => ?_)
                  · skip
                    refine lv_goto (tgt := 344) S.1 S.2.1 dX6_statement_191 (by decide) ?_
                    have eS : stm tx lnn p rd = (1, 0, rd) := by rw [stm, if_neg c_19, if_pos c_109, stRole, if_pos q1, if_neg q2, if_neg q3, if_neg q4]
                    rw [eS] at hret
                    exact hret 344 ls _ _ ((we tx lnn ((we tx lnn p) + 1)), 1) dX6_statement_344 ⟨rfl, (fun z => absurd z (by decide)), (by omega)⟩ hH hS
                  · exact (show False by omega).elim
                · skip
                  refine lv_iconst (v := iI (((1 : Nat) : Int))) S.1 S.2.1 dX6_statement_165 (by decide) ?_
                  refine lv_goto (tgt := 170) S.1 S.2.1 dX6_statement_166 (by decide) ?_
                  refine zc_Vv (n := 2) (As := [.int (iI ((0 : Nat) : Int)), .int (iI ((1 : Nat) : Int))]) (rest := []) S hAM hA (kX6_checked l X h Q s rd kp km tx lnn (we tx lnn ((we tx lnn p) + 1)) 1 wi gi 0 1 ht (by decide) (by decide) (by decide)) rfl gX6_statement_X6_checked  (by decide +kernel) ⟨Nat.le_of_ble_eq_true rfl, Nat.le_of_ble_eq_true rfl⟩ hH hS [0, 1, 2, 3, 4, 5, 6] rfl 7 rfl (List.Perm.refl _) 6 0 rfl rfl rfl hl.1 rfl (Nat.le_of_ble_eq_true rfl) dX6_statement_170 ⟨Nat.le_of_ble_eq_true rfl, Nat.le_of_ble_eq_true rfl⟩ (fun rj_665 H locs hp667 hH hS => ?_)
                  have hH : Hold X A [mO h Q km ((lnn : Nat) : Int) (((we tx lnn ((we tx lnn p) + 1)) : Nat) : Int) ((rj_665 : Nat) : Int), aW X (Q 0) 125 s, aW X (Q 1) 125 rd, aW X (Q 2) 625 kp, aW X (Q 3) 400 tx, aW X (Q 4) 8 wi, aW X (Q 5) 8 gi].flatten H := hH
                  have hc_170 := hp667
                  obtain rfl : rj_665 = 1 := hc_170.trans (by decide)
                  refine lv_aload_n S.1 S.2.1 dX6_statement_173 rfl (lv_at hl 4 rfl) ?_
                  refine zv_get (v := .int (iI ((1 : Nat) : Int))) S hAM hH nX6_statement_X6 0 rfl rfl 7 (by decide) mX6_statement_3 rfl rfl dX6_statement_174 ?_
                  refine zv_if_ne (tgt := 191) S dX6_statement_177 (by decide) (by decide) (fun c_177 => ?_) (fun c_177 => ?_)
                  · skip
                    refine lv_goto (tgt := 344) S.1 S.2.1 dX6_statement_191 (by decide) ?_
                    have eS : stm tx lnn p rd = (1, 0, rd) := by rw [stm, if_neg c_19, if_pos c_109, stRole, if_pos q1, if_neg q2, if_neg q3, if_neg q4]
                    rw [eS] at hret
                    exact hret 344 ls _ _ ((we tx lnn ((we tx lnn p) + 1)), 1) dX6_statement_344 ⟨rfl, (fun z => absurd z (by decide)), (by omega)⟩ hH hS
                  · exact (show False by omega).elim
              · skip
                refine lv_iload S.1 S.2.1 dX6_statement_141 (lv_at hl 0 rfl) ?_
                refine lv_bipush (v := iI (((60 : Nat) : Int))) S.1 S.2.1 dX6_statement_143 (by decide) ?_
                refine zv_icmp_gt (tgt := 152) S dX6_statement_145 (by decide) (by omega) (by decide) (fun c_145 => ?_) (fun c_145 => ?_)
                · skip
                  refine lv_iconst (v := iI (((0 : Nat) : Int))) S.1 S.2.1 dX6_statement_152 (by decide) ?_
                  refine lv_aload_n S.1 S.2.1 dX6_statement_153 rfl (lv_at hl 4 rfl) ?_
                  refine zv_get (v := .ref (Q 1)) S hAM hH nX6_statement_X6 0 rfl rfl 1 (by decide) mX6_statement_2 rfl rfl dX6_statement_154 ?_
                  refine lv_bipush (v := iI (((11 : Nat) : Int))) S.1 S.2.1 dX6_statement_157 (by decide) ?_
                  refine zv_iald S hAM hH 2 rfl (11) rfl (by decide) (by decide) dX6_statement_159 ?_
                  refine zv_top (z := rd 11) (z2 := ((nr rd : Nat) : Int)) hrd.e11 ?_
                  refine lv_bipush (v := iI (((8 : Nat) : Int))) S.1 S.2.1 dX6_statement_160 (by decide) ?_
                  refine zv_icmp_ge (tgt := 169) S dX6_statement_162 (by decide) (by omega) (by decide) (fun c_162 => ?_) (fun c_162 => ?_)
                  · skip
                    refine lv_iconst (v := iI (((0 : Nat) : Int))) S.1 S.2.1 dX6_statement_169 (by decide) ?_
                    refine zc_Vv (n := 2) (As := [.int (iI ((0 : Nat) : Int)), .int (iI ((0 : Nat) : Int))]) (rest := []) S hAM hA (kX6_checked l X h Q s rd kp km tx lnn (we tx lnn ((we tx lnn p) + 1)) 1 wi gi 0 0 ht (by decide) (by decide) (by decide)) rfl gX6_statement_X6_checked  (by decide +kernel) ⟨Nat.le_of_ble_eq_true rfl, Nat.le_of_ble_eq_true rfl⟩ hH hS [0, 1, 2, 3, 4, 5, 6] rfl 7 rfl (List.Perm.refl _) 6 0 rfl rfl rfl hl.1 rfl (Nat.le_of_ble_eq_true rfl) dX6_statement_170 ⟨Nat.le_of_ble_eq_true rfl, Nat.le_of_ble_eq_true rfl⟩ (fun rj_668 H locs hp670 hH hS => ?_)
                    have hH : Hold X A [mO h Q km ((lnn : Nat) : Int) (((we tx lnn ((we tx lnn p) + 1)) : Nat) : Int) ((rj_668 : Nat) : Int), aW X (Q 0) 125 s, aW X (Q 1) 125 rd, aW X (Q 2) 625 kp, aW X (Q 3) 400 tx, aW X (Q 4) 8 wi, aW X (Q 5) 8 gi].flatten H := hH
                    have hc_170 := hp670
                    obtain rfl : rj_668 = 1 := hc_170.trans (by decide)
                    refine lv_aload_n S.1 S.2.1 dX6_statement_173 rfl (lv_at hl 4 rfl) ?_
                    refine zv_get (v := .int (iI ((1 : Nat) : Int))) S hAM hH nX6_statement_X6 0 rfl rfl 7 (by decide) mX6_statement_3 rfl rfl dX6_statement_174 ?_
                    refine zv_if_ne (tgt := 191) S dX6_statement_177 (by decide) (by decide) (fun c_177 => ?_) (fun c_177 => ?_)
                    · skip
                      refine lv_goto (tgt := 344) S.1 S.2.1 dX6_statement_191 (by decide) ?_
                      have eS : stm tx lnn p rd = (1, 0, rd) := by rw [stm, if_neg c_19, if_pos c_109, stRole, if_pos q1, if_neg q2, if_neg q3, if_neg q4]
                      rw [eS] at hret
                      exact hret 344 ls _ _ ((we tx lnn ((we tx lnn p) + 1)), 1) dX6_statement_344 ⟨rfl, (fun z => absurd z (by decide)), (by omega)⟩ hH hS
                    · exact (show False by omega).elim
                  · skip
                    refine lv_iconst (v := iI (((1 : Nat) : Int))) S.1 S.2.1 dX6_statement_165 (by decide) ?_
                    refine lv_goto (tgt := 170) S.1 S.2.1 dX6_statement_166 (by decide) ?_
                    refine zc_Vv (n := 2) (As := [.int (iI ((0 : Nat) : Int)), .int (iI ((1 : Nat) : Int))]) (rest := []) S hAM hA (kX6_checked l X h Q s rd kp km tx lnn (we tx lnn ((we tx lnn p) + 1)) 1 wi gi 0 1 ht (by decide) (by decide) (by decide)) rfl gX6_statement_X6_checked  (by decide +kernel) ⟨Nat.le_of_ble_eq_true rfl, Nat.le_of_ble_eq_true rfl⟩ hH hS [0, 1, 2, 3, 4, 5, 6] rfl 7 rfl (List.Perm.refl _) 6 0 rfl rfl rfl hl.1 rfl (Nat.le_of_ble_eq_true rfl) dX6_statement_170 ⟨Nat.le_of_ble_eq_true rfl, Nat.le_of_ble_eq_true rfl⟩ (fun rj_671 H locs hp673 hH hS => ?_)
                    have hH : Hold X A [mO h Q km ((lnn : Nat) : Int) (((we tx lnn ((we tx lnn p) + 1)) : Nat) : Int) ((rj_671 : Nat) : Int), aW X (Q 0) 125 s, aW X (Q 1) 125 rd, aW X (Q 2) 625 kp, aW X (Q 3) 400 tx, aW X (Q 4) 8 wi, aW X (Q 5) 8 gi].flatten H := hH
                    have hc_170 := hp673
                    obtain rfl : rj_671 = 1 := hc_170.trans (by decide)
                    refine lv_aload_n S.1 S.2.1 dX6_statement_173 rfl (lv_at hl 4 rfl) ?_
                    refine zv_get (v := .int (iI ((1 : Nat) : Int))) S hAM hH nX6_statement_X6 0 rfl rfl 7 (by decide) mX6_statement_3 rfl rfl dX6_statement_174 ?_
                    refine zv_if_ne (tgt := 191) S dX6_statement_177 (by decide) (by decide) (fun c_177 => ?_) (fun c_177 => ?_)
                    · skip
                      refine lv_goto (tgt := 344) S.1 S.2.1 dX6_statement_191 (by decide) ?_
                      have eS : stm tx lnn p rd = (1, 0, rd) := by rw [stm, if_neg c_19, if_pos c_109, stRole, if_pos q1, if_neg q2, if_neg q3, if_neg q4]
                      rw [eS] at hret
                      exact hret 344 ls _ _ ((we tx lnn ((we tx lnn p) + 1)), 1) dX6_statement_344 ⟨rfl, (fun z => absurd z (by decide)), (by omega)⟩ hH hS
                    · exact (show False by omega).elim
                · skip
                  refine lv_iconst (v := iI (((1 : Nat) : Int))) S.1 S.2.1 dX6_statement_148 (by decide) ?_
                  refine lv_goto (tgt := 153) S.1 S.2.1 dX6_statement_149 (by decide) ?_
                  refine lv_aload_n S.1 S.2.1 dX6_statement_153 rfl (lv_at hl 4 rfl) ?_
                  refine zv_get (v := .ref (Q 1)) S hAM hH nX6_statement_X6 0 rfl rfl 1 (by decide) mX6_statement_2 rfl rfl dX6_statement_154 ?_
                  refine lv_bipush (v := iI (((11 : Nat) : Int))) S.1 S.2.1 dX6_statement_157 (by decide) ?_
                  refine zv_iald S hAM hH 2 rfl (11) rfl (by decide) (by decide) dX6_statement_159 ?_
                  refine zv_top (z := rd 11) (z2 := ((nr rd : Nat) : Int)) hrd.e11 ?_
                  refine lv_bipush (v := iI (((8 : Nat) : Int))) S.1 S.2.1 dX6_statement_160 (by decide) ?_
                  refine zv_icmp_ge (tgt := 169) S dX6_statement_162 (by decide) (by omega) (by decide) (fun c_162 => ?_) (fun c_162 => ?_)
                  · skip
                    refine lv_iconst (v := iI (((0 : Nat) : Int))) S.1 S.2.1 dX6_statement_169 (by decide) ?_
                    refine zc_Vv (n := 2) (As := [.int (iI ((1 : Nat) : Int)), .int (iI ((0 : Nat) : Int))]) (rest := []) S hAM hA (kX6_checked l X h Q s rd kp km tx lnn (we tx lnn ((we tx lnn p) + 1)) 1 wi gi 1 0 ht (by decide) (by decide) (by decide)) rfl gX6_statement_X6_checked  (by decide +kernel) ⟨Nat.le_of_ble_eq_true rfl, Nat.le_of_ble_eq_true rfl⟩ hH hS [0, 1, 2, 3, 4, 5, 6] rfl 7 rfl (List.Perm.refl _) 6 0 rfl rfl rfl hl.1 rfl (Nat.le_of_ble_eq_true rfl) dX6_statement_170 ⟨Nat.le_of_ble_eq_true rfl, Nat.le_of_ble_eq_true rfl⟩ (fun rj_674 H locs hp676 hH hS => ?_)
                    have hH : Hold X A [mO h Q km ((lnn : Nat) : Int) (((we tx lnn ((we tx lnn p) + 1)) : Nat) : Int) ((rj_674 : Nat) : Int), aW X (Q 0) 125 s, aW X (Q 1) 125 rd, aW X (Q 2) 625 kp, aW X (Q 3) 400 tx, aW X (Q 4) 8 wi, aW X (Q 5) 8 gi].flatten H := hH
                    have hc_170 := hp676
                    obtain rfl : rj_674 = 1 := hc_170.trans (by decide)
                    refine lv_aload_n S.1 S.2.1 dX6_statement_173 rfl (lv_at hl 4 rfl) ?_
                    refine zv_get (v := .int (iI ((1 : Nat) : Int))) S hAM hH nX6_statement_X6 0 rfl rfl 7 (by decide) mX6_statement_3 rfl rfl dX6_statement_174 ?_
                    refine zv_if_ne (tgt := 191) S dX6_statement_177 (by decide) (by decide) (fun c_177 => ?_) (fun c_177 => ?_)
                    · skip
                      refine lv_goto (tgt := 344) S.1 S.2.1 dX6_statement_191 (by decide) ?_
                      have eS : stm tx lnn p rd = (1, 0, rd) := by rw [stm, if_neg c_19, if_pos c_109, stRole, if_pos q1, if_neg q2, if_neg q3, if_neg q4]
                      rw [eS] at hret
                      exact hret 344 ls _ _ ((we tx lnn ((we tx lnn p) + 1)), 1) dX6_statement_344 ⟨rfl, (fun z => absurd z (by decide)), (by omega)⟩ hH hS
                    · exact (show False by omega).elim
                  · skip
                    refine lv_iconst (v := iI (((1 : Nat) : Int))) S.1 S.2.1 dX6_statement_165 (by decide) ?_
                    refine lv_goto (tgt := 170) S.1 S.2.1 dX6_statement_166 (by decide) ?_
                    refine zc_Vv (n := 2) (As := [.int (iI ((1 : Nat) : Int)), .int (iI ((1 : Nat) : Int))]) (rest := []) S hAM hA (kX6_checked l X h Q s rd kp km tx lnn (we tx lnn ((we tx lnn p) + 1)) 1 wi gi 1 1 ht (by decide) (by decide) (by decide)) rfl gX6_statement_X6_checked  (by decide +kernel) ⟨Nat.le_of_ble_eq_true rfl, Nat.le_of_ble_eq_true rfl⟩ hH hS [0, 1, 2, 3, 4, 5, 6] rfl 7 rfl (List.Perm.refl _) 6 0 rfl rfl rfl hl.1 rfl (Nat.le_of_ble_eq_true rfl) dX6_statement_170 ⟨Nat.le_of_ble_eq_true rfl, Nat.le_of_ble_eq_true rfl⟩ (fun rj_677 H locs hp679 hH hS => ?_)
                    have hH : Hold X A [mO h Q km ((lnn : Nat) : Int) (((we tx lnn ((we tx lnn p) + 1)) : Nat) : Int) ((rj_677 : Nat) : Int), aW X (Q 0) 125 s, aW X (Q 1) 125 rd, aW X (Q 2) 625 kp, aW X (Q 3) 400 tx, aW X (Q 4) 8 wi, aW X (Q 5) 8 gi].flatten H := hH
                    have hc_170 := hp679
                    obtain rfl : rj_677 = 1 := hc_170.trans (by decide)
                    refine lv_aload_n S.1 S.2.1 dX6_statement_173 rfl (lv_at hl 4 rfl) ?_
                    refine zv_get (v := .int (iI ((1 : Nat) : Int))) S hAM hH nX6_statement_X6 0 rfl rfl 7 (by decide) mX6_statement_3 rfl rfl dX6_statement_174 ?_
                    refine zv_if_ne (tgt := 191) S dX6_statement_177 (by decide) (by decide) (fun c_177 => ?_) (fun c_177 => ?_)
                    · skip
                      refine lv_goto (tgt := 344) S.1 S.2.1 dX6_statement_191 (by decide) ?_
                      have eS : stm tx lnn p rd = (1, 0, rd) := by rw [stm, if_neg c_19, if_pos c_109, stRole, if_pos q1, if_neg q2, if_neg q3, if_neg q4]
                      rw [eS] at hret
                      exact hret 344 ls _ _ ((we tx lnn ((we tx lnn p) + 1)), 1) dX6_statement_344 ⟨rfl, (fun z => absurd z (by decide)), (by omega)⟩ hH hS
                    · exact (show False by omega).elim
            · exact absurd q1 (by decide)
            · exact absurd q1 (by decide)
          · exact absurd q1 (by decide)
          · exact absurd q1 (by decide)
        · exact absurd q1 (by decide)
        · exact absurd q1 (by decide)
  · skip
    refine lv_aload_n S.1 S.2.1 dX6_statement_22 rfl (lv_at hl 1 rfl) ?_
    refine zc_Vi (n := 0) (As := []) (rest := []) S hAM hA (kX6_number l X h Q s rd kp km tx lnn (we tx lnn p) 0 wi gi ht (by omega) (by omega) (by omega)) rfl gX6_statement_X6_number  (by decide +kernel) ⟨Nat.le_of_ble_eq_true rfl, Nat.le_of_ble_eq_true rfl⟩ hH hS [0, 1, 2, 3, 4, 5, 6] rfl 7 rfl (List.Perm.refl _) 6 0 rfl rfl rfl hl.1 rfl (Nat.le_of_ble_eq_true rfl) dX6_statement_23 ⟨Nat.le_of_ble_eq_true rfl, Nat.le_of_ble_eq_true rfl⟩ (fun z684 u683 H locs hp685 hH hS => ?_)
    obtain ⟨zz_680, sj_681, rj_682⟩ := u683
    have hH : Hold X A [mO h Q km ((lnn : Nat) : Int) ((sj_681 : Nat) : Int) ((rj_682 : Nat) : Int), aW X (Q 0) 125 s, aW X (Q 1) 125 rd, aW X (Q 2) 625 kp, aW X (Q 3) 400 tx, aW X (Q 4) 8 wi, aW X (Q 5) 8 gi].flatten H := hH
    obtain ⟨rfl, hz_23, hn_23⟩ := hp685
    rcases hn_23 with ⟨q1, -⟩ | ⟨-, rfl, hm_23, hb_23⟩ | ⟨-, rfl, hm_23, hb_23⟩
    · exact absurd rfl q1
    · skip
      refine lv_istore_n (lv' := [(2, .int (iI ((zz_680 : Nat) : Int))), (1, .int (iI (wdV tx p (we tx lnn p - p)))), (0, .ref (h))]) S.1 S.2.1 dX6_statement_26 rfl hl (by decide) rfl (fun ls hl => ?_)
      refine lv_aload_n S.1 S.2.1 dX6_statement_27 rfl (lv_at hl 2 rfl) ?_
      refine lv_bipush (v := iI (((59 : Nat) : Int))) S.1 S.2.1 dX6_statement_28 (by decide) ?_
      refine zc_Vv (n := 1) (As := [.int (iI ((59 : Nat) : Int))]) (rest := []) S hAM hA (kX6_wants l X h Q s rd kp km tx lnn sj_681 2 wi gi 59 ht (by decide) (by omega) (by omega)) rfl gX6_statement_X6_wants  (by decide +kernel) ⟨Nat.le_of_ble_eq_true rfl, Nat.le_of_ble_eq_true rfl⟩ hH hS [0, 1, 2, 3, 4, 5, 6] rfl 7 rfl (List.Perm.refl _) 6 0 rfl rfl rfl hl.1 rfl (Nat.le_of_ble_eq_true rfl) dX6_statement_30 ⟨Nat.le_of_ble_eq_true rfl, Nat.le_of_ble_eq_true rfl⟩ (fun u688 H locs hp690 hH hS => ?_)
      obtain ⟨sj_686, rj_687⟩ := u688
      have hH : Hold X A [mO h Q km ((lnn : Nat) : Int) ((sj_686 : Nat) : Int) ((rj_687 : Nat) : Int), aW X (Q 0) 125 s, aW X (Q 1) 125 rd, aW X (Q 2) 625 kp, aW X (Q 3) 400 tx, aW X (Q 4) 8 wi, aW X (Q 5) 8 gi].flatten H := hH
      have hw_30 := hp690
      rcases hw_30 with ⟨-, rfl, rfl⟩ | ⟨q1, -⟩ | ⟨q1, -⟩
      · skip
        refine lv_aload_n S.1 S.2.1 dX6_statement_33 rfl (lv_at hl 2 rfl) ?_
        refine lv_iload_n S.1 S.2.1 dX6_statement_34 rfl (lv_at hl 0 rfl) ?_
        refine lv_i2l (v := lI (((zz_680 : Nat) : Int))) S.1 S.2.1 dX6_statement_35 (lI_i (by omega)) ?_
        refine lv_lconst (v := lI (1)) S.1 S.2.1 dX6_statement_36 (by decide) ?_
        refine lv_ldc2 (v := lI (99)) S.1 S.2.1 S.2.2.2.1 (zv_constL S mX6_statement_1 (by decide)) dX6_statement_37 ?_
        refine zc_Si (n := 3) (As := [.long (lI (((zz_680 : Nat) : Int))), .long (lI (1)), .long (lI (99))]) (rest := [.ref (h)]) S hAM hA (kX6_in l X ((zz_680 : Nat) : Int) 1 99 (by omega) (by omega) (by omega)) rfl gX6_statement_X6_in  (by decide +kernel) ⟨Nat.le_of_ble_eq_true rfl, Nat.le_of_ble_eq_true rfl⟩ hH hS [0, 1, 2, 3, 4, 5, 6] rfl 7 rfl (List.Perm.refl _)  rfl hl.1 rfl (Nat.le_of_ble_eq_true rfl) dX6_statement_40 ⟨Nat.le_of_ble_eq_true rfl, Nat.le_of_ble_eq_true rfl⟩ (fun z692 _ H locs hp693 hH hS => ?_)
        have hH : Hold X A [mO h Q km ((lnn : Nat) : Int) ((sj_681 : Nat) : Int) ((2 : Nat) : Int), aW X (Q 0) 125 s, aW X (Q 1) 125 rd, aW X (Q 2) 625 kp, aW X (Q 3) 400 tx, aW X (Q 4) 8 wi, aW X (Q 5) 8 gi].flatten H := hH
        rcases hp693 with ⟨rfl, b_40⟩ | ⟨rfl, b_40⟩
        · refine zv_top (z := 1) (z2 := ((1 : Nat) : Int)) rfl ?_
          refine lv_aload_n S.1 S.2.1 dX6_statement_43 rfl (lv_at hl 2 rfl) ?_
          refine zv_get (v := .ref (Q 1)) S hAM hH nX6_statement_X6 0 rfl rfl 1 (by decide) mX6_statement_2 rfl rfl dX6_statement_44 ?_
          refine lv_iconst (v := iI (((0 : Nat) : Int))) S.1 S.2.1 dX6_statement_47 (by decide) ?_
          refine zv_iald S hAM hH 2 rfl (0) rfl (by decide) (by decide) dX6_statement_48 ?_
          refine zv_top (z := rd 0) (z2 := ((ns rd : Nat) : Int)) hrd.e0 ?_
          refine lv_bipush (v := iI (((10 : Nat) : Int))) S.1 S.2.1 dX6_statement_49 (by decide) ?_
          refine zv_icmp_ge (tgt := 58) S dX6_statement_51 (by decide) (by omega) (by decide) (fun c_51 => ?_) (fun c_51 => ?_)
          · skip
            refine lv_iconst (v := iI (((0 : Nat) : Int))) S.1 S.2.1 dX6_statement_58 (by decide) ?_
            refine zc_Vv (n := 2) (As := [.int (iI ((1 : Nat) : Int)), .int (iI ((0 : Nat) : Int))]) (rest := []) S hAM hA (kX6_checked l X h Q s rd kp km tx lnn sj_681 2 wi gi 1 0 ht (by decide) (by decide) (by decide)) rfl gX6_statement_X6_checked  (by decide +kernel) ⟨Nat.le_of_ble_eq_true rfl, Nat.le_of_ble_eq_true rfl⟩ hH hS [0, 1, 2, 3, 4, 5, 6] rfl 7 rfl (List.Perm.refl _) 6 0 rfl rfl rfl hl.1 rfl (Nat.le_of_ble_eq_true rfl) dX6_statement_59 ⟨Nat.le_of_ble_eq_true rfl, Nat.le_of_ble_eq_true rfl⟩ (fun rj_694 H locs hp696 hH hS => ?_)
            have hH : Hold X A [mO h Q km ((lnn : Nat) : Int) ((sj_681 : Nat) : Int) ((rj_694 : Nat) : Int), aW X (Q 0) 125 s, aW X (Q 1) 125 rd, aW X (Q 2) 625 kp, aW X (Q 3) 400 tx, aW X (Q 4) 8 wi, aW X (Q 5) 8 gi].flatten H := hH
            have hc_59 := hp696
            obtain rfl : rj_694 = 2 := hc_59.trans (by decide)
            refine lv_aload_n S.1 S.2.1 dX6_statement_62 rfl (lv_at hl 2 rfl) ?_
            refine zv_get (v := .int (iI ((2 : Nat) : Int))) S hAM hH nX6_statement_X6 0 rfl rfl 7 (by decide) mX6_statement_3 rfl rfl dX6_statement_63 ?_
            refine zv_if_ne (tgt := 93) S dX6_statement_66 (by decide) (by decide) (fun c_66 => ?_) (fun c_66 => ?_)
            · skip
              refine lv_goto (tgt := 344) S.1 S.2.1 dX6_statement_93 (by decide) ?_
              have eS : stm tx lnn p rd = (2, 0, rd) := by rw [stm, if_pos c_19, stScene, hm_23, bnd_none]
              rw [eS] at hret
              exact hret 344 ls _ _ (sj_681, 2) dX6_statement_344 ⟨rfl, (fun z => absurd z (by decide)), (by omega)⟩ hH hS
            · exact (show False by omega).elim
          · skip
            refine lv_iconst (v := iI (((1 : Nat) : Int))) S.1 S.2.1 dX6_statement_54 (by decide) ?_
            refine lv_goto (tgt := 59) S.1 S.2.1 dX6_statement_55 (by decide) ?_
            refine zc_Vv (n := 2) (As := [.int (iI ((1 : Nat) : Int)), .int (iI ((1 : Nat) : Int))]) (rest := []) S hAM hA (kX6_checked l X h Q s rd kp km tx lnn sj_681 2 wi gi 1 1 ht (by decide) (by decide) (by decide)) rfl gX6_statement_X6_checked  (by decide +kernel) ⟨Nat.le_of_ble_eq_true rfl, Nat.le_of_ble_eq_true rfl⟩ hH hS [0, 1, 2, 3, 4, 5, 6] rfl 7 rfl (List.Perm.refl _) 6 0 rfl rfl rfl hl.1 rfl (Nat.le_of_ble_eq_true rfl) dX6_statement_59 ⟨Nat.le_of_ble_eq_true rfl, Nat.le_of_ble_eq_true rfl⟩ (fun rj_697 H locs hp699 hH hS => ?_)
            have hH : Hold X A [mO h Q km ((lnn : Nat) : Int) ((sj_681 : Nat) : Int) ((rj_697 : Nat) : Int), aW X (Q 0) 125 s, aW X (Q 1) 125 rd, aW X (Q 2) 625 kp, aW X (Q 3) 400 tx, aW X (Q 4) 8 wi, aW X (Q 5) 8 gi].flatten H := hH
            have hc_59 := hp699
            obtain rfl : rj_697 = 2 := hc_59.trans (by decide)
            refine lv_aload_n S.1 S.2.1 dX6_statement_62 rfl (lv_at hl 2 rfl) ?_
            refine zv_get (v := .int (iI ((2 : Nat) : Int))) S hAM hH nX6_statement_X6 0 rfl rfl 7 (by decide) mX6_statement_3 rfl rfl dX6_statement_63 ?_
            refine zv_if_ne (tgt := 93) S dX6_statement_66 (by decide) (by decide) (fun c_66 => ?_) (fun c_66 => ?_)
            · skip
              refine lv_goto (tgt := 344) S.1 S.2.1 dX6_statement_93 (by decide) ?_
              have eS : stm tx lnn p rd = (2, 0, rd) := by rw [stm, if_pos c_19, stScene, hm_23, bnd_none]
              rw [eS] at hret
              exact hret 344 ls _ _ (sj_681, 2) dX6_statement_344 ⟨rfl, (fun z => absurd z (by decide)), (by omega)⟩ hH hS
            · exact (show False by omega).elim
        · refine zv_top (z := 0) (z2 := ((0 : Nat) : Int)) rfl ?_
          refine lv_aload_n S.1 S.2.1 dX6_statement_43 rfl (lv_at hl 2 rfl) ?_
          refine zv_get (v := .ref (Q 1)) S hAM hH nX6_statement_X6 0 rfl rfl 1 (by decide) mX6_statement_2 rfl rfl dX6_statement_44 ?_
          refine lv_iconst (v := iI (((0 : Nat) : Int))) S.1 S.2.1 dX6_statement_47 (by decide) ?_
          refine zv_iald S hAM hH 2 rfl (0) rfl (by decide) (by decide) dX6_statement_48 ?_
          refine zv_top (z := rd 0) (z2 := ((ns rd : Nat) : Int)) hrd.e0 ?_
          refine lv_bipush (v := iI (((10 : Nat) : Int))) S.1 S.2.1 dX6_statement_49 (by decide) ?_
          refine zv_icmp_ge (tgt := 58) S dX6_statement_51 (by decide) (by omega) (by decide) (fun c_51 => ?_) (fun c_51 => ?_)
          · skip
            refine lv_iconst (v := iI (((0 : Nat) : Int))) S.1 S.2.1 dX6_statement_58 (by decide) ?_
            refine zc_Vv (n := 2) (As := [.int (iI ((0 : Nat) : Int)), .int (iI ((0 : Nat) : Int))]) (rest := []) S hAM hA (kX6_checked l X h Q s rd kp km tx lnn sj_681 2 wi gi 0 0 ht (by decide) (by decide) (by decide)) rfl gX6_statement_X6_checked  (by decide +kernel) ⟨Nat.le_of_ble_eq_true rfl, Nat.le_of_ble_eq_true rfl⟩ hH hS [0, 1, 2, 3, 4, 5, 6] rfl 7 rfl (List.Perm.refl _) 6 0 rfl rfl rfl hl.1 rfl (Nat.le_of_ble_eq_true rfl) dX6_statement_59 ⟨Nat.le_of_ble_eq_true rfl, Nat.le_of_ble_eq_true rfl⟩ (fun rj_700 H locs hp702 hH hS => ?_)
            have hH : Hold X A [mO h Q km ((lnn : Nat) : Int) ((sj_681 : Nat) : Int) ((rj_700 : Nat) : Int), aW X (Q 0) 125 s, aW X (Q 1) 125 rd, aW X (Q 2) 625 kp, aW X (Q 3) 400 tx, aW X (Q 4) 8 wi, aW X (Q 5) 8 gi].flatten H := hH
            have hc_59 := hp702
            obtain rfl : rj_700 = 2 := hc_59.trans (by decide)
            refine lv_aload_n S.1 S.2.1 dX6_statement_62 rfl (lv_at hl 2 rfl) ?_
            refine zv_get (v := .int (iI ((2 : Nat) : Int))) S hAM hH nX6_statement_X6 0 rfl rfl 7 (by decide) mX6_statement_3 rfl rfl dX6_statement_63 ?_
            refine zv_if_ne (tgt := 93) S dX6_statement_66 (by decide) (by decide) (fun c_66 => ?_) (fun c_66 => ?_)
            · skip
              refine lv_goto (tgt := 344) S.1 S.2.1 dX6_statement_93 (by decide) ?_
              have eS : stm tx lnn p rd = (2, 0, rd) := by rw [stm, if_pos c_19, stScene, hm_23, bnd_none]
              rw [eS] at hret
              exact hret 344 ls _ _ (sj_681, 2) dX6_statement_344 ⟨rfl, (fun z => absurd z (by decide)), (by omega)⟩ hH hS
            · exact (show False by omega).elim
          · skip
            refine lv_iconst (v := iI (((1 : Nat) : Int))) S.1 S.2.1 dX6_statement_54 (by decide) ?_
            refine lv_goto (tgt := 59) S.1 S.2.1 dX6_statement_55 (by decide) ?_
            refine zc_Vv (n := 2) (As := [.int (iI ((0 : Nat) : Int)), .int (iI ((1 : Nat) : Int))]) (rest := []) S hAM hA (kX6_checked l X h Q s rd kp km tx lnn sj_681 2 wi gi 0 1 ht (by decide) (by decide) (by decide)) rfl gX6_statement_X6_checked  (by decide +kernel) ⟨Nat.le_of_ble_eq_true rfl, Nat.le_of_ble_eq_true rfl⟩ hH hS [0, 1, 2, 3, 4, 5, 6] rfl 7 rfl (List.Perm.refl _) 6 0 rfl rfl rfl hl.1 rfl (Nat.le_of_ble_eq_true rfl) dX6_statement_59 ⟨Nat.le_of_ble_eq_true rfl, Nat.le_of_ble_eq_true rfl⟩ (fun rj_703 H locs hp705 hH hS => ?_)
            have hH : Hold X A [mO h Q km ((lnn : Nat) : Int) ((sj_681 : Nat) : Int) ((rj_703 : Nat) : Int), aW X (Q 0) 125 s, aW X (Q 1) 125 rd, aW X (Q 2) 625 kp, aW X (Q 3) 400 tx, aW X (Q 4) 8 wi, aW X (Q 5) 8 gi].flatten H := hH
            have hc_59 := hp705
            obtain rfl : rj_703 = 2 := hc_59.trans (by decide)
            refine lv_aload_n S.1 S.2.1 dX6_statement_62 rfl (lv_at hl 2 rfl) ?_
            refine zv_get (v := .int (iI ((2 : Nat) : Int))) S hAM hH nX6_statement_X6 0 rfl rfl 7 (by decide) mX6_statement_3 rfl rfl dX6_statement_63 ?_
            refine zv_if_ne (tgt := 93) S dX6_statement_66 (by decide) (by decide) (fun c_66 => ?_) (fun c_66 => ?_)
            · skip
              refine lv_goto (tgt := 344) S.1 S.2.1 dX6_statement_93 (by decide) ?_
              have eS : stm tx lnn p rd = (2, 0, rd) := by rw [stm, if_pos c_19, stScene, hm_23, bnd_none]
              rw [eS] at hret
              exact hret 344 ls _ _ (sj_681, 2) dX6_statement_344 ⟨rfl, (fun z => absurd z (by decide)), (by omega)⟩ hH hS
            · exact (show False by omega).elim
      · exact absurd q1 (by decide)
      · exact absurd q1 (by decide)
    · skip
      refine lv_istore_n (lv' := [(2, .int (iI ((zz_680 : Nat) : Int))), (1, .int (iI (wdV tx p (we tx lnn p - p)))), (0, .ref (h))]) S.1 S.2.1 dX6_statement_26 rfl hl (by decide) rfl (fun ls hl => ?_)
      refine lv_aload_n S.1 S.2.1 dX6_statement_27 rfl (lv_at hl 2 rfl) ?_
      refine lv_bipush (v := iI (((59 : Nat) : Int))) S.1 S.2.1 dX6_statement_28 (by decide) ?_
      refine zc_Vv (n := 1) (As := [.int (iI ((59 : Nat) : Int))]) (rest := []) S hAM hA (kX6_wants l X h Q s rd kp km tx lnn sj_681 0 wi gi 59 ht (by decide) (by omega) (by omega)) rfl gX6_statement_X6_wants  (by decide +kernel) ⟨Nat.le_of_ble_eq_true rfl, Nat.le_of_ble_eq_true rfl⟩ hH hS [0, 1, 2, 3, 4, 5, 6] rfl 7 rfl (List.Perm.refl _) 6 0 rfl rfl rfl hl.1 rfl (Nat.le_of_ble_eq_true rfl) dX6_statement_30 ⟨Nat.le_of_ble_eq_true rfl, Nat.le_of_ble_eq_true rfl⟩ (fun u708 H locs hp710 hH hS => ?_)
      obtain ⟨sj_706, rj_707⟩ := u708
      have hH : Hold X A [mO h Q km ((lnn : Nat) : Int) ((sj_706 : Nat) : Int) ((rj_707 : Nat) : Int), aW X (Q 0) 125 s, aW X (Q 1) 125 rd, aW X (Q 2) 625 kp, aW X (Q 3) 400 tx, aW X (Q 4) 8 wi, aW X (Q 5) 8 gi].flatten H := hH
      have hw_30 := hp710
      rcases hw_30 with ⟨q1, -⟩ | ⟨-, rfl, rfl, hq_30⟩ | ⟨-, rfl, rfl, hq_30⟩
      · exact absurd rfl q1
      · skip
        refine lv_aload_n S.1 S.2.1 dX6_statement_33 rfl (lv_at hl 2 rfl) ?_
        refine lv_iload_n S.1 S.2.1 dX6_statement_34 rfl (lv_at hl 0 rfl) ?_
        refine lv_i2l (v := lI (((zz_680 : Nat) : Int))) S.1 S.2.1 dX6_statement_35 (lI_i (by omega)) ?_
        refine lv_lconst (v := lI (1)) S.1 S.2.1 dX6_statement_36 (by decide) ?_
        refine lv_ldc2 (v := lI (99)) S.1 S.2.1 S.2.2.2.1 (zv_constL S mX6_statement_1 (by decide)) dX6_statement_37 ?_
        refine zc_Si (n := 3) (As := [.long (lI (((zz_680 : Nat) : Int))), .long (lI (1)), .long (lI (99))]) (rest := [.ref (h)]) S hAM hA (kX6_in l X ((zz_680 : Nat) : Int) 1 99 (by omega) (by omega) (by omega)) rfl gX6_statement_X6_in  (by decide +kernel) ⟨Nat.le_of_ble_eq_true rfl, Nat.le_of_ble_eq_true rfl⟩ hH hS [0, 1, 2, 3, 4, 5, 6] rfl 7 rfl (List.Perm.refl _)  rfl hl.1 rfl (Nat.le_of_ble_eq_true rfl) dX6_statement_40 ⟨Nat.le_of_ble_eq_true rfl, Nat.le_of_ble_eq_true rfl⟩ (fun z712 _ H locs hp713 hH hS => ?_)
        have hH : Hold X A [mO h Q km ((lnn : Nat) : Int) (((sj_681 + 1) : Nat) : Int) ((0 : Nat) : Int), aW X (Q 0) 125 s, aW X (Q 1) 125 rd, aW X (Q 2) 625 kp, aW X (Q 3) 400 tx, aW X (Q 4) 8 wi, aW X (Q 5) 8 gi].flatten H := hH
        rcases hp713 with ⟨rfl, b_40⟩ | ⟨rfl, b_40⟩
        · refine zv_top (z := 1) (z2 := ((1 : Nat) : Int)) rfl ?_
          refine lv_aload_n S.1 S.2.1 dX6_statement_43 rfl (lv_at hl 2 rfl) ?_
          refine zv_get (v := .ref (Q 1)) S hAM hH nX6_statement_X6 0 rfl rfl 1 (by decide) mX6_statement_2 rfl rfl dX6_statement_44 ?_
          refine lv_iconst (v := iI (((0 : Nat) : Int))) S.1 S.2.1 dX6_statement_47 (by decide) ?_
          refine zv_iald S hAM hH 2 rfl (0) rfl (by decide) (by decide) dX6_statement_48 ?_
          refine zv_top (z := rd 0) (z2 := ((ns rd : Nat) : Int)) hrd.e0 ?_
          refine lv_bipush (v := iI (((10 : Nat) : Int))) S.1 S.2.1 dX6_statement_49 (by decide) ?_
          refine zv_icmp_ge (tgt := 58) S dX6_statement_51 (by decide) (by omega) (by decide) (fun c_51 => ?_) (fun c_51 => ?_)
          · skip
            refine lv_iconst (v := iI (((0 : Nat) : Int))) S.1 S.2.1 dX6_statement_58 (by decide) ?_
            refine zc_Vv (n := 2) (As := [.int (iI ((1 : Nat) : Int)), .int (iI ((0 : Nat) : Int))]) (rest := []) S hAM hA (kX6_checked l X h Q s rd kp km tx lnn (sj_681 + 1) 0 wi gi 1 0 ht (by decide) (by decide) (by decide)) rfl gX6_statement_X6_checked  (by decide +kernel) ⟨Nat.le_of_ble_eq_true rfl, Nat.le_of_ble_eq_true rfl⟩ hH hS [0, 1, 2, 3, 4, 5, 6] rfl 7 rfl (List.Perm.refl _) 6 0 rfl rfl rfl hl.1 rfl (Nat.le_of_ble_eq_true rfl) dX6_statement_59 ⟨Nat.le_of_ble_eq_true rfl, Nat.le_of_ble_eq_true rfl⟩ (fun rj_714 H locs hp716 hH hS => ?_)
            have hH : Hold X A [mO h Q km ((lnn : Nat) : Int) (((sj_681 + 1) : Nat) : Int) ((rj_714 : Nat) : Int), aW X (Q 0) 125 s, aW X (Q 1) 125 rd, aW X (Q 2) 625 kp, aW X (Q 3) 400 tx, aW X (Q 4) 8 wi, aW X (Q 5) 8 gi].flatten H := hH
            have hc_59 := hp716
            obtain rfl : rj_714 = 4 := hc_59.trans (by decide)
            refine lv_aload_n S.1 S.2.1 dX6_statement_62 rfl (lv_at hl 2 rfl) ?_
            refine zv_get (v := .int (iI ((4 : Nat) : Int))) S hAM hH nX6_statement_X6 0 rfl rfl 7 (by decide) mX6_statement_3 rfl rfl dX6_statement_63 ?_
            refine zv_if_ne (tgt := 93) S dX6_statement_66 (by decide) (by decide) (fun c_66 => ?_) (fun c_66 => ?_)
            · skip
              refine lv_goto (tgt := 344) S.1 S.2.1 dX6_statement_93 (by decide) ?_
              have eS : stm tx lnn p rd = (4, 0, rd) := by rw [stm, if_pos c_19, stScene, hm_23, bnd_some, if_pos hq_30, if_pos (by omega), if_neg (by omega)]
              rw [eS] at hret
              exact hret 344 ls _ _ ((sj_681 + 1), 4) dX6_statement_344 ⟨rfl, (fun z => absurd z (by decide)), (by omega)⟩ hH hS
            · exact (show False by omega).elim
          · skip
            refine lv_iconst (v := iI (((1 : Nat) : Int))) S.1 S.2.1 dX6_statement_54 (by decide) ?_
            refine lv_goto (tgt := 59) S.1 S.2.1 dX6_statement_55 (by decide) ?_
            refine zc_Vv (n := 2) (As := [.int (iI ((1 : Nat) : Int)), .int (iI ((1 : Nat) : Int))]) (rest := []) S hAM hA (kX6_checked l X h Q s rd kp km tx lnn (sj_681 + 1) 0 wi gi 1 1 ht (by decide) (by decide) (by decide)) rfl gX6_statement_X6_checked  (by decide +kernel) ⟨Nat.le_of_ble_eq_true rfl, Nat.le_of_ble_eq_true rfl⟩ hH hS [0, 1, 2, 3, 4, 5, 6] rfl 7 rfl (List.Perm.refl _) 6 0 rfl rfl rfl hl.1 rfl (Nat.le_of_ble_eq_true rfl) dX6_statement_59 ⟨Nat.le_of_ble_eq_true rfl, Nat.le_of_ble_eq_true rfl⟩ (fun rj_717 H locs hp719 hH hS => ?_)
            have hH : Hold X A [mO h Q km ((lnn : Nat) : Int) (((sj_681 + 1) : Nat) : Int) ((rj_717 : Nat) : Int), aW X (Q 0) 125 s, aW X (Q 1) 125 rd, aW X (Q 2) 625 kp, aW X (Q 3) 400 tx, aW X (Q 4) 8 wi, aW X (Q 5) 8 gi].flatten H := hH
            have hc_59 := hp719
            obtain rfl : rj_717 = 0 := hc_59.trans (by decide)
            refine lv_aload_n S.1 S.2.1 dX6_statement_62 rfl (lv_at hl 2 rfl) ?_
            refine zv_get (v := .int (iI ((0 : Nat) : Int))) S hAM hH nX6_statement_X6 0 rfl rfl 7 (by decide) mX6_statement_3 rfl rfl dX6_statement_63 ?_
            refine zv_if_ne (tgt := 93) S dX6_statement_66 (by decide) (by decide) (fun c_66 => ?_) (fun c_66 => ?_)
            · exact (show False by omega).elim
            · skip
              refine lv_aload_n S.1 S.2.1 dX6_statement_69 rfl (lv_at hl 2 rfl) ?_
              refine zv_get (v := .ref (Q 1)) S hAM hH nX6_statement_X6 0 rfl rfl 1 (by decide) mX6_statement_2 rfl rfl dX6_statement_70 ?_
              refine lv_iconst (v := iI (((1 : Nat) : Int))) S.1 S.2.1 dX6_statement_73 (by decide) ?_
              refine lv_aload_n S.1 S.2.1 dX6_statement_74 rfl (lv_at hl 2 rfl) ?_
              refine zv_get (v := .ref (Q 1)) S hAM hH nX6_statement_X6 0 rfl rfl 1 (by decide) mX6_statement_2 rfl rfl dX6_statement_75 ?_
              refine lv_iconst (v := iI (((0 : Nat) : Int))) S.1 S.2.1 dX6_statement_78 (by decide) ?_
              refine zv_iald S hAM hH 2 rfl (0) rfl (by decide) (by decide) dX6_statement_79 ?_
              refine zv_top (z := rd 0) (z2 := ((ns rd : Nat) : Int)) hrd.e0 ?_
              refine zv_iadd (z := (((1 + ns rd) : Nat) : Int)) S dX6_statement_80 (by omega) ?_
              refine lv_iload_n S.1 S.2.1 dX6_statement_81 rfl (lv_at hl 0 rfl) ?_
              refine zv_iast (z := ((zz_680 : Nat) : Int)) (w2 := [mO h Q km ((lnn : Nat) : Int) (((sj_681 + 1) : Nat) : Int) ((0 : Nat) : Int), aW X (Q 0) 125 s, aW X (Q 1) 125 (uI rd (1 + ns rd) (((zz_680 : Nat) : Int))), aW X (Q 2) 625 kp, aW X (Q 3) 400 tx, aW X (Q 4) 8 wi, aW X (Q 5) 8 gi].flatten) S hAM hH hS 2 rfl ((1 + ns rd)) rfl (by omega) (by decide) rfl dX6_statement_82 (fun H locs hH hS => ?_)
              refine lv_aload_n S.1 S.2.1 dX6_statement_83 rfl (lv_at hl 2 rfl) ?_
              refine zv_get (v := .ref (Q 1)) S hAM hH nX6_statement_X6 0 rfl rfl 1 (by decide) mX6_statement_2 rfl rfl dX6_statement_84 ?_
              refine lv_iconst (v := iI (((0 : Nat) : Int))) S.1 S.2.1 dX6_statement_87 (by decide) ?_
              refine lv_dup2_11 S.1 S.2.1 dX6_statement_88 rfl rfl ?_
              refine zv_iald S hAM hH 2 rfl (0) rfl (by decide) (by decide) dX6_statement_89 ?_
              refine zv_top (z := (uI rd (1 + ns rd) (((zz_680 : Nat) : Int))) 0) (z2 := ((ns rd : Nat) : Int)) (by rw [uI_n (by omega)]; exact hrd.e0) ?_
              refine lv_iconst (v := iI (((1 : Nat) : Int))) S.1 S.2.1 dX6_statement_90 (by decide) ?_
              refine zv_iadd (z := (((ns rd + 1) : Nat) : Int)) S dX6_statement_91 (by omega) ?_
              refine zv_iast (z := (((ns rd + 1) : Nat) : Int)) (w2 := [mO h Q km ((lnn : Nat) : Int) (((sj_681 + 1) : Nat) : Int) ((0 : Nat) : Int), aW X (Q 0) 125 s, aW X (Q 1) 125 (uI (uI rd (1 + ns rd) (((zz_680 : Nat) : Int))) 0 ((((ns rd + 1) : Nat) : Int))), aW X (Q 2) 625 kp, aW X (Q 3) 400 tx, aW X (Q 4) 8 wi, aW X (Q 5) 8 gi].flatten) S hAM hH hS 2 rfl (0) rfl (by decide) (by decide) rfl dX6_statement_92 (fun H locs hH hS => ?_)
              refine lv_goto (tgt := 344) S.1 S.2.1 dX6_statement_93 (by decide) ?_
              have eS : stm tx lnn p rd = (0, (sj_681 + 1), uI (uI rd (1 + ns rd) (((zz_680 : Nat) : Int))) 0 ((((ns rd + 1) : Nat) : Int))) := by rw [stm, if_pos c_19, stScene, hm_23, bnd_some, if_pos hq_30, if_pos (by omega), if_pos (by omega)]; rfl
              rw [eS] at hret
              exact hret 344 ls _ _ ((sj_681 + 1), 0) dX6_statement_344 ⟨rfl, (fun _ => rfl), (by omega)⟩ hH hS
        · refine zv_top (z := 0) (z2 := ((0 : Nat) : Int)) rfl ?_
          refine lv_aload_n S.1 S.2.1 dX6_statement_43 rfl (lv_at hl 2 rfl) ?_
          refine zv_get (v := .ref (Q 1)) S hAM hH nX6_statement_X6 0 rfl rfl 1 (by decide) mX6_statement_2 rfl rfl dX6_statement_44 ?_
          refine lv_iconst (v := iI (((0 : Nat) : Int))) S.1 S.2.1 dX6_statement_47 (by decide) ?_
          refine zv_iald S hAM hH 2 rfl (0) rfl (by decide) (by decide) dX6_statement_48 ?_
          refine zv_top (z := rd 0) (z2 := ((ns rd : Nat) : Int)) hrd.e0 ?_
          refine lv_bipush (v := iI (((10 : Nat) : Int))) S.1 S.2.1 dX6_statement_49 (by decide) ?_
          refine zv_icmp_ge (tgt := 58) S dX6_statement_51 (by decide) (by omega) (by decide) (fun c_51 => ?_) (fun c_51 => ?_)
          · skip
            refine lv_iconst (v := iI (((0 : Nat) : Int))) S.1 S.2.1 dX6_statement_58 (by decide) ?_
            refine zc_Vv (n := 2) (As := [.int (iI ((0 : Nat) : Int)), .int (iI ((0 : Nat) : Int))]) (rest := []) S hAM hA (kX6_checked l X h Q s rd kp km tx lnn (sj_681 + 1) 0 wi gi 0 0 ht (by decide) (by decide) (by decide)) rfl gX6_statement_X6_checked  (by decide +kernel) ⟨Nat.le_of_ble_eq_true rfl, Nat.le_of_ble_eq_true rfl⟩ hH hS [0, 1, 2, 3, 4, 5, 6] rfl 7 rfl (List.Perm.refl _) 6 0 rfl rfl rfl hl.1 rfl (Nat.le_of_ble_eq_true rfl) dX6_statement_59 ⟨Nat.le_of_ble_eq_true rfl, Nat.le_of_ble_eq_true rfl⟩ (fun rj_720 H locs hp722 hH hS => ?_)
            have hH : Hold X A [mO h Q km ((lnn : Nat) : Int) (((sj_681 + 1) : Nat) : Int) ((rj_720 : Nat) : Int), aW X (Q 0) 125 s, aW X (Q 1) 125 rd, aW X (Q 2) 625 kp, aW X (Q 3) 400 tx, aW X (Q 4) 8 wi, aW X (Q 5) 8 gi].flatten H := hH
            have hc_59 := hp722
            obtain rfl : rj_720 = 3 := hc_59.trans (by decide)
            refine lv_aload_n S.1 S.2.1 dX6_statement_62 rfl (lv_at hl 2 rfl) ?_
            refine zv_get (v := .int (iI ((3 : Nat) : Int))) S hAM hH nX6_statement_X6 0 rfl rfl 7 (by decide) mX6_statement_3 rfl rfl dX6_statement_63 ?_
            refine zv_if_ne (tgt := 93) S dX6_statement_66 (by decide) (by decide) (fun c_66 => ?_) (fun c_66 => ?_)
            · skip
              refine lv_goto (tgt := 344) S.1 S.2.1 dX6_statement_93 (by decide) ?_
              have eS : stm tx lnn p rd = (3, 0, rd) := by rw [stm, if_pos c_19, stScene, hm_23, bnd_some, if_pos hq_30, if_neg (by omega)]
              rw [eS] at hret
              exact hret 344 ls _ _ ((sj_681 + 1), 3) dX6_statement_344 ⟨rfl, (fun z => absurd z (by decide)), (by omega)⟩ hH hS
            · exact (show False by omega).elim
          · skip
            refine lv_iconst (v := iI (((1 : Nat) : Int))) S.1 S.2.1 dX6_statement_54 (by decide) ?_
            refine lv_goto (tgt := 59) S.1 S.2.1 dX6_statement_55 (by decide) ?_
            refine zc_Vv (n := 2) (As := [.int (iI ((0 : Nat) : Int)), .int (iI ((1 : Nat) : Int))]) (rest := []) S hAM hA (kX6_checked l X h Q s rd kp km tx lnn (sj_681 + 1) 0 wi gi 0 1 ht (by decide) (by decide) (by decide)) rfl gX6_statement_X6_checked  (by decide +kernel) ⟨Nat.le_of_ble_eq_true rfl, Nat.le_of_ble_eq_true rfl⟩ hH hS [0, 1, 2, 3, 4, 5, 6] rfl 7 rfl (List.Perm.refl _) 6 0 rfl rfl rfl hl.1 rfl (Nat.le_of_ble_eq_true rfl) dX6_statement_59 ⟨Nat.le_of_ble_eq_true rfl, Nat.le_of_ble_eq_true rfl⟩ (fun rj_723 H locs hp725 hH hS => ?_)
            have hH : Hold X A [mO h Q km ((lnn : Nat) : Int) (((sj_681 + 1) : Nat) : Int) ((rj_723 : Nat) : Int), aW X (Q 0) 125 s, aW X (Q 1) 125 rd, aW X (Q 2) 625 kp, aW X (Q 3) 400 tx, aW X (Q 4) 8 wi, aW X (Q 5) 8 gi].flatten H := hH
            have hc_59 := hp725
            obtain rfl : rj_723 = 3 := hc_59.trans (by decide)
            refine lv_aload_n S.1 S.2.1 dX6_statement_62 rfl (lv_at hl 2 rfl) ?_
            refine zv_get (v := .int (iI ((3 : Nat) : Int))) S hAM hH nX6_statement_X6 0 rfl rfl 7 (by decide) mX6_statement_3 rfl rfl dX6_statement_63 ?_
            refine zv_if_ne (tgt := 93) S dX6_statement_66 (by decide) (by decide) (fun c_66 => ?_) (fun c_66 => ?_)
            · skip
              refine lv_goto (tgt := 344) S.1 S.2.1 dX6_statement_93 (by decide) ?_
              have eS : stm tx lnn p rd = (3, 0, rd) := by rw [stm, if_pos c_19, stScene, hm_23, bnd_some, if_pos hq_30, if_neg (by omega)]
              rw [eS] at hret
              exact hret 344 ls _ _ ((sj_681 + 1), 3) dX6_statement_344 ⟨rfl, (fun z => absurd z (by decide)), (by omega)⟩ hH hS
            · exact (show False by omega).elim
      · skip
        refine lv_aload_n S.1 S.2.1 dX6_statement_33 rfl (lv_at hl 2 rfl) ?_
        refine lv_iload_n S.1 S.2.1 dX6_statement_34 rfl (lv_at hl 0 rfl) ?_
        refine lv_i2l (v := lI (((zz_680 : Nat) : Int))) S.1 S.2.1 dX6_statement_35 (lI_i (by omega)) ?_
        refine lv_lconst (v := lI (1)) S.1 S.2.1 dX6_statement_36 (by decide) ?_
        refine lv_ldc2 (v := lI (99)) S.1 S.2.1 S.2.2.2.1 (zv_constL S mX6_statement_1 (by decide)) dX6_statement_37 ?_
        refine zc_Si (n := 3) (As := [.long (lI (((zz_680 : Nat) : Int))), .long (lI (1)), .long (lI (99))]) (rest := [.ref (h)]) S hAM hA (kX6_in l X ((zz_680 : Nat) : Int) 1 99 (by omega) (by omega) (by omega)) rfl gX6_statement_X6_in  (by decide +kernel) ⟨Nat.le_of_ble_eq_true rfl, Nat.le_of_ble_eq_true rfl⟩ hH hS [0, 1, 2, 3, 4, 5, 6] rfl 7 rfl (List.Perm.refl _)  rfl hl.1 rfl (Nat.le_of_ble_eq_true rfl) dX6_statement_40 ⟨Nat.le_of_ble_eq_true rfl, Nat.le_of_ble_eq_true rfl⟩ (fun z727 _ H locs hp728 hH hS => ?_)
        have hH : Hold X A [mO h Q km ((lnn : Nat) : Int) (((sj_681 + 1) : Nat) : Int) ((2 : Nat) : Int), aW X (Q 0) 125 s, aW X (Q 1) 125 rd, aW X (Q 2) 625 kp, aW X (Q 3) 400 tx, aW X (Q 4) 8 wi, aW X (Q 5) 8 gi].flatten H := hH
        rcases hp728 with ⟨rfl, b_40⟩ | ⟨rfl, b_40⟩
        · refine zv_top (z := 1) (z2 := ((1 : Nat) : Int)) rfl ?_
          refine lv_aload_n S.1 S.2.1 dX6_statement_43 rfl (lv_at hl 2 rfl) ?_
          refine zv_get (v := .ref (Q 1)) S hAM hH nX6_statement_X6 0 rfl rfl 1 (by decide) mX6_statement_2 rfl rfl dX6_statement_44 ?_
          refine lv_iconst (v := iI (((0 : Nat) : Int))) S.1 S.2.1 dX6_statement_47 (by decide) ?_
          refine zv_iald S hAM hH 2 rfl (0) rfl (by decide) (by decide) dX6_statement_48 ?_
          refine zv_top (z := rd 0) (z2 := ((ns rd : Nat) : Int)) hrd.e0 ?_
          refine lv_bipush (v := iI (((10 : Nat) : Int))) S.1 S.2.1 dX6_statement_49 (by decide) ?_
          refine zv_icmp_ge (tgt := 58) S dX6_statement_51 (by decide) (by omega) (by decide) (fun c_51 => ?_) (fun c_51 => ?_)
          · skip
            refine lv_iconst (v := iI (((0 : Nat) : Int))) S.1 S.2.1 dX6_statement_58 (by decide) ?_
            refine zc_Vv (n := 2) (As := [.int (iI ((1 : Nat) : Int)), .int (iI ((0 : Nat) : Int))]) (rest := []) S hAM hA (kX6_checked l X h Q s rd kp km tx lnn (sj_681 + 1) 2 wi gi 1 0 ht (by decide) (by decide) (by decide)) rfl gX6_statement_X6_checked  (by decide +kernel) ⟨Nat.le_of_ble_eq_true rfl, Nat.le_of_ble_eq_true rfl⟩ hH hS [0, 1, 2, 3, 4, 5, 6] rfl 7 rfl (List.Perm.refl _) 6 0 rfl rfl rfl hl.1 rfl (Nat.le_of_ble_eq_true rfl) dX6_statement_59 ⟨Nat.le_of_ble_eq_true rfl, Nat.le_of_ble_eq_true rfl⟩ (fun rj_729 H locs hp731 hH hS => ?_)
            have hH : Hold X A [mO h Q km ((lnn : Nat) : Int) (((sj_681 + 1) : Nat) : Int) ((rj_729 : Nat) : Int), aW X (Q 0) 125 s, aW X (Q 1) 125 rd, aW X (Q 2) 625 kp, aW X (Q 3) 400 tx, aW X (Q 4) 8 wi, aW X (Q 5) 8 gi].flatten H := hH
            have hc_59 := hp731
            obtain rfl : rj_729 = 2 := hc_59.trans (by decide)
            refine lv_aload_n S.1 S.2.1 dX6_statement_62 rfl (lv_at hl 2 rfl) ?_
            refine zv_get (v := .int (iI ((2 : Nat) : Int))) S hAM hH nX6_statement_X6 0 rfl rfl 7 (by decide) mX6_statement_3 rfl rfl dX6_statement_63 ?_
            refine zv_if_ne (tgt := 93) S dX6_statement_66 (by decide) (by decide) (fun c_66 => ?_) (fun c_66 => ?_)
            · skip
              refine lv_goto (tgt := 344) S.1 S.2.1 dX6_statement_93 (by decide) ?_
              have eS : stm tx lnn p rd = (2, 0, rd) := by rw [stm, if_pos c_19, stScene, hm_23, bnd_some, if_neg hq_30]
              rw [eS] at hret
              exact hret 344 ls _ _ ((sj_681 + 1), 2) dX6_statement_344 ⟨rfl, (fun z => absurd z (by decide)), (by omega)⟩ hH hS
            · exact (show False by omega).elim
          · skip
            refine lv_iconst (v := iI (((1 : Nat) : Int))) S.1 S.2.1 dX6_statement_54 (by decide) ?_
            refine lv_goto (tgt := 59) S.1 S.2.1 dX6_statement_55 (by decide) ?_
            refine zc_Vv (n := 2) (As := [.int (iI ((1 : Nat) : Int)), .int (iI ((1 : Nat) : Int))]) (rest := []) S hAM hA (kX6_checked l X h Q s rd kp km tx lnn (sj_681 + 1) 2 wi gi 1 1 ht (by decide) (by decide) (by decide)) rfl gX6_statement_X6_checked  (by decide +kernel) ⟨Nat.le_of_ble_eq_true rfl, Nat.le_of_ble_eq_true rfl⟩ hH hS [0, 1, 2, 3, 4, 5, 6] rfl 7 rfl (List.Perm.refl _) 6 0 rfl rfl rfl hl.1 rfl (Nat.le_of_ble_eq_true rfl) dX6_statement_59 ⟨Nat.le_of_ble_eq_true rfl, Nat.le_of_ble_eq_true rfl⟩ (fun rj_732 H locs hp734 hH hS => ?_)
            have hH : Hold X A [mO h Q km ((lnn : Nat) : Int) (((sj_681 + 1) : Nat) : Int) ((rj_732 : Nat) : Int), aW X (Q 0) 125 s, aW X (Q 1) 125 rd, aW X (Q 2) 625 kp, aW X (Q 3) 400 tx, aW X (Q 4) 8 wi, aW X (Q 5) 8 gi].flatten H := hH
            have hc_59 := hp734
            obtain rfl : rj_732 = 2 := hc_59.trans (by decide)
            refine lv_aload_n S.1 S.2.1 dX6_statement_62 rfl (lv_at hl 2 rfl) ?_
            refine zv_get (v := .int (iI ((2 : Nat) : Int))) S hAM hH nX6_statement_X6 0 rfl rfl 7 (by decide) mX6_statement_3 rfl rfl dX6_statement_63 ?_
            refine zv_if_ne (tgt := 93) S dX6_statement_66 (by decide) (by decide) (fun c_66 => ?_) (fun c_66 => ?_)
            · skip
              refine lv_goto (tgt := 344) S.1 S.2.1 dX6_statement_93 (by decide) ?_
              have eS : stm tx lnn p rd = (2, 0, rd) := by rw [stm, if_pos c_19, stScene, hm_23, bnd_some, if_neg hq_30]
              rw [eS] at hret
              exact hret 344 ls _ _ ((sj_681 + 1), 2) dX6_statement_344 ⟨rfl, (fun z => absurd z (by decide)), (by omega)⟩ hH hS
            · exact (show False by omega).elim
        · refine zv_top (z := 0) (z2 := ((0 : Nat) : Int)) rfl ?_
          refine lv_aload_n S.1 S.2.1 dX6_statement_43 rfl (lv_at hl 2 rfl) ?_
          refine zv_get (v := .ref (Q 1)) S hAM hH nX6_statement_X6 0 rfl rfl 1 (by decide) mX6_statement_2 rfl rfl dX6_statement_44 ?_
          refine lv_iconst (v := iI (((0 : Nat) : Int))) S.1 S.2.1 dX6_statement_47 (by decide) ?_
          refine zv_iald S hAM hH 2 rfl (0) rfl (by decide) (by decide) dX6_statement_48 ?_
          refine zv_top (z := rd 0) (z2 := ((ns rd : Nat) : Int)) hrd.e0 ?_
          refine lv_bipush (v := iI (((10 : Nat) : Int))) S.1 S.2.1 dX6_statement_49 (by decide) ?_
          refine zv_icmp_ge (tgt := 58) S dX6_statement_51 (by decide) (by omega) (by decide) (fun c_51 => ?_) (fun c_51 => ?_)
          · skip
            refine lv_iconst (v := iI (((0 : Nat) : Int))) S.1 S.2.1 dX6_statement_58 (by decide) ?_
            refine zc_Vv (n := 2) (As := [.int (iI ((0 : Nat) : Int)), .int (iI ((0 : Nat) : Int))]) (rest := []) S hAM hA (kX6_checked l X h Q s rd kp km tx lnn (sj_681 + 1) 2 wi gi 0 0 ht (by decide) (by decide) (by decide)) rfl gX6_statement_X6_checked  (by decide +kernel) ⟨Nat.le_of_ble_eq_true rfl, Nat.le_of_ble_eq_true rfl⟩ hH hS [0, 1, 2, 3, 4, 5, 6] rfl 7 rfl (List.Perm.refl _) 6 0 rfl rfl rfl hl.1 rfl (Nat.le_of_ble_eq_true rfl) dX6_statement_59 ⟨Nat.le_of_ble_eq_true rfl, Nat.le_of_ble_eq_true rfl⟩ (fun rj_735 H locs hp737 hH hS => ?_)
            have hH : Hold X A [mO h Q km ((lnn : Nat) : Int) (((sj_681 + 1) : Nat) : Int) ((rj_735 : Nat) : Int), aW X (Q 0) 125 s, aW X (Q 1) 125 rd, aW X (Q 2) 625 kp, aW X (Q 3) 400 tx, aW X (Q 4) 8 wi, aW X (Q 5) 8 gi].flatten H := hH
            have hc_59 := hp737
            obtain rfl : rj_735 = 2 := hc_59.trans (by decide)
            refine lv_aload_n S.1 S.2.1 dX6_statement_62 rfl (lv_at hl 2 rfl) ?_
            refine zv_get (v := .int (iI ((2 : Nat) : Int))) S hAM hH nX6_statement_X6 0 rfl rfl 7 (by decide) mX6_statement_3 rfl rfl dX6_statement_63 ?_
            refine zv_if_ne (tgt := 93) S dX6_statement_66 (by decide) (by decide) (fun c_66 => ?_) (fun c_66 => ?_)
            · skip
              refine lv_goto (tgt := 344) S.1 S.2.1 dX6_statement_93 (by decide) ?_
              have eS : stm tx lnn p rd = (2, 0, rd) := by rw [stm, if_pos c_19, stScene, hm_23, bnd_some, if_neg hq_30]
              rw [eS] at hret
              exact hret 344 ls _ _ ((sj_681 + 1), 2) dX6_statement_344 ⟨rfl, (fun z => absurd z (by decide)), (by omega)⟩ hH hS
            · exact (show False by omega).elim
          · skip
            refine lv_iconst (v := iI (((1 : Nat) : Int))) S.1 S.2.1 dX6_statement_54 (by decide) ?_
            refine lv_goto (tgt := 59) S.1 S.2.1 dX6_statement_55 (by decide) ?_
            refine zc_Vv (n := 2) (As := [.int (iI ((0 : Nat) : Int)), .int (iI ((1 : Nat) : Int))]) (rest := []) S hAM hA (kX6_checked l X h Q s rd kp km tx lnn (sj_681 + 1) 2 wi gi 0 1 ht (by decide) (by decide) (by decide)) rfl gX6_statement_X6_checked  (by decide +kernel) ⟨Nat.le_of_ble_eq_true rfl, Nat.le_of_ble_eq_true rfl⟩ hH hS [0, 1, 2, 3, 4, 5, 6] rfl 7 rfl (List.Perm.refl _) 6 0 rfl rfl rfl hl.1 rfl (Nat.le_of_ble_eq_true rfl) dX6_statement_59 ⟨Nat.le_of_ble_eq_true rfl, Nat.le_of_ble_eq_true rfl⟩ (fun rj_738 H locs hp740 hH hS => ?_)
            have hH : Hold X A [mO h Q km ((lnn : Nat) : Int) (((sj_681 + 1) : Nat) : Int) ((rj_738 : Nat) : Int), aW X (Q 0) 125 s, aW X (Q 1) 125 rd, aW X (Q 2) 625 kp, aW X (Q 3) 400 tx, aW X (Q 4) 8 wi, aW X (Q 5) 8 gi].flatten H := hH
            have hc_59 := hp740
            obtain rfl : rj_738 = 2 := hc_59.trans (by decide)
            refine lv_aload_n S.1 S.2.1 dX6_statement_62 rfl (lv_at hl 2 rfl) ?_
            refine zv_get (v := .int (iI ((2 : Nat) : Int))) S hAM hH nX6_statement_X6 0 rfl rfl 7 (by decide) mX6_statement_3 rfl rfl dX6_statement_63 ?_
            refine zv_if_ne (tgt := 93) S dX6_statement_66 (by decide) (by decide) (fun c_66 => ?_) (fun c_66 => ?_)
            · skip
              refine lv_goto (tgt := 344) S.1 S.2.1 dX6_statement_93 (by decide) ?_
              have eS : stm tx lnn p rd = (2, 0, rd) := by rw [stm, if_pos c_19, stScene, hm_23, bnd_some, if_neg hq_30]
              rw [eS] at hret
              exact hret 344 ls _ _ ((sj_681 + 1), 2) dX6_statement_344 ⟨rfl, (fun z => absurd z (by decide)), (by omega)⟩ hH hS
            · exact (show False by omega).elim
