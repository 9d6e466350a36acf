theorem mX6_here_1 : Cond.fieldLink RX6 52 "RoleDoublingPlannerModel" "spot" "I" ∈ wsX6_here := List.mem_of_getElem? (i := 1) rfl
theorem nX6_here_X6 : ∀ w ∈ wsX60, w ∈ wsX6_here := fun _ h => List.mem_cons_of_mem _ (List.mem_append_right _ h)
theorem mX6_here_2 : Cond.fieldLink RX6 48 "RoleDoublingPlannerModel" "length" "I" ∈ wsX6_here := List.mem_of_getElem? (i := 2) rfl
theorem mX6_here_3 : Cond.fieldLink RX6 19 "RoleDoublingPlannerModel" "text" "[I" ∈ wsX6_here := List.mem_of_getElem? (i := 3) rfl
set_option maxHeartbeats 4000000 in
set_option maxRecDepth 100000 in
theorem kX6_here (l : Launch) (X : XT) (h : Nat) (Q : Nat → Nat) (s : Nat → Int) (rd : Nat → Int) (kp : Nat → Int) (km : Int) (tx : Nat → Int) (lnn : Nat) (p : Nat) (r0 : Nat) (wi : Nat → Int) (gi : Nat → Int) (ht : okT tx lnn) (hp : p ≤ lnn + 1) : Ci l yX6_here wsX6_here (rmD 1) X [.ref h] [mO h Q km ((lnn : Nat) : Int) ((p : Nat) : Int) ((r0 : Nat) : Int), aW X (Q 0) 125 s, aW X (Q 1) 125 rd, aW X (Q 2) 625 kp, aW X (Q 3) 400 tx, aW X (Q 4) 8 wi, aW X (Q 5) 8 gi] (fun (z : Int) (_ : Unit) => z = (if p < lnn then tx p else 0)) (fun (_ : Unit) => [mO h Q km ((lnn : Nat) : Int) ((p : Nat) : Int) ((r0 : Nat) : Int), aW X (Q 0) 125 s, aW X (Q 1) 125 rd, aW X (Q 2) 625 kp, aW X (Q 3) 400 tx, aW X (Q 4) 8 wi, aW X (Q 5) 8 gi]) := by
  refine Ci.ofW (cc := cX6_here) (maxL := 1) (by decide) rfl (Nat.le_of_ble_eq_true rfl) ?_
  intro p_ e_ s_ m_ below meth c_ A Q_ S hA hAM hH hS hret ls hl
  have hl : lv_has ls 1 [(0, .ref (h))] := hl
  have hL := ht.1
  refine lv_aload_n S.1 S.2.1 dX6_here_0 rfl (lv_at hl 0 rfl) ?_
  refine zv_get (v := .int (iI ((p : Nat) : Int))) S hAM hH nX6_here_X6 0 rfl rfl 6 (by decide) mX6_here_1 rfl rfl dX6_here_1 ?_
  refine lv_aload_n S.1 S.2.1 dX6_here_4 rfl (lv_at hl 0 rfl) ?_
  refine zv_get (v := .int (iI ((lnn : Nat) : Int))) S hAM hH nX6_here_X6 0 rfl rfl 5 (by decide) mX6_here_2 rfl rfl dX6_here_5 ?_
  refine zv_icmp_ge (tgt := 23) S dX6_here_8 (by decide) (by omega) (by omega) (fun c_8 => ?_) (fun c_8 => ?_)
  · skip
    refine lv_iconst (v := iI (((0 : Nat) : Int))) S.1 S.2.1 dX6_here_23 (by decide) ?_
    exact hret 24 ls _ _ (((0 : Nat) : Int)) () dX6_here_24 rfl (by split <;> first | rfl | (exfalso; omega)) hH hS
  · skip
    refine lv_aload_n S.1 S.2.1 dX6_here_11 rfl (lv_at hl 0 rfl) ?_
    refine zv_get (v := .ref (Q 3)) S hAM hH nX6_here_X6 0 rfl rfl 4 (by decide) mX6_here_3 rfl rfl dX6_here_12 ?_
    refine lv_aload_n S.1 S.2.1 dX6_here_15 rfl (lv_at hl 0 rfl) ?_
    refine zv_get (v := .int (iI ((p : Nat) : Int))) S hAM hH nX6_here_X6 0 rfl rfl 6 (by decide) mX6_here_1 rfl rfl dX6_here_16 ?_
    refine zv_iald S hAM hH 4 rfl (p) rfl (by omega) (by decide) dX6_here_19 ?_
    refine lv_goto (tgt := 24) S.1 S.2.1 dX6_here_20 (by decide) ?_
    exact hret 24 ls _ _ (tx p) () dX6_here_24 rfl (by split <;> first | rfl | (exfalso; omega)) hH hS

theorem mX6_wants_1 : Cond.fieldLink RX6 59 "RoleDoublingPlannerModel" "reason" "I" ∈ wsX6_wants := List.mem_of_getElem? (i := 1) rfl
theorem nX6_wants_X6 : ∀ w ∈ wsX60, w ∈ wsX6_wants := fun _ h => List.mem_cons_of_mem _ (List.mem_append_right _ h)
theorem mX6_wants_2 : Cond.fieldLink RX6 52 "RoleDoublingPlannerModel" "spot" "I" ∈ wsX6_wants := List.mem_of_getElem? (i := 2) rfl
set_option maxHeartbeats 4000000 in
set_option maxRecDepth 100000 in
theorem kX6_wants (l : Launch) (X : XT) (h : Nat) (Q : Nat → Nat) (s : Nat → Int) (rd : Nat → Int) (kp : Nat → Int) (km : Int) (tx : Nat → Int) (lnn : Nat) (p : Nat) (r0 : Nat) (wi : Nat → Int) (gi : Nat → Int) (sg : Int) (ht : okT tx lnn) (hg : sg = 32 ∨ sg = 59) (hp : p ≤ lnn + 1) (hr4 : r0 ≤ 4) : Cv l yX6_wants wsX6_wants (rmD 2) X [.ref h, .int (iI (sg))] [mO h Q km ((lnn : Nat) : Int) ((p : Nat) : Int) ((r0 : Nat) : Int), aW X (Q 0) 125 s, aW X (Q 1) 125 rd, aW X (Q 2) 625 kp, aW X (Q 3) 400 tx, aW X (Q 4) 8 wi, aW X (Q 5) 8 gi] (fun (u : (Nat) × (Nat)) => match u with | (sj, rj) => (r0 ≠ 0 ∧ r0 = rj ∧ p = sj) ∨ (r0 = 0 ∧ rj = 0 ∧ sj = p + 1 ∧ (p < lnn ∧ tx p = sg)) ∨ (r0 = 0 ∧ rj = 2 ∧ sj = p + 1 ∧ ¬ (p < lnn ∧ tx p = sg))) (fun (u : (Nat) × (Nat)) => match u with | (sj, rj) => [mO h Q km ((lnn : Nat) : Int) ((sj : Nat) : Int) ((rj : Nat) : Int), aW X (Q 0) 125 s, aW X (Q 1) 125 rd, aW X (Q 2) 625 kp, aW X (Q 3) 400 tx, aW X (Q 4) 8 wi, aW X (Q 5) 8 gi]) := by
  refine Cv.ofW (cc := cX6_wants) (maxL := 2) (by decide) rfl (Nat.le_of_ble_eq_true rfl) ?_
  intro p_ e_ s_ m_ below meth c_ A Q_ S hA hAM hH hS hmn hret ls hl
  have hl : lv_has ls 2 [(0, .ref (h)), (1, .int (iI (sg)))] := hl
  have hL := ht.1
  refine lv_aload_n S.1 S.2.1 dX6_wants_0 rfl (lv_at hl 0 rfl) ?_
  refine zv_get (v := .int (iI ((r0 : Nat) : Int))) S hAM hH nX6_wants_X6 0 rfl rfl 7 (by decide) mX6_wants_1 rfl rfl dX6_wants_1 ?_
  refine zv_if_ne (tgt := 34) S dX6_wants_4 (by decide) (by omega) (fun c_4 => ?_) (fun c_4 => ?_)
  · skip
    exact hret 34 ls _ _ (p, r0) dX6_wants_34 (by have hq := here_iff tx lnn p sg (by omega); show _ ∨ _; omega) hH hS
  · skip
    refine lv_aload_n S.1 S.2.1 dX6_wants_7 rfl (lv_at hl 0 rfl) ?_
    refine lv_aload_n S.1 S.2.1 dX6_wants_8 rfl (lv_at hl 0 rfl) ?_
    refine zc_Vi (n := 0) (As := []) (rest := [.ref (h)]) S hAM hA (kX6_here l X h Q s rd kp km tx lnn p r0 wi gi ht (by omega)) rfl gX6_wants_X6_here  (by decide +kernel) ⟨Nat.le_of_ble_eq_true rfl, Nat.le_of_ble_eq_true rfl⟩ hH hS [0, 1, 2, 3, 4, 5, 6] rfl 7 rfl (List.Perm.refl _) 6 0 rfl rfl rfl hl.1 rfl (Nat.le_of_ble_eq_true rfl) dX6_wants_9 ⟨Nat.le_of_ble_eq_true rfl, Nat.le_of_ble_eq_true rfl⟩ (fun z2 _ H locs hp3 hH hS => ?_)
    have hH : Hold X A [mO h Q km ((lnn : Nat) : Int) ((p : Nat) : Int) ((r0 : Nat) : Int), aW X (Q 0) 125 s, aW X (Q 1) 125 rd, aW X (Q 2) 625 kp, aW X (Q 3) 400 tx, aW X (Q 4) 8 wi, aW X (Q 5) 8 gi].flatten H := hH
    obtain rfl := hp3
    refine lv_iload_n S.1 S.2.1 dX6_wants_12 rfl (lv_at hl 1 rfl) ?_
    refine zv_icmp_ne (tgt := 20) S dX6_wants_13 (by decide) (hereR ht p) (by omega) (fun c_13 => ?_) (fun c_13 => ?_)
    · skip
      refine lv_iconst (v := iI (((2 : Nat) : Int))) S.1 S.2.1 dX6_wants_20 (by decide) ?_
      refine zv_put (v := .int (iI ((2 : Nat) : Int))) (w2 := [mO h Q km ((lnn : Nat) : Int) ((p : Nat) : Int) ((2 : Nat) : Int), aW X (Q 0) 125 s, aW X (Q 1) 125 rd, aW X (Q 2) 625 kp, aW X (Q 3) 400 tx, aW X (Q 4) 8 wi, aW X (Q 5) 8 gi].flatten) S hAM hH hS nX6_wants_X6 tyX6 tyX6_ok nmX6 0 rfl rfl 7 (by decide) mX6_wants_1 rfl rfl rfl rfl (Nat.le_of_ble_eq_true rfl) rfl dX6_wants_21 (fun H locs hH hS => ?_)
      refine lv_aload_n S.1 S.2.1 dX6_wants_24 rfl (lv_at hl 0 rfl) ?_
      refine lv_dup S.1 S.2.1 dX6_wants_25 rfl ?_
      refine zv_get (v := .int (iI ((p : Nat) : Int))) S hAM hH nX6_wants_X6 0 rfl rfl 6 (by decide) mX6_wants_2 rfl rfl dX6_wants_26 ?_
      refine lv_iconst (v := iI (((1 : Nat) : Int))) S.1 S.2.1 dX6_wants_29 (by decide) ?_
      refine zv_iadd (z := (((p + 1) : Nat) : Int)) S dX6_wants_30 (by omega) ?_
      refine zv_put (v := .int (iI (((p + 1) : Nat) : Int))) (w2 := [mO h Q km ((lnn : Nat) : Int) (((p + 1) : Nat) : Int) ((2 : Nat) : Int), aW X (Q 0) 125 s, aW X (Q 1) 125 rd, aW X (Q 2) 625 kp, aW X (Q 3) 400 tx, aW X (Q 4) 8 wi, aW X (Q 5) 8 gi].flatten) S hAM hH hS nX6_wants_X6 tyX6 tyX6_ok nmX6 0 rfl rfl 6 (by decide) mX6_wants_2 rfl rfl rfl rfl (Nat.le_of_ble_eq_true rfl) rfl dX6_wants_31 (fun H locs hH hS => ?_)
      exact hret 34 ls _ _ ((p + 1), 2) dX6_wants_34 (by have hq := here_iff tx lnn p sg (by omega); show _ ∨ _; omega) hH hS
    · skip
      refine lv_iconst (v := iI (((0 : Nat) : Int))) S.1 S.2.1 dX6_wants_16 (by decide) ?_
      refine lv_goto (tgt := 21) S.1 S.2.1 dX6_wants_17 (by decide) ?_
      refine zv_put (v := .int (iI ((0 : Nat) : Int))) (w2 := [mO h Q km ((lnn : Nat) : Int) ((p : Nat) : Int) ((0 : Nat) : Int), aW X (Q 0) 125 s, aW X (Q 1) 125 rd, aW X (Q 2) 625 kp, aW X (Q 3) 400 tx, aW X (Q 4) 8 wi, aW X (Q 5) 8 gi].flatten) S hAM hH hS nX6_wants_X6 tyX6 tyX6_ok nmX6 0 rfl rfl 7 (by decide) mX6_wants_1 rfl rfl rfl rfl (Nat.le_of_ble_eq_true rfl) rfl dX6_wants_21 (fun H locs hH hS => ?_)
      refine lv_aload_n S.1 S.2.1 dX6_wants_24 rfl (lv_at hl 0 rfl) ?_
      refine lv_dup S.1 S.2.1 dX6_wants_25 rfl ?_
      refine zv_get (v := .int (iI ((p : Nat) : Int))) S hAM hH nX6_wants_X6 0 rfl rfl 6 (by decide) mX6_wants_2 rfl rfl dX6_wants_26 ?_
      refine lv_iconst (v := iI (((1 : Nat) : Int))) S.1 S.2.1 dX6_wants_29 (by decide) ?_
      refine zv_iadd (z := (((p + 1) : Nat) : Int)) S dX6_wants_30 (by omega) ?_
      refine zv_put (v := .int (iI (((p + 1) : Nat) : Int))) (w2 := [mO h Q km ((lnn : Nat) : Int) (((p + 1) : Nat) : Int) ((0 : Nat) : Int), aW X (Q 0) 125 s, aW X (Q 1) 125 rd, aW X (Q 2) 625 kp, aW X (Q 3) 400 tx, aW X (Q 4) 8 wi, aW X (Q 5) 8 gi].flatten) S hAM hH hS nX6_wants_X6 tyX6 tyX6_ok nmX6 0 rfl rfl 6 (by decide) mX6_wants_2 rfl rfl rfl rfl (Nat.le_of_ble_eq_true rfl) rfl dX6_wants_31 (fun H locs hH hS => ?_)
      exact hret 34 ls _ _ ((p + 1), 0) dX6_wants_34 (by have hq := here_iff tx lnn p sg (by omega); show _ ∨ _; omega) hH hS

theorem mX6_word_1 : Cond.fieldLink RX6 52 "RoleDoublingPlannerModel" "spot" "I" ∈ wsX6_word := List.mem_of_getElem? (i := 1) rfl
theorem nX6_word_X6 : ∀ w ∈ wsX60, w ∈ wsX6_word := fun _ h => List.mem_cons_of_mem _ (List.mem_append_right _ h)
theorem mX6_word_2 : Cond.fieldLink RX6 48 "RoleDoublingPlannerModel" "length" "I" ∈ wsX6_word := List.mem_of_getElem? (i := 2) rfl
theorem mX6_word_3 : Cond.fieldLink RX6 19 "RoleDoublingPlannerModel" "text" "[I" ∈ wsX6_word := List.mem_of_getElem? (i := 3) rfl
theorem mX6_word_4 : Cond.constantLong RX6 55 (97) ∈ wsX6_word := List.mem_of_getElem? (i := 4) rfl
theorem mX6_word_5 : Cond.constantLong RX6 57 (122) ∈ wsX6_word := List.mem_of_getElem? (i := 5) rfl
set_option maxHeartbeats 4000000 in
set_option maxRecDepth 100000 in
theorem kX6_word (l : Launch) (X : XT) (h : Nat) (Q : Nat → Nat) (s : Nat → Int) (rd : Nat → Int) (kp : Nat → Int) (km : Int) (tx : Nat → Int) (lnn : Nat) (p : Nat) (r0 : Nat) (wi : Nat → Int) (gi : Nat → Int) (ht : okT tx lnn) (hp : p ≤ lnn) : Ci l yX6_word wsX6_word (rmD 2) X [.ref h] [mO h Q km ((lnn : Nat) : Int) ((p : Nat) : Int) ((r0 : Nat) : Int), aW X (Q 0) 125 s, aW X (Q 1) 125 rd, aW X (Q 2) 625 kp, aW X (Q 3) 400 tx, aW X (Q 4) 8 wi, aW X (Q 5) 8 gi] (fun (z : Int) (_ : Unit) => z = wdV tx p (we tx lnn p - p)) (fun (_ : Unit) => [mO h Q km ((lnn : Nat) : Int) (((we tx lnn p) : Nat) : Int) ((r0 : Nat) : Int), aW X (Q 0) 125 s, aW X (Q 1) 125 rd, aW X (Q 2) 625 kp, aW X (Q 3) 400 tx, aW X (Q 4) 8 wi, aW X (Q 5) 8 gi]) := by
  refine Ci.ofW (cc := cX6_word) (maxL := 4) (by decide) rfl (Nat.le_of_ble_eq_true rfl) ?_
  intro p_ e_ s_ m_ below meth c_ A Q_ S hA hAM hH hS hret ls hl
  have hl : lv_has ls 4 [(0, .ref (h))] := hl
  have hL := ht.1
  refine lv_iconst (v := iI (((0 : Nat) : Int))) S.1 S.2.1 dX6_word_0 (by decide) ?_
  refine lv_istore_n (lv' := [(1, .int (iI ((0 : Nat) : Int))), (0, .ref (h))]) S.1 S.2.1 dX6_word_1 rfl hl (by decide) rfl (fun ls hl => ?_)
  refine lv_iconst (v := iI (((0 : Nat) : Int))) S.1 S.2.1 dX6_word_2 (by decide) ?_
  refine lv_istore_n (lv' := [(2, .int (iI ((0 : Nat) : Int))), (1, .int (iI ((0 : Nat) : Int))), (0, .ref (h))]) S.1 S.2.1 dX6_word_3 rfl hl (by decide) rfl (fun ls hl => ?_)
  refine lv_iconst (v := iI (((1 : Nat) : Int))) S.1 S.2.1 dX6_word_4 (by decide) ?_
  refine lv_istore_n (lv' := [(3, .int (iI ((1 : Nat) : Int))), (2, .int (iI ((0 : Nat) : Int))), (1, .int (iI ((0 : Nat) : Int))), (0, .ref (h))]) S.1 S.2.1 dX6_word_5 rfl hl (by decide) rfl (fun ls hl => ?_)
  have lp6 : ∀ (fu_ : Nat) (n : Nat) (w : Int) (is : Nat), lnn - (p + n) < fu_ → (p + n ≤ lnn) → (we tx lnn p = we tx lnn (p + n)) → (is = ltI tx p n) → (w = wv tx p n) → (is ≤ 1) → ∀ (H : Heap) (locs : List Loc), Hold X A [mO h Q km ((lnn : Nat) : Int) (((p + n) : Nat) : Int) ((r0 : Nat) : Int), aW X (Q 0) 125 s, aW X (Q 1) 125 rd, aW X (Q 2) 625 kp, aW X (Q 3) 400 tx, aW X (Q 4) 8 wi, aW X (Q 5) 8 gi].flatten H → va_S A s_.heap H locs → ∀ ls : Array Slot, lv_has ls 4 [(3, .int (iI ((is : Nat) : Int))), (2, .int (iI ((n : Nat) : Int))), (1, .int (iI (w))), (0, .ref (h))] → W p_ l e_ (rmD 2) s_ m_ (List.toArray [.ref (h)]) below meth c_ H locs 0 0 Q_ (F0 m_ 6 ls []) := by
    intro fu_
    induction fu_ with
    | zero => intro n w is hmu hn hwe his hw hs1 H locs hH hS ls hl; exact absurd hmu (Nat.not_lt_zero _)
    | succ fu_ ih6 => 
      intro n w is hmu hn hwe his hw hs1 H locs hH hS ls hl
      have hwb := wv_b tx p n
      refine lv_aload_n S.1 S.2.1 dX6_word_6 rfl (lv_at hl 3 rfl) ?_
      refine zv_get (v := .int (iI (((p + n) : Nat) : Int))) S hAM hH nX6_word_X6 0 rfl rfl 6 (by decide) mX6_word_1 rfl rfl dX6_word_7 ?_
      refine lv_aload_n S.1 S.2.1 dX6_word_10 rfl (lv_at hl 3 rfl) ?_
      refine zv_get (v := .int (iI ((lnn : Nat) : Int))) S hAM hH nX6_word_X6 0 rfl rfl 5 (by decide) mX6_word_2 rfl rfl dX6_word_11 ?_
      refine zv_icmp_ge (tgt := 126) S dX6_word_14 (by decide) (by omega) (by omega) (fun c_14 => ?_) (fun c_14 => ?_)
      · skip
        refine lv_iload_n S.1 S.2.1 dX6_word_126 rfl (lv_at hl 0 rfl) ?_
        refine zv_if_eq (tgt := 138) S dX6_word_127 (by decide) (by omega) (fun c_127 => ?_) (fun c_127 => ?_)
        · skip
          refine lv_iconst (v := iI (-1)) S.1 S.2.1 dX6_word_138 (by decide) ?_
          have e9 : we tx lnn p = p + n := (by rw [hwe]; exact we_end (by omega))
          have e8 : we tx lnn p - p = n := (by omega)
          rw [e8, e9] at hret
          exact hret 139 ls _ _ (-1) () dX6_word_139 rfl (by unfold wdV; split <;> first | (rw [hw]; done) | rfl | (exfalso; omega)) hH hS
        · skip
          refine lv_iload_n S.1 S.2.1 dX6_word_130 rfl (lv_at hl 1 rfl) ?_
          refine zv_if_le (tgt := 138) S dX6_word_131 (by decide) (by omega) (fun c_131 => ?_) (fun c_131 => ?_)
          · skip
            refine lv_iconst (v := iI (-1)) S.1 S.2.1 dX6_word_138 (by decide) ?_
            have e9 : we tx lnn p = p + n := (by rw [hwe]; exact we_end (by omega))
            have e8 : we tx lnn p - p = n := (by omega)
            rw [e8, e9] at hret
            exact hret 139 ls _ _ (-1) () dX6_word_139 rfl (by unfold wdV; split <;> first | (rw [hw]; done) | rfl | (exfalso; omega)) hH hS
          · skip
            refine lv_iload_n S.1 S.2.1 dX6_word_134 rfl (lv_at hl 2 rfl) ?_
            refine lv_goto (tgt := 139) S.1 S.2.1 dX6_word_135 (by decide) ?_
            have e9 : we tx lnn p = p + n := (by rw [hwe]; exact we_end (by omega))
            have e8 : we tx lnn p - p = n := (by omega)
            rw [e8, e9] at hret
            exact hret 139 ls _ _ (w) () dX6_word_139 rfl (by unfold wdV; split <;> first | (rw [hw]; done) | rfl | (exfalso; omega)) hH hS
      · skip
        refine lv_aload_n S.1 S.2.1 dX6_word_17 rfl (lv_at hl 3 rfl) ?_
        refine zv_get (v := .ref (Q 3)) S hAM hH nX6_word_X6 0 rfl rfl 4 (by decide) mX6_word_3 rfl rfl dX6_word_18 ?_
        refine lv_aload_n S.1 S.2.1 dX6_word_21 rfl (lv_at hl 3 rfl) ?_
        refine zv_get (v := .int (iI (((p + n) : Nat) : Int))) S hAM hH nX6_word_X6 0 rfl rfl 6 (by decide) mX6_word_1 rfl rfl dX6_word_22 ?_
        refine zv_iald S hAM hH 4 rfl ((p + n)) rfl (by omega) (by decide) dX6_word_25 ?_
        refine lv_bipush (v := iI (((32 : Nat) : Int))) S.1 S.2.1 dX6_word_26 (by decide) ?_
        refine zv_icmp_eq (tgt := 126) S dX6_word_28 (by decide) (by have := ht.2 (p + n) (by omega); omega) (by decide) (fun c_28 => ?_) (fun c_28 => ?_)
        · skip
          refine lv_iload_n S.1 S.2.1 dX6_word_126 rfl (lv_at hl 0 rfl) ?_
          refine zv_if_eq (tgt := 138) S dX6_word_127 (by decide) (by omega) (fun c_127 => ?_) (fun c_127 => ?_)
          · skip
            refine lv_iconst (v := iI (-1)) S.1 S.2.1 dX6_word_138 (by decide) ?_
            have e9 : we tx lnn p = p + n := (by rw [hwe]; exact we_end (by omega))
            have e8 : we tx lnn p - p = n := (by omega)
            rw [e8, e9] at hret
            exact hret 139 ls _ _ (-1) () dX6_word_139 rfl (by unfold wdV; split <;> first | (rw [hw]; done) | rfl | (exfalso; omega)) hH hS
          · skip
            refine lv_iload_n S.1 S.2.1 dX6_word_130 rfl (lv_at hl 1 rfl) ?_
            refine zv_if_le (tgt := 138) S dX6_word_131 (by decide) (by omega) (fun c_131 => ?_) (fun c_131 => ?_)
            · skip
              refine lv_iconst (v := iI (-1)) S.1 S.2.1 dX6_word_138 (by decide) ?_
              have e9 : we tx lnn p = p + n := (by rw [hwe]; exact we_end (by omega))
              have e8 : we tx lnn p - p = n := (by omega)
              rw [e8, e9] at hret
              exact hret 139 ls _ _ (-1) () dX6_word_139 rfl (by unfold wdV; split <;> first | (rw [hw]; done) | rfl | (exfalso; omega)) hH hS
            · skip
              refine lv_iload_n S.1 S.2.1 dX6_word_134 rfl (lv_at hl 2 rfl) ?_
              refine lv_goto (tgt := 139) S.1 S.2.1 dX6_word_135 (by decide) ?_
              have e9 : we tx lnn p = p + n := (by rw [hwe]; exact we_end (by omega))
              have e8 : we tx lnn p - p = n := (by omega)
              rw [e8, e9] at hret
              exact hret 139 ls _ _ (w) () dX6_word_139 rfl (by unfold wdV; split <;> first | (rw [hw]; done) | rfl | (exfalso; omega)) hH hS
        · skip
          refine lv_aload_n S.1 S.2.1 dX6_word_31 rfl (lv_at hl 3 rfl) ?_
          refine zv_get (v := .ref (Q 3)) S hAM hH nX6_word_X6 0 rfl rfl 4 (by decide) mX6_word_3 rfl rfl dX6_word_32 ?_
          refine lv_aload_n S.1 S.2.1 dX6_word_35 rfl (lv_at hl 3 rfl) ?_
          refine zv_get (v := .int (iI (((p + n) : Nat) : Int))) S hAM hH nX6_word_X6 0 rfl rfl 6 (by decide) mX6_word_1 rfl rfl dX6_word_36 ?_
          refine zv_iald S hAM hH 4 rfl ((p + n)) rfl (by omega) (by decide) dX6_word_39 ?_
          refine lv_bipush (v := iI (((59 : Nat) : Int))) S.1 S.2.1 dX6_word_40 (by decide) ?_
          refine zv_icmp_eq (tgt := 126) S dX6_word_42 (by decide) (by have := ht.2 (p + n) (by omega); omega) (by decide) (fun c_42 => ?_) (fun c_42 => ?_)
          · skip
            refine lv_iload_n S.1 S.2.1 dX6_word_126 rfl (lv_at hl 0 rfl) ?_
            refine zv_if_eq (tgt := 138) S dX6_word_127 (by decide) (by omega) (fun c_127 => ?_) (fun c_127 => ?_)
            · skip
              refine lv_iconst (v := iI (-1)) S.1 S.2.1 dX6_word_138 (by decide) ?_
              have e9 : we tx lnn p = p + n := (by rw [hwe]; exact we_end (by omega))
              have e8 : we tx lnn p - p = n := (by omega)
              rw [e8, e9] at hret
              exact hret 139 ls _ _ (-1) () dX6_word_139 rfl (by unfold wdV; split <;> first | (rw [hw]; done) | rfl | (exfalso; omega)) hH hS
            · skip
              refine lv_iload_n S.1 S.2.1 dX6_word_130 rfl (lv_at hl 1 rfl) ?_
              refine zv_if_le (tgt := 138) S dX6_word_131 (by decide) (by omega) (fun c_131 => ?_) (fun c_131 => ?_)
              · skip
                refine lv_iconst (v := iI (-1)) S.1 S.2.1 dX6_word_138 (by decide) ?_
                have e9 : we tx lnn p = p + n := (by rw [hwe]; exact we_end (by omega))
                have e8 : we tx lnn p - p = n := (by omega)
                rw [e8, e9] at hret
                exact hret 139 ls _ _ (-1) () dX6_word_139 rfl (by unfold wdV; split <;> first | (rw [hw]; done) | rfl | (exfalso; omega)) hH hS
              · skip
                refine lv_iload_n S.1 S.2.1 dX6_word_134 rfl (lv_at hl 2 rfl) ?_
                refine lv_goto (tgt := 139) S.1 S.2.1 dX6_word_135 (by decide) ?_
                have e9 : we tx lnn p = p + n := (by rw [hwe]; exact we_end (by omega))
                have e8 : we tx lnn p - p = n := (by omega)
                rw [e8, e9] at hret
                exact hret 139 ls _ _ (w) () dX6_word_139 rfl (by unfold wdV; split <;> first | (rw [hw]; done) | rfl | (exfalso; omega)) hH hS
          · skip
            have htp := ht.2 (p + n) (by omega)
            have hwb := wv_b tx p n
            refine lv_iload_n S.1 S.2.1 dX6_word_45 rfl (lv_at hl 0 rfl) ?_
            refine zv_if_eq (tgt := 80) S dX6_word_46 (by decide) (by omega) (fun c_46 => ?_) (fun c_46 => ?_)
            · skip
              refine lv_iconst (v := iI (((0 : Nat) : Int))) S.1 S.2.1 dX6_word_80 (by decide) ?_
              refine lv_istore_n (lv' := [(3, .int (iI ((0 : Nat) : Int))), (2, .int (iI ((n : Nat) : Int))), (1, .int (iI (w))), (0, .ref (h))]) S.1 S.2.1 dX6_word_81 rfl hl (by decide) rfl (fun ls hl => ?_)
              refine lv_iload_n S.1 S.2.1 dX6_word_82 rfl (lv_at hl 0 rfl) ?_
              refine zv_if_eq (tgt := 108) S dX6_word_83 (by decide) (by decide) (fun c_83 => ?_) (fun c_83 => ?_)
              · skip
                refine lv_iload_n S.1 S.2.1 dX6_word_108 rfl (lv_at hl 2 rfl) ?_
                refine lv_istore_n (lv' := [(1, .int (iI (w))), (3, .int (iI ((0 : Nat) : Int))), (2, .int (iI ((n : Nat) : Int))), (0, .ref (h))]) S.1 S.2.1 dX6_word_109 rfl hl (by decide) rfl (fun ls hl => ?_)
                refine zv_iinc (z := (((n + 1) : Nat) : Int)) (lv' := [(2, .int (iI (((n + 1) : Nat) : Int))), (1, .int (iI (w))), (3, .int (iI ((0 : Nat) : Int))), (0, .ref (h))]) S dX6_word_110 hl (k := 2) rfl (by omega) (by decide) rfl (fun ls hl => ?_)
                refine lv_aload_n S.1 S.2.1 dX6_word_113 rfl (lv_at hl 3 rfl) ?_
                refine lv_dup S.1 S.2.1 dX6_word_114 rfl ?_
                refine zv_get (v := .int (iI (((p + n) : Nat) : Int))) S hAM hH nX6_word_X6 0 rfl rfl 6 (by decide) mX6_word_1 rfl rfl dX6_word_115 ?_
                refine lv_iconst (v := iI (((1 : Nat) : Int))) S.1 S.2.1 dX6_word_118 (by decide) ?_
                refine zv_iadd (z := ((((p + n) + 1) : Nat) : Int)) S dX6_word_119 (by omega) ?_
                refine zv_put (v := .int (iI ((((p + n) + 1) : Nat) : Int))) (w2 := [mO h Q km ((lnn : Nat) : Int) ((((p + n) + 1) : Nat) : Int) ((r0 : Nat) : Int), aW X (Q 0) 125 s, aW X (Q 1) 125 rd, aW X (Q 2) 625 kp, aW X (Q 3) 400 tx, aW X (Q 4) 8 wi, aW X (Q 5) 8 gi].flatten) S hAM hH hS nX6_word_X6 tyX6 tyX6_ok nmX6 0 rfl rfl 6 (by decide) mX6_word_1 rfl rfl rfl rfl (Nat.le_of_ble_eq_true rfl) rfl dX6_word_120 (fun H locs hH hS => ?_)
                refine lv_goto (tgt := 6) S.1 S.2.1 dX6_word_123 (by decide) ?_
                exact ih6  ((n + 1)) (w) (0) (by omega) (by omega) (by rw [hwe]; exact we_go (by omega)) (by rw [ltI]; split <;> first | rfl | (exfalso; omega)) (by rw [wv, ltI]; (repeat' split) <;> first | (rw [hw]; done) | rfl | (exfalso; omega) | omega) (by omega) _ _ hH hS ls (lv_sub hl [2, 0, 1, 3] rfl)
              · exact (show False by omega).elim
            · skip
              refine lv_aload_n S.1 S.2.1 dX6_word_49 rfl (lv_at hl 3 rfl) ?_
              refine zv_get (v := .ref (Q 3)) S hAM hH nX6_word_X6 0 rfl rfl 4 (by decide) mX6_word_3 rfl rfl dX6_word_50 ?_
              refine lv_aload_n S.1 S.2.1 dX6_word_53 rfl (lv_at hl 3 rfl) ?_
              refine zv_get (v := .int (iI (((p + n) : Nat) : Int))) S hAM hH nX6_word_X6 0 rfl rfl 6 (by decide) mX6_word_1 rfl rfl dX6_word_54 ?_
              refine zv_iald S hAM hH 4 rfl ((p + n)) rfl (by omega) (by decide) dX6_word_57 ?_
              refine lv_i2l (v := lI (tx (p + n))) S.1 S.2.1 dX6_word_58 (lI_i (by have := ht.2 (p + n) (by omega); omega)) ?_
              refine lv_ldc2 (v := lI (97)) S.1 S.2.1 S.2.2.2.1 (zv_constL S mX6_word_4 (by decide)) dX6_word_59 ?_
              refine lv_ldc2 (v := lI (122)) S.1 S.2.1 S.2.2.2.1 (zv_constL S mX6_word_5 (by decide)) dX6_word_62 ?_
              refine zc_Si (n := 3) (As := [.long (lI (tx (p + n))), .long (lI (97)), .long (lI (122))]) (rest := []) S hAM hA (kX6_in l X (tx (p + n)) 97 122 (by omega) (by omega) (by omega)) rfl gX6_word_X6_in  (by decide +kernel) ⟨Nat.le_of_ble_eq_true rfl, Nat.le_of_ble_eq_true rfl⟩ hH hS [0, 1, 2, 3, 4, 5, 6] rfl 7 rfl (List.Perm.refl _)  rfl hl.1 rfl (Nat.le_of_ble_eq_true rfl) dX6_word_65 ⟨Nat.le_of_ble_eq_true rfl, Nat.le_of_ble_eq_true rfl⟩ (fun z2 _ H locs hp3 hH hS => ?_)
              have hH : Hold X A [mO h Q km ((lnn : Nat) : Int) (((p + n) : Nat) : Int) ((r0 : Nat) : Int), aW X (Q 0) 125 s, aW X (Q 1) 125 rd, aW X (Q 2) 625 kp, aW X (Q 3) 400 tx, aW X (Q 4) 8 wi, aW X (Q 5) 8 gi].flatten H := hH
              rcases hp3 with ⟨rfl, b_65⟩ | ⟨rfl, b_65⟩
              · refine zv_top (z := 1) (z2 := ((1 : Nat) : Int)) rfl ?_
                refine zv_if_eq (tgt := 80) S dX6_word_68 (by decide) (by decide) (fun c_68 => ?_) (fun c_68 => ?_)
                · exact (show False by omega).elim
                · skip
                  refine lv_iload_n S.1 S.2.1 dX6_word_71 rfl (lv_at hl 1 rfl) ?_
                  refine lv_iconst (v := iI (((5 : Nat) : Int))) S.1 S.2.1 dX6_word_72 (by decide) ?_
                  refine zv_icmp_ge (tgt := 80) S dX6_word_73 (by decide) (by omega) (by decide) (fun c_73 => ?_) (fun c_73 => ?_)
                  · skip
                    refine lv_iconst (v := iI (((0 : Nat) : Int))) S.1 S.2.1 dX6_word_80 (by decide) ?_
                    refine lv_istore_n (lv' := [(3, .int (iI ((0 : Nat) : Int))), (2, .int (iI ((n : Nat) : Int))), (1, .int (iI (w))), (0, .ref (h))]) S.1 S.2.1 dX6_word_81 rfl hl (by decide) rfl (fun ls hl => ?_)
                    refine lv_iload_n S.1 S.2.1 dX6_word_82 rfl (lv_at hl 0 rfl) ?_
                    refine zv_if_eq (tgt := 108) S dX6_word_83 (by decide) (by decide) (fun c_83 => ?_) (fun c_83 => ?_)
                    · skip
                      refine lv_iload_n S.1 S.2.1 dX6_word_108 rfl (lv_at hl 2 rfl) ?_
                      refine lv_istore_n (lv' := [(1, .int (iI (w))), (3, .int (iI ((0 : Nat) : Int))), (2, .int (iI ((n : Nat) : Int))), (0, .ref (h))]) S.1 S.2.1 dX6_word_109 rfl hl (by decide) rfl (fun ls hl => ?_)
                      refine zv_iinc (z := (((n + 1) : Nat) : Int)) (lv' := [(2, .int (iI (((n + 1) : Nat) : Int))), (1, .int (iI (w))), (3, .int (iI ((0 : Nat) : Int))), (0, .ref (h))]) S dX6_word_110 hl (k := 2) rfl (by omega) (by decide) rfl (fun ls hl => ?_)
                      refine lv_aload_n S.1 S.2.1 dX6_word_113 rfl (lv_at hl 3 rfl) ?_
                      refine lv_dup S.1 S.2.1 dX6_word_114 rfl ?_
                      refine zv_get (v := .int (iI (((p + n) : Nat) : Int))) S hAM hH nX6_word_X6 0 rfl rfl 6 (by decide) mX6_word_1 rfl rfl dX6_word_115 ?_
                      refine lv_iconst (v := iI (((1 : Nat) : Int))) S.1 S.2.1 dX6_word_118 (by decide) ?_
                      refine zv_iadd (z := ((((p + n) + 1) : Nat) : Int)) S dX6_word_119 (by omega) ?_
                      refine zv_put (v := .int (iI ((((p + n) + 1) : Nat) : Int))) (w2 := [mO h Q km ((lnn : Nat) : Int) ((((p + n) + 1) : Nat) : Int) ((r0 : Nat) : Int), aW X (Q 0) 125 s, aW X (Q 1) 125 rd, aW X (Q 2) 625 kp, aW X (Q 3) 400 tx, aW X (Q 4) 8 wi, aW X (Q 5) 8 gi].flatten) S hAM hH hS nX6_word_X6 tyX6 tyX6_ok nmX6 0 rfl rfl 6 (by decide) mX6_word_1 rfl rfl rfl rfl (Nat.le_of_ble_eq_true rfl) rfl dX6_word_120 (fun H locs hH hS => ?_)
                      refine lv_goto (tgt := 6) S.1 S.2.1 dX6_word_123 (by decide) ?_
                      exact ih6  ((n + 1)) (w) (0) (by omega) (by omega) (by rw [hwe]; exact we_go (by omega)) (by rw [ltI]; split <;> first | rfl | (exfalso; omega)) (by rw [wv, ltI]; (repeat' split) <;> first | (rw [hw]; done) | rfl | (exfalso; omega) | omega) (by omega) _ _ hH hS ls (lv_sub hl [2, 0, 1, 3] rfl)
                    · exact (show False by omega).elim
                  · skip
                    refine lv_iconst (v := iI (((1 : Nat) : Int))) S.1 S.2.1 dX6_word_76 (by decide) ?_
                    refine lv_goto (tgt := 81) S.1 S.2.1 dX6_word_77 (by decide) ?_
                    refine lv_istore_n (lv' := [(3, .int (iI ((1 : Nat) : Int))), (2, .int (iI ((n : Nat) : Int))), (1, .int (iI (w))), (0, .ref (h))]) S.1 S.2.1 dX6_word_81 rfl hl (by decide) rfl (fun ls hl => ?_)
                    refine lv_iload_n S.1 S.2.1 dX6_word_82 rfl (lv_at hl 0 rfl) ?_
                    refine zv_if_eq (tgt := 108) S dX6_word_83 (by decide) (by decide) (fun c_83 => ?_) (fun c_83 => ?_)
                    · exact (show False by omega).elim
                    · skip
                      refine lv_bipush (v := iI (((32 : Nat) : Int))) S.1 S.2.1 dX6_word_86 (by decide) ?_
                      refine lv_iload_n S.1 S.2.1 dX6_word_88 rfl (lv_at hl 2 rfl) ?_
                      refine zv_imul (z := (((32 : Nat) : Int) * w)) S dX6_word_89 rfl ?_
                      refine lv_aload_n S.1 S.2.1 dX6_word_90 rfl (lv_at hl 3 rfl) ?_
                      refine zv_get (v := .ref (Q 3)) S hAM hH nX6_word_X6 0 rfl rfl 4 (by decide) mX6_word_3 rfl rfl dX6_word_91 ?_
                      refine lv_aload_n S.1 S.2.1 dX6_word_94 rfl (lv_at hl 3 rfl) ?_
                      refine zv_get (v := .int (iI (((p + n) : Nat) : Int))) S hAM hH nX6_word_X6 0 rfl rfl 6 (by decide) mX6_word_1 rfl rfl dX6_word_95 ?_
                      refine zv_iald S hAM hH 4 rfl ((p + n)) rfl (by omega) (by decide) dX6_word_98 ?_
                      refine zv_iadd (z := ((((32 : Nat) : Int) * w) + tx (p + n))) S dX6_word_99 rfl ?_
                      refine lv_bipush (v := iI (((97 : Nat) : Int))) S.1 S.2.1 dX6_word_100 (by decide) ?_
                      refine zv_isub (z := (((((32 : Nat) : Int) * w) + tx (p + n)) - ((97 : Nat) : Int))) S dX6_word_102 rfl ?_
                      refine lv_iconst (v := iI (((1 : Nat) : Int))) S.1 S.2.1 dX6_word_103 (by decide) ?_
                      refine zv_iadd (z := ((((((32 : Nat) : Int) * w) + tx (p + n)) - ((97 : Nat) : Int)) + ((1 : Nat) : Int))) S dX6_word_104 rfl ?_
                      refine lv_goto (tgt := 109) S.1 S.2.1 dX6_word_105 (by decide) ?_
                      refine lv_istore_n (lv' := [(1, .int (iI (((((((32 : Nat) : Int) * w) + tx (p + n)) - ((97 : Nat) : Int)) + ((1 : Nat) : Int))))), (3, .int (iI ((1 : Nat) : Int))), (2, .int (iI ((n : Nat) : Int))), (0, .ref (h))]) S.1 S.2.1 dX6_word_109 rfl hl (by decide) rfl (fun ls hl => ?_)
                      refine zv_iinc (z := (((n + 1) : Nat) : Int)) (lv' := [(2, .int (iI (((n + 1) : Nat) : Int))), (1, .int (iI (((((((32 : Nat) : Int) * w) + tx (p + n)) - ((97 : Nat) : Int)) + ((1 : Nat) : Int))))), (3, .int (iI ((1 : Nat) : Int))), (0, .ref (h))]) S dX6_word_110 hl (k := 2) rfl (by omega) (by decide) rfl (fun ls hl => ?_)
                      refine lv_aload_n S.1 S.2.1 dX6_word_113 rfl (lv_at hl 3 rfl) ?_
                      refine lv_dup S.1 S.2.1 dX6_word_114 rfl ?_
                      refine zv_get (v := .int (iI (((p + n) : Nat) : Int))) S hAM hH nX6_word_X6 0 rfl rfl 6 (by decide) mX6_word_1 rfl rfl dX6_word_115 ?_
                      refine lv_iconst (v := iI (((1 : Nat) : Int))) S.1 S.2.1 dX6_word_118 (by decide) ?_
                      refine zv_iadd (z := ((((p + n) + 1) : Nat) : Int)) S dX6_word_119 (by omega) ?_
                      refine zv_put (v := .int (iI ((((p + n) + 1) : Nat) : Int))) (w2 := [mO h Q km ((lnn : Nat) : Int) ((((p + n) + 1) : Nat) : Int) ((r0 : Nat) : Int), aW X (Q 0) 125 s, aW X (Q 1) 125 rd, aW X (Q 2) 625 kp, aW X (Q 3) 400 tx, aW X (Q 4) 8 wi, aW X (Q 5) 8 gi].flatten) S hAM hH hS nX6_word_X6 tyX6 tyX6_ok nmX6 0 rfl rfl 6 (by decide) mX6_word_1 rfl rfl rfl rfl (Nat.le_of_ble_eq_true rfl) rfl dX6_word_120 (fun H locs hH hS => ?_)
                      refine lv_goto (tgt := 6) S.1 S.2.1 dX6_word_123 (by decide) ?_
                      exact ih6  ((n + 1)) (((((((32 : Nat) : Int) * w) + tx (p + n)) - ((97 : Nat) : Int)) + ((1 : Nat) : Int))) (1) (by omega) (by omega) (by rw [hwe]; exact we_go (by omega)) (by rw [ltI]; split <;> first | rfl | (exfalso; omega)) (by rw [wv, ltI]; (repeat' split) <;> first | (rw [hw]; done) | rfl | (exfalso; omega) | omega) (by omega) _ _ hH hS ls (lv_sub hl [2, 0, 1, 3] rfl)
              · refine zv_top (z := 0) (z2 := ((0 : Nat) : Int)) rfl ?_
                refine zv_if_eq (tgt := 80) S dX6_word_68 (by decide) (by decide) (fun c_68 => ?_) (fun c_68 => ?_)
                · skip
                  refine lv_iconst (v := iI (((0 : Nat) : Int))) S.1 S.2.1 dX6_word_80 (by decide) ?_
                  refine lv_istore_n (lv' := [(3, .int (iI ((0 : Nat) : Int))), (2, .int (iI ((n : Nat) : Int))), (1, .int (iI (w))), (0, .ref (h))]) S.1 S.2.1 dX6_word_81 rfl hl (by decide) rfl (fun ls hl => ?_)
                  refine lv_iload_n S.1 S.2.1 dX6_word_82 rfl (lv_at hl 0 rfl) ?_
                  refine zv_if_eq (tgt := 108) S dX6_word_83 (by decide) (by decide) (fun c_83 => ?_) (fun c_83 => ?_)
                  · skip
                    refine lv_iload_n S.1 S.2.1 dX6_word_108 rfl (lv_at hl 2 rfl) ?_
                    refine lv_istore_n (lv' := [(1, .int (iI (w))), (3, .int (iI ((0 : Nat) : Int))), (2, .int (iI ((n : Nat) : Int))), (0, .ref (h))]) S.1 S.2.1 dX6_word_109 rfl hl (by decide) rfl (fun ls hl => ?_)
                    refine zv_iinc (z := (((n + 1) : Nat) : Int)) (lv' := [(2, .int (iI (((n + 1) : Nat) : Int))), (1, .int (iI (w))), (3, .int (iI ((0 : Nat) : Int))), (0, .ref (h))]) S dX6_word_110 hl (k := 2) rfl (by omega) (by decide) rfl (fun ls hl => ?_)
                    refine lv_aload_n S.1 S.2.1 dX6_word_113 rfl (lv_at hl 3 rfl) ?_
                    refine lv_dup S.1 S.2.1 dX6_word_114 rfl ?_
                    refine zv_get (v := .int (iI (((p + n) : Nat) : Int))) S hAM hH nX6_word_X6 0 rfl rfl 6 (by decide) mX6_word_1 rfl rfl dX6_word_115 ?_
                    refine lv_iconst (v := iI (((1 : Nat) : Int))) S.1 S.2.1 dX6_word_118 (by decide) ?_
                    refine zv_iadd (z := ((((p + n) + 1) : Nat) : Int)) S dX6_word_119 (by omega) ?_
                    refine zv_put (v := .int (iI ((((p + n) + 1) : Nat) : Int))) (w2 := [mO h Q km ((lnn : Nat) : Int) ((((p + n) + 1) : Nat) : Int) ((r0 : Nat) : Int), aW X (Q 0) 125 s, aW X (Q 1) 125 rd, aW X (Q 2) 625 kp, aW X (Q 3) 400 tx, aW X (Q 4) 8 wi, aW X (Q 5) 8 gi].flatten) S hAM hH hS nX6_word_X6 tyX6 tyX6_ok nmX6 0 rfl rfl 6 (by decide) mX6_word_1 rfl rfl rfl rfl (Nat.le_of_ble_eq_true rfl) rfl dX6_word_120 (fun H locs hH hS => ?_)
                    refine lv_goto (tgt := 6) S.1 S.2.1 dX6_word_123 (by decide) ?_
                    exact ih6  ((n + 1)) (w) (0) (by omega) (by omega) (by rw [hwe]; exact we_go (by omega)) (by rw [ltI]; split <;> first | rfl | (exfalso; omega)) (by rw [wv, ltI]; (repeat' split) <;> first | (rw [hw]; done) | rfl | (exfalso; omega) | omega) (by omega) _ _ hH hS ls (lv_sub hl [2, 0, 1, 3] rfl)
                  · exact (show False by omega).elim
                · exact (show False by omega).elim
  exact lp6 (lnn - (p + (0)) + 1) (0) (((0 : Nat) : Int)) (1) (Nat.lt_succ_self _) (by omega) rfl rfl rfl (by omega) _ _ hH hS ls (lv_sub hl [0, 1, 2, 3] rfl)

set_option maxHeartbeats 4000000 in
set_option maxRecDepth 100000 in
theorem kX6_named (l : Launch) (X : XT) (a : Int) (b : Int) (c : Int) (d : Int) (e : Int) (hd : 0 ≤ d ∧ d ≤ 126) (he : 0 ≤ e ∧ e ≤ 126) : Ci l yX6_named wsX6_named (rmD 1) X [.int (iI (a)), .int (iI (b)), .int (iI (c)), .int (iI (d)), .int (iI (e))] [] (fun (z : Int) (_ : Unit) => z = nmd a b c d e) (fun (_ : Unit) => []) := by
  refine Ci.ofW (cc := cX6_named) (maxL := 6) (by decide) rfl (Nat.le_of_ble_eq_true rfl) ?_
  intro p_ e_ s_ m_ below meth c_ A Q_ S hA hAM hH hS hret ls hl
  have hl : lv_has ls 6 [(0, .int (iI (a))), (1, .int (iI (b))), (2, .int (iI (c))), (3, .int (iI (d))), (4, .int (iI (e)))] := hl
  refine lv_iload_n S.1 S.2.1 dX6_named_0 rfl (lv_at hl 0 rfl) ?_
  refine lv_bipush (v := iI (((96 : Nat) : Int))) S.1 S.2.1 dX6_named_1 (by decide) ?_
  refine zv_isub (z := (a - ((96 : Nat) : Int))) S dX6_named_3 rfl ?_
  refine lv_bipush (v := iI (((32 : Nat) : Int))) S.1 S.2.1 dX6_named_4 (by decide) ?_
  refine zv_imul (z := ((a - ((96 : Nat) : Int)) * ((32 : Nat) : Int))) S dX6_named_6 rfl ?_
  refine lv_iload_n S.1 S.2.1 dX6_named_7 rfl (lv_at hl 1 rfl) ?_
  refine zv_iadd (z := (((a - ((96 : Nat) : Int)) * ((32 : Nat) : Int)) + b)) S dX6_named_8 rfl ?_
  refine lv_bipush (v := iI (((96 : Nat) : Int))) S.1 S.2.1 dX6_named_9 (by decide) ?_
  refine zv_isub (z := ((((a - ((96 : Nat) : Int)) * ((32 : Nat) : Int)) + b) - ((96 : Nat) : Int))) S dX6_named_11 rfl ?_
  refine lv_bipush (v := iI (((32 : Nat) : Int))) S.1 S.2.1 dX6_named_12 (by decide) ?_
  refine zv_imul (z := (((((a - ((96 : Nat) : Int)) * ((32 : Nat) : Int)) + b) - ((96 : Nat) : Int)) * ((32 : Nat) : Int))) S dX6_named_14 rfl ?_
  refine lv_iload_n S.1 S.2.1 dX6_named_15 rfl (lv_at hl 2 rfl) ?_
  refine zv_iadd (z := ((((((a - ((96 : Nat) : Int)) * ((32 : Nat) : Int)) + b) - ((96 : Nat) : Int)) * ((32 : Nat) : Int)) + c)) S dX6_named_16 rfl ?_
  refine lv_bipush (v := iI (((96 : Nat) : Int))) S.1 S.2.1 dX6_named_17 (by decide) ?_
  refine zv_isub (z := (((((((a - ((96 : Nat) : Int)) * ((32 : Nat) : Int)) + b) - ((96 : Nat) : Int)) * ((32 : Nat) : Int)) + c) - ((96 : Nat) : Int))) S dX6_named_19 rfl ?_
  refine lv_istore (lv' := [(5, .int (iI ((((((((a - ((96 : Nat) : Int)) * ((32 : Nat) : Int)) + b) - ((96 : Nat) : Int)) * ((32 : Nat) : Int)) + c) - ((96 : Nat) : Int))))), (0, .int (iI (a))), (1, .int (iI (b))), (2, .int (iI (c))), (3, .int (iI (d))), (4, .int (iI (e)))]) S.1 S.2.1 dX6_named_20 hl (by decide) rfl (fun ls hl => ?_)
  refine lv_iload_n S.1 S.2.1 dX6_named_22 rfl (lv_at hl 4 rfl) ?_
  refine zv_if_ne (tgt := 31) S dX6_named_23 (by decide) (by omega) (fun c_23 => ?_) (fun c_23 => ?_)
  · skip
    refine lv_bipush (v := iI (((32 : Nat) : Int))) S.1 S.2.1 dX6_named_31 (by decide) ?_
    refine lv_iload S.1 S.2.1 dX6_named_33 (lv_at hl 0 rfl) ?_
    refine zv_imul (z := (((32 : Nat) : Int) * (((((((a - ((96 : Nat) : Int)) * ((32 : Nat) : Int)) + b) - ((96 : Nat) : Int)) * ((32 : Nat) : Int)) + c) - ((96 : Nat) : Int)))) S dX6_named_35 rfl ?_
    refine lv_iload_n S.1 S.2.1 dX6_named_36 rfl (lv_at hl 4 rfl) ?_
    refine zv_iadd (z := ((((32 : Nat) : Int) * (((((((a - ((96 : Nat) : Int)) * ((32 : Nat) : Int)) + b) - ((96 : Nat) : Int)) * ((32 : Nat) : Int)) + c) - ((96 : Nat) : Int))) + d)) S dX6_named_37 rfl ?_
    refine lv_bipush (v := iI (((96 : Nat) : Int))) S.1 S.2.1 dX6_named_38 (by decide) ?_
    refine zv_isub (z := (((((32 : Nat) : Int) * (((((((a - ((96 : Nat) : Int)) * ((32 : Nat) : Int)) + b) - ((96 : Nat) : Int)) * ((32 : Nat) : Int)) + c) - ((96 : Nat) : Int))) + d) - ((96 : Nat) : Int))) S dX6_named_40 rfl ?_
    refine lv_istore (lv' := [(5, .int (iI ((((((32 : Nat) : Int) * (((((((a - ((96 : Nat) : Int)) * ((32 : Nat) : Int)) + b) - ((96 : Nat) : Int)) * ((32 : Nat) : Int)) + c) - ((96 : Nat) : Int))) + d) - ((96 : Nat) : Int))))), (0, .int (iI (a))), (1, .int (iI (b))), (2, .int (iI (c))), (3, .int (iI (d))), (4, .int (iI (e)))]) S.1 S.2.1 dX6_named_41 hl (by decide) rfl (fun ls hl => ?_)
    refine lv_iload S.1 S.2.1 dX6_named_43 (lv_at hl 5 rfl) ?_
    refine zv_if_ne (tgt := 53) S dX6_named_45 (by decide) (by omega) (fun c_45 => ?_) (fun c_45 => ?_)
    · skip
      refine lv_bipush (v := iI (((32 : Nat) : Int))) S.1 S.2.1 dX6_named_53 (by decide) ?_
      refine lv_iload S.1 S.2.1 dX6_named_55 (lv_at hl 0 rfl) ?_
      refine zv_imul (z := (((32 : Nat) : Int) * (((((32 : Nat) : Int) * (((((((a - ((96 : Nat) : Int)) * ((32 : Nat) : Int)) + b) - ((96 : Nat) : Int)) * ((32 : Nat) : Int)) + c) - ((96 : Nat) : Int))) + d) - ((96 : Nat) : Int)))) S dX6_named_57 rfl ?_
      refine lv_iload S.1 S.2.1 dX6_named_58 (lv_at hl 5 rfl) ?_
      refine zv_iadd (z := ((((32 : Nat) : Int) * (((((32 : Nat) : Int) * (((((((a - ((96 : Nat) : Int)) * ((32 : Nat) : Int)) + b) - ((96 : Nat) : Int)) * ((32 : Nat) : Int)) + c) - ((96 : Nat) : Int))) + d) - ((96 : Nat) : Int))) + e)) S dX6_named_60 rfl ?_
      refine lv_bipush (v := iI (((96 : Nat) : Int))) S.1 S.2.1 dX6_named_61 (by decide) ?_
      refine zv_isub (z := (((((32 : Nat) : Int) * (((((32 : Nat) : Int) * (((((((a - ((96 : Nat) : Int)) * ((32 : Nat) : Int)) + b) - ((96 : Nat) : Int)) * ((32 : Nat) : Int)) + c) - ((96 : Nat) : Int))) + d) - ((96 : Nat) : Int))) + e) - ((96 : Nat) : Int))) S dX6_named_63 rfl ?_
      exact hret 64 ls _ _ ((((((32 : Nat) : Int) * (((((32 : Nat) : Int) * (((((((a - ((96 : Nat) : Int)) * ((32 : Nat) : Int)) + b) - ((96 : Nat) : Int)) * ((32 : Nat) : Int)) + c) - ((96 : Nat) : Int))) + d) - ((96 : Nat) : Int))) + e) - ((96 : Nat) : Int))) () dX6_named_64 rfl (by unfold nmd; (repeat' split) <;> first | rfl | (exfalso; omega) | omega) hH hS
    · skip
      refine lv_iload S.1 S.2.1 dX6_named_48 (lv_at hl 0 rfl) ?_
      refine lv_goto (tgt := 64) S.1 S.2.1 dX6_named_50 (by decide) ?_
      exact hret 64 ls _ _ ((((((32 : Nat) : Int) * (((((((a - ((96 : Nat) : Int)) * ((32 : Nat) : Int)) + b) - ((96 : Nat) : Int)) * ((32 : Nat) : Int)) + c) - ((96 : Nat) : Int))) + d) - ((96 : Nat) : Int))) () dX6_named_64 rfl (by unfold nmd; (repeat' split) <;> first | rfl | (exfalso; omega) | omega) hH hS
  · skip
    refine lv_iload S.1 S.2.1 dX6_named_26 (lv_at hl 0 rfl) ?_
    refine lv_goto (tgt := 41) S.1 S.2.1 dX6_named_28 (by decide) ?_
    refine lv_istore (lv' := [(5, .int (iI ((((((((a - ((96 : Nat) : Int)) * ((32 : Nat) : Int)) + b) - ((96 : Nat) : Int)) * ((32 : Nat) : Int)) + c) - ((96 : Nat) : Int))))), (0, .int (iI (a))), (1, .int (iI (b))), (2, .int (iI (c))), (3, .int (iI (d))), (4, .int (iI (e)))]) S.1 S.2.1 dX6_named_41 hl (by decide) rfl (fun ls hl => ?_)
    refine lv_iload S.1 S.2.1 dX6_named_43 (lv_at hl 5 rfl) ?_
    refine zv_if_ne (tgt := 53) S dX6_named_45 (by decide) (by omega) (fun c_45 => ?_) (fun c_45 => ?_)
    · skip
      refine lv_bipush (v := iI (((32 : Nat) : Int))) S.1 S.2.1 dX6_named_53 (by decide) ?_
      refine lv_iload S.1 S.2.1 dX6_named_55 (lv_at hl 0 rfl) ?_
      refine zv_imul (z := (((32 : Nat) : Int) * (((((((a - ((96 : Nat) : Int)) * ((32 : Nat) : Int)) + b) - ((96 : Nat) : Int)) * ((32 : Nat) : Int)) + c) - ((96 : Nat) : Int)))) S dX6_named_57 rfl ?_
      refine lv_iload S.1 S.2.1 dX6_named_58 (lv_at hl 5 rfl) ?_
      refine zv_iadd (z := ((((32 : Nat) : Int) * (((((((a - ((96 : Nat) : Int)) * ((32 : Nat) : Int)) + b) - ((96 : Nat) : Int)) * ((32 : Nat) : Int)) + c) - ((96 : Nat) : Int))) + e)) S dX6_named_60 rfl ?_
      refine lv_bipush (v := iI (((96 : Nat) : Int))) S.1 S.2.1 dX6_named_61 (by decide) ?_
      refine zv_isub (z := (((((32 : Nat) : Int) * (((((((a - ((96 : Nat) : Int)) * ((32 : Nat) : Int)) + b) - ((96 : Nat) : Int)) * ((32 : Nat) : Int)) + c) - ((96 : Nat) : Int))) + e) - ((96 : Nat) : Int))) S dX6_named_63 rfl ?_
      exact hret 64 ls _ _ ((((((32 : Nat) : Int) * (((((((a - ((96 : Nat) : Int)) * ((32 : Nat) : Int)) + b) - ((96 : Nat) : Int)) * ((32 : Nat) : Int)) + c) - ((96 : Nat) : Int))) + e) - ((96 : Nat) : Int))) () dX6_named_64 rfl (by unfold nmd; (repeat' split) <;> first | rfl | (exfalso; omega) | omega) hH hS
    · skip
      refine lv_iload S.1 S.2.1 dX6_named_48 (lv_at hl 0 rfl) ?_
      refine lv_goto (tgt := 64) S.1 S.2.1 dX6_named_50 (by decide) ?_
      exact hret 64 ls _ _ ((((((((a - ((96 : Nat) : Int)) * ((32 : Nat) : Int)) + b) - ((96 : Nat) : Int)) * ((32 : Nat) : Int)) + c) - ((96 : Nat) : Int))) () dX6_named_64 rfl (by unfold nmd; (repeat' split) <;> first | rfl | (exfalso; omega) | omega) hH hS

theorem mX6_number_1 : Cond.fieldLink RX6 59 "RoleDoublingPlannerModel" "reason" "I" ∈ wsX6_number := List.mem_of_getElem? (i := 1) rfl
theorem nX6_number_X6 : ∀ w ∈ wsX60, w ∈ wsX6_number := fun _ h => List.mem_cons_of_mem _ (List.mem_append_right _ h)
theorem mX6_number_2 : Cond.fieldLink RX6 52 "RoleDoublingPlannerModel" "spot" "I" ∈ wsX6_number := List.mem_of_getElem? (i := 2) rfl
theorem mX6_number_3 : Cond.fieldLink RX6 48 "RoleDoublingPlannerModel" "length" "I" ∈ wsX6_number := List.mem_of_getElem? (i := 3) rfl
theorem mX6_number_7 : Cond.constantLong RX6 74 (3) ∈ wsX6_number := List.mem_of_getElem? (i := 7) rfl
theorem mX6_number_4 : Cond.fieldLink RX6 19 "RoleDoublingPlannerModel" "text" "[I" ∈ wsX6_number := List.mem_of_getElem? (i := 4) rfl
theorem mX6_number_5 : Cond.constantLong RX6 70 (48) ∈ wsX6_number := List.mem_of_getElem? (i := 5) rfl
theorem mX6_number_6 : Cond.constantLong RX6 72 (57) ∈ wsX6_number := List.mem_of_getElem? (i := 6) rfl
set_option maxHeartbeats 4000000 in
set_option maxRecDepth 100000 in
theorem kX6_number (l : Launch) (X : XT) (h : Nat) (Q : Nat → Nat) (s : Nat → Int) (rd : Nat → Int) (kp : Nat → Int) (km : Int) (tx : Nat → Int) (lnn : Nat) (p : Nat) (r0 : Nat) (wi : Nat → Int) (gi : Nat → Int) (ht : okT tx lnn) (hp : p ≤ lnn + 1) (hp0 : r0 = 0 → p ≤ lnn) (hr4 : r0 ≤ 4) : Ci l yX6_number wsX6_number (rmD 3) X [.ref h] [mO h Q km ((lnn : Nat) : Int) ((p : Nat) : Int) ((r0 : Nat) : Int), aW X (Q 0) 125 s, aW X (Q 1) 125 rd, aW X (Q 2) 625 kp, aW X (Q 3) 400 tx, aW X (Q 4) 8 wi, aW X (Q 5) 8 gi] (fun (z : Int) (u : (Nat) × (Nat) × (Nat)) => match u with | (zz, sj, rj) => z = ((zz : Nat) : Int) ∧ zz ≤ 999 ∧ ((r0 ≠ 0 ∧ r0 = rj ∧ p = sj) ∨ (r0 = 0 ∧ rj = 2 ∧ num1 tx lnn p = none ∧ sj ≤ lnn + 1) ∨ (r0 = 0 ∧ rj = 0 ∧ num1 tx lnn p = some (((zz : Nat) : Int), sj) ∧ sj ≤ lnn))) (fun (u : (Nat) × (Nat) × (Nat)) => match u with | (zz, sj, rj) => [mO h Q km ((lnn : Nat) : Int) ((sj : Nat) : Int) ((rj : Nat) : Int), aW X (Q 0) 125 s, aW X (Q 1) 125 rd, aW X (Q 2) 625 kp, aW X (Q 3) 400 tx, aW X (Q 4) 8 wi, aW X (Q 5) 8 gi]) := by
  refine Ci.ofW (cc := cX6_number) (maxL := 3) (by decide) rfl (Nat.le_of_ble_eq_true rfl) ?_
  intro p_ e_ s_ m_ below meth c_ A Q_ S hA hAM hH hS hret ls hl
  have hl : lv_has ls 3 [(0, .ref (h))] := hl
  have hL := ht.1
  refine lv_aload_n S.1 S.2.1 dX6_number_0 rfl (lv_at hl 0 rfl) ?_
  refine lv_bipush (v := iI (((32 : Nat) : Int))) S.1 S.2.1 dX6_number_1 (by decide) ?_
  refine zc_Vv (n := 1) (As := [.int (iI ((32 : Nat) : Int))]) (rest := []) S hAM hA (kX6_wants l X h Q s rd kp km tx lnn p r0 wi gi 32 ht (by decide) (by omega) (by omega)) rfl gX6_number_X6_wants  (by decide +kernel) ⟨Nat.le_of_ble_eq_true rfl, Nat.le_of_ble_eq_true rfl⟩ hH hS [0, 1, 2, 3, 4, 5, 6] rfl 7 rfl (List.Perm.refl _) 6 0 rfl rfl rfl hl.1 rfl (Nat.le_of_ble_eq_true rfl) dX6_number_3 ⟨Nat.le_of_ble_eq_true rfl, Nat.le_of_ble_eq_true rfl⟩ (fun u3 H locs hp5 hH hS => ?_)
  obtain ⟨sj_1, rj_2⟩ := u3
  have hH : Hold X A [mO h Q km ((lnn : Nat) : Int) ((sj_1 : Nat) : Int) ((rj_2 : Nat) : Int), aW X (Q 0) 125 s, aW X (Q 1) 125 rd, aW X (Q 2) 625 kp, aW X (Q 3) 400 tx, aW X (Q 4) 8 wi, aW X (Q 5) 8 gi].flatten H := hH
  have hw_3 := hp5
  rcases hw_3 with ⟨q1, rfl, rfl⟩ | ⟨rfl, rfl, rfl, q2⟩ | ⟨rfl, rfl, rfl, q2⟩
  · skip
    refine lv_iconst (v := iI (((0 : Nat) : Int))) S.1 S.2.1 dX6_number_6 (by decide) ?_
    refine lv_istore_n (lv' := [(1, .int (iI ((0 : Nat) : Int))), (0, .ref (h))]) S.1 S.2.1 dX6_number_7 rfl hl (by decide) rfl (fun ls hl => ?_)
    refine lv_iconst (v := iI (((0 : Nat) : Int))) S.1 S.2.1 dX6_number_8 (by decide) ?_
    refine lv_istore_n (lv' := [(2, .int (iI ((0 : Nat) : Int))), (1, .int (iI ((0 : Nat) : Int))), (0, .ref (h))]) S.1 S.2.1 dX6_number_9 rfl hl (by decide) rfl (fun ls hl => ?_)
    have lp10 : ∀ (fu_ : Nat) (n : Nat), n < fu_ → ∀ (H : Heap) (locs : List Loc), Hold X A [mO h Q km ((lnn : Nat) : Int) ((p : Nat) : Int) ((r0 : Nat) : Int), aW X (Q 0) 125 s, aW X (Q 1) 125 rd, aW X (Q 2) 625 kp, aW X (Q 3) 400 tx, aW X (Q 4) 8 wi, aW X (Q 5) 8 gi].flatten H → va_S A s_.heap H locs → ∀ ls : Array Slot, lv_has ls 3 [(2, .int (iI ((0 : Nat) : Int))), (1, .int (iI ((0 : Nat) : Int))), (0, .ref (h))] → W p_ l e_ (rmD 3) s_ m_ (List.toArray [.ref (h)]) below meth c_ H locs 0 0 Q_ (F0 m_ 10 ls []) := by
      intro fu_
      induction fu_ with
      | zero => intro n hmu  H locs hH hS ls hl; exact absurd hmu (Nat.not_lt_zero _)
      | succ fu_ ih10 => 
        intro n hmu  H locs hH hS ls hl
        refine lv_aload_n S.1 S.2.1 dX6_number_10 rfl (lv_at hl 2 rfl) ?_
        refine zv_get (v := .int (iI ((r0 : Nat) : Int))) S hAM hH nX6_number_X6 0 rfl rfl 7 (by decide) mX6_number_1 rfl rfl dX6_number_11 ?_
        refine zv_if_ne (tgt := 127) S dX6_number_14 (by decide) (by omega) (fun c_14 => ?_) (fun c_14 => ?_)
        · skip
          refine lv_aload_n S.1 S.2.1 dX6_number_127 rfl (lv_at hl 2 rfl) ?_
          refine zv_get (v := .int (iI ((r0 : Nat) : Int))) S hAM hH nX6_number_X6 0 rfl rfl 7 (by decide) mX6_number_1 rfl rfl dX6_number_128 ?_
          refine zv_if_ne (tgt := 151) S dX6_number_131 (by decide) (by omega) (fun c_131 => ?_) (fun c_131 => ?_)
          · skip
            refine lv_iload_n S.1 S.2.1 dX6_number_151 rfl (lv_at hl 1 rfl) ?_
            exact hret 152 ls _ _ (((0 : Nat) : Int)) (0, p, r0) dX6_number_152 rfl ⟨rfl, (by omega), Or.inl ⟨q1, rfl, rfl⟩⟩ hH hS
          · exact (show False by omega).elim
        · exact (show False by omega).elim
    exact lp10 ((0) + 1) (0) (Nat.lt_succ_self _)  _ _ hH hS ls (lv_sub hl [0, 1, 2] rfl)
  · skip
    refine lv_iconst (v := iI (((0 : Nat) : Int))) S.1 S.2.1 dX6_number_6 (by decide) ?_
    refine lv_istore_n (lv' := [(1, .int (iI ((0 : Nat) : Int))), (0, .ref (h))]) S.1 S.2.1 dX6_number_7 rfl hl (by decide) rfl (fun ls hl => ?_)
    refine lv_iconst (v := iI (((0 : Nat) : Int))) S.1 S.2.1 dX6_number_8 (by decide) ?_
    refine lv_istore_n (lv' := [(2, .int (iI ((0 : Nat) : Int))), (1, .int (iI ((0 : Nat) : Int))), (0, .ref (h))]) S.1 S.2.1 dX6_number_9 rfl hl (by decide) rfl (fun ls hl => ?_)
    have lp10 : ∀ (fu_ : Nat) (n : Nat) (v : Int) (fg : Nat), lnn - ((p + 1) + n) < fu_ → ((p + 1) + n ≤ lnn) → (we tx lnn (p + 1) = we tx lnn ((p + 1) + n)) → (fg = fgI tx (p + 1) n) → (v = vI tx (p + 1) n) → ∀ (H : Heap) (locs : List Loc), Hold X A [mO h Q km ((lnn : Nat) : Int) ((((p + 1) + n) : Nat) : Int) ((0 : Nat) : Int), aW X (Q 0) 125 s, aW X (Q 1) 125 rd, aW X (Q 2) 625 kp, aW X (Q 3) 400 tx, aW X (Q 4) 8 wi, aW X (Q 5) 8 gi].flatten H → va_S A s_.heap H locs → ∀ ls : Array Slot, lv_has ls 3 [(2, .int (iI ((fg : Nat) : Int))), (1, .int (iI (v))), (0, .ref (h))] → W p_ l e_ (rmD 3) s_ m_ (List.toArray [.ref (h)]) below meth c_ H locs 0 0 Q_ (F0 m_ 10 ls []) := by
      intro fu_
      induction fu_ with
      | zero => intro n v fg hmu hn hwe hfg hv H locs hH hS ls hl; exact absurd hmu (Nat.not_lt_zero _)
      | succ fu_ ih10 => 
        intro n v fg hmu hn hwe hfg hv H locs hH hS ls hl
        have hvb := vI_b tx (p + 1) n
        have hfb := fgI_dg tx (p + 1) n
        refine lv_aload_n S.1 S.2.1 dX6_number_10 rfl (lv_at hl 2 rfl) ?_
        refine zv_get (v := .int (iI ((0 : Nat) : Int))) S hAM hH nX6_number_X6 0 rfl rfl 7 (by decide) mX6_number_1 rfl rfl dX6_number_11 ?_
        refine zv_if_ne (tgt := 127) S dX6_number_14 (by decide) (by decide) (fun c_14 => ?_) (fun c_14 => ?_)
        · exact (show False by omega).elim
        · skip
          refine lv_aload_n S.1 S.2.1 dX6_number_17 rfl (lv_at hl 2 rfl) ?_
          refine zv_get (v := .int (iI ((((p + 1) + n) : Nat) : Int))) S hAM hH nX6_number_X6 0 rfl rfl 6 (by decide) mX6_number_2 rfl rfl dX6_number_18 ?_
          refine lv_aload_n S.1 S.2.1 dX6_number_21 rfl (lv_at hl 2 rfl) ?_
          refine zv_get (v := .int (iI ((lnn : Nat) : Int))) S hAM hH nX6_number_X6 0 rfl rfl 5 (by decide) mX6_number_3 rfl rfl dX6_number_22 ?_
          refine zv_icmp_ge (tgt := 127) S dX6_number_25 (by decide) (by omega) (by omega) (fun c_25 => ?_) (fun c_25 => ?_)
          · skip
            refine lv_aload_n S.1 S.2.1 dX6_number_127 rfl (lv_at hl 2 rfl) ?_
            refine zv_get (v := .int (iI ((0 : Nat) : Int))) S hAM hH nX6_number_X6 0 rfl rfl 7 (by decide) mX6_number_1 rfl rfl dX6_number_128 ?_
            refine zv_if_ne (tgt := 151) S dX6_number_131 (by decide) (by decide) (fun c_131 => ?_) (fun c_131 => ?_)
            · exact (show False by omega).elim
            · skip
              refine lv_iload_n S.1 S.2.1 dX6_number_134 rfl (lv_at hl 0 rfl) ?_
              refine lv_i2l (v := lI (((fg : Nat) : Int))) S.1 S.2.1 dX6_number_135 (lI_i (by omega)) ?_
              refine lv_lconst (v := lI (1)) S.1 S.2.1 dX6_number_136 (by decide) ?_
              refine lv_ldc2 (v := lI (3)) S.1 S.2.1 S.2.2.2.1 (zv_constL S mX6_number_7 (by decide)) dX6_number_137 ?_
              refine zc_Si (n := 3) (As := [.long (lI (((fg : Nat) : Int))), .long (lI (1)), .long (lI (3))]) (rest := []) S hAM hA (kX6_in l X ((fg : Nat) : Int) 1 3 (by omega) (by omega) (by omega)) rfl gX6_number_X6_in  (by decide +kernel) ⟨Nat.le_of_ble_eq_true rfl, Nat.le_of_ble_eq_true rfl⟩ hH hS [0, 1, 2, 3, 4, 5, 6] rfl 7 rfl (List.Perm.refl _)  rfl hl.1 rfl (Nat.le_of_ble_eq_true rfl) dX6_number_140 ⟨Nat.le_of_ble_eq_true rfl, Nat.le_of_ble_eq_true rfl⟩ (fun z7 _ H locs hp8 hH hS => ?_)
              have hH : Hold X A [mO h Q km ((lnn : Nat) : Int) ((((p + 1) + n) : Nat) : Int) ((0 : Nat) : Int), aW X (Q 0) 125 s, aW X (Q 1) 125 rd, aW X (Q 2) 625 kp, aW X (Q 3) 400 tx, aW X (Q 4) 8 wi, aW X (Q 5) 8 gi].flatten H := hH
              rcases hp8 with ⟨rfl, b_140⟩ | ⟨rfl, b_140⟩
              · refine zv_top (z := 1) (z2 := ((1 : Nat) : Int)) rfl ?_
                refine zv_if_ne (tgt := 151) S dX6_number_143 (by decide) (by decide) (fun c_143 => ?_) (fun c_143 => ?_)
                · skip
                  refine lv_iload_n S.1 S.2.1 dX6_number_151 rfl (lv_at hl 1 rfl) ?_
                  have e9 : we tx lnn (p + 1) = (p + 1) + n := (by rw [hwe]; exact we_end (by omega))
                  have e8 : we tx lnn (p + 1) - (p + 1) = n := (by omega)
                  exact hret 152 ls _ _ (v) (v.toNat, ((p + 1) + n), 0) dX6_number_152 rfl ⟨(by omega), (by omega), (by rw [num1_fg q2, e8, ← hfg]; first | exact Or.inr (Or.inr ⟨rfl, rfl, (by rw [if_pos (by omega), e9, ← hv]; congr 2; omega), (by omega)⟩) | exact Or.inr (Or.inl ⟨rfl, rfl, if_neg (by omega), (by omega)⟩))⟩ hH hS
                · exact (show False by omega).elim
              · refine zv_top (z := 0) (z2 := ((0 : Nat) : Int)) rfl ?_
                refine zv_if_ne (tgt := 151) S dX6_number_143 (by decide) (by decide) (fun c_143 => ?_) (fun c_143 => ?_)
                · exact (show False by omega).elim
                · skip
                  refine lv_aload_n S.1 S.2.1 dX6_number_146 rfl (lv_at hl 2 rfl) ?_
                  refine lv_iconst (v := iI (((2 : Nat) : Int))) S.1 S.2.1 dX6_number_147 (by decide) ?_
                  refine zv_put (v := .int (iI ((2 : Nat) : Int))) (w2 := [mO h Q km ((lnn : Nat) : Int) ((((p + 1) + n) : Nat) : Int) ((2 : Nat) : Int), aW X (Q 0) 125 s, aW X (Q 1) 125 rd, aW X (Q 2) 625 kp, aW X (Q 3) 400 tx, aW X (Q 4) 8 wi, aW X (Q 5) 8 gi].flatten) S hAM hH hS nX6_number_X6 tyX6 tyX6_ok nmX6 0 rfl rfl 7 (by decide) mX6_number_1 rfl rfl rfl rfl (Nat.le_of_ble_eq_true rfl) rfl dX6_number_148 (fun H locs hH hS => ?_)
                  refine lv_iload_n S.1 S.2.1 dX6_number_151 rfl (lv_at hl 1 rfl) ?_
                  have e9 : we tx lnn (p + 1) = (p + 1) + n := (by rw [hwe]; exact we_end (by omega))
                  have e8 : we tx lnn (p + 1) - (p + 1) = n := (by omega)
                  exact hret 152 ls _ _ (v) (v.toNat, ((p + 1) + n), 2) dX6_number_152 rfl ⟨(by omega), (by omega), (by rw [num1_fg q2, e8, ← hfg]; first | exact Or.inr (Or.inr ⟨rfl, rfl, (by rw [if_pos (by omega), e9, ← hv]; congr 2; omega), (by omega)⟩) | exact Or.inr (Or.inl ⟨rfl, rfl, if_neg (by omega), (by omega)⟩))⟩ hH hS
          · skip
            refine lv_aload_n S.1 S.2.1 dX6_number_28 rfl (lv_at hl 2 rfl) ?_
            refine zv_get (v := .ref (Q 3)) S hAM hH nX6_number_X6 0 rfl rfl 4 (by decide) mX6_number_4 rfl rfl dX6_number_29 ?_
            refine lv_aload_n S.1 S.2.1 dX6_number_32 rfl (lv_at hl 2 rfl) ?_
            refine zv_get (v := .int (iI ((((p + 1) + n) : Nat) : Int))) S hAM hH nX6_number_X6 0 rfl rfl 6 (by decide) mX6_number_2 rfl rfl dX6_number_33 ?_
            refine zv_iald S hAM hH 4 rfl (((p + 1) + n)) rfl (by omega) (by decide) dX6_number_36 ?_
            refine lv_bipush (v := iI (((32 : Nat) : Int))) S.1 S.2.1 dX6_number_37 (by decide) ?_
            refine zv_icmp_eq (tgt := 127) S dX6_number_39 (by decide) (by have := ht.2 ((p + 1) + n) (by omega); omega) (by decide) (fun c_39 => ?_) (fun c_39 => ?_)
            · skip
              refine lv_aload_n S.1 S.2.1 dX6_number_127 rfl (lv_at hl 2 rfl) ?_
              refine zv_get (v := .int (iI ((0 : Nat) : Int))) S hAM hH nX6_number_X6 0 rfl rfl 7 (by decide) mX6_number_1 rfl rfl dX6_number_128 ?_
              refine zv_if_ne (tgt := 151) S dX6_number_131 (by decide) (by decide) (fun c_131 => ?_) (fun c_131 => ?_)
              · exact (show False by omega).elim
              · skip
                refine lv_iload_n S.1 S.2.1 dX6_number_134 rfl (lv_at hl 0 rfl) ?_
                refine lv_i2l (v := lI (((fg : Nat) : Int))) S.1 S.2.1 dX6_number_135 (lI_i (by omega)) ?_
                refine lv_lconst (v := lI (1)) S.1 S.2.1 dX6_number_136 (by decide) ?_
                refine lv_ldc2 (v := lI (3)) S.1 S.2.1 S.2.2.2.1 (zv_constL S mX6_number_7 (by decide)) dX6_number_137 ?_
                refine zc_Si (n := 3) (As := [.long (lI (((fg : Nat) : Int))), .long (lI (1)), .long (lI (3))]) (rest := []) S hAM hA (kX6_in l X ((fg : Nat) : Int) 1 3 (by omega) (by omega) (by omega)) rfl gX6_number_X6_in  (by decide +kernel) ⟨Nat.le_of_ble_eq_true rfl, Nat.le_of_ble_eq_true rfl⟩ hH hS [0, 1, 2, 3, 4, 5, 6] rfl 7 rfl (List.Perm.refl _)  rfl hl.1 rfl (Nat.le_of_ble_eq_true rfl) dX6_number_140 ⟨Nat.le_of_ble_eq_true rfl, Nat.le_of_ble_eq_true rfl⟩ (fun z10 _ H locs hp11 hH hS => ?_)
                have hH : Hold X A [mO h Q km ((lnn : Nat) : Int) ((((p + 1) + n) : Nat) : Int) ((0 : Nat) : Int), aW X (Q 0) 125 s, aW X (Q 1) 125 rd, aW X (Q 2) 625 kp, aW X (Q 3) 400 tx, aW X (Q 4) 8 wi, aW X (Q 5) 8 gi].flatten H := hH
                rcases hp11 with ⟨rfl, b_140⟩ | ⟨rfl, b_140⟩
                · refine zv_top (z := 1) (z2 := ((1 : Nat) : Int)) rfl ?_
                  refine zv_if_ne (tgt := 151) S dX6_number_143 (by decide) (by decide) (fun c_143 => ?_) (fun c_143 => ?_)
                  · skip
                    refine lv_iload_n S.1 S.2.1 dX6_number_151 rfl (lv_at hl 1 rfl) ?_
                    have e9 : we tx lnn (p + 1) = (p + 1) + n := (by rw [hwe]; exact we_end (by omega))
                    have e8 : we tx lnn (p + 1) - (p + 1) = n := (by omega)
                    exact hret 152 ls _ _ (v) (v.toNat, ((p + 1) + n), 0) dX6_number_152 rfl ⟨(by omega), (by omega), (by rw [num1_fg q2, e8, ← hfg]; first | exact Or.inr (Or.inr ⟨rfl, rfl, (by rw [if_pos (by omega), e9, ← hv]; congr 2; omega), (by omega)⟩) | exact Or.inr (Or.inl ⟨rfl, rfl, if_neg (by omega), (by omega)⟩))⟩ hH hS
                  · exact (show False by omega).elim
                · refine zv_top (z := 0) (z2 := ((0 : Nat) : Int)) rfl ?_
                  refine zv_if_ne (tgt := 151) S dX6_number_143 (by decide) (by decide) (fun c_143 => ?_) (fun c_143 => ?_)
                  · exact (show False by omega).elim
                  · skip
                    refine lv_aload_n S.1 S.2.1 dX6_number_146 rfl (lv_at hl 2 rfl) ?_
                    refine lv_iconst (v := iI (((2 : Nat) : Int))) S.1 S.2.1 dX6_number_147 (by decide) ?_
                    refine zv_put (v := .int (iI ((2 : Nat) : Int))) (w2 := [mO h Q km ((lnn : Nat) : Int) ((((p + 1) + n) : Nat) : Int) ((2 : Nat) : Int), aW X (Q 0) 125 s, aW X (Q 1) 125 rd, aW X (Q 2) 625 kp, aW X (Q 3) 400 tx, aW X (Q 4) 8 wi, aW X (Q 5) 8 gi].flatten) S hAM hH hS nX6_number_X6 tyX6 tyX6_ok nmX6 0 rfl rfl 7 (by decide) mX6_number_1 rfl rfl rfl rfl (Nat.le_of_ble_eq_true rfl) rfl dX6_number_148 (fun H locs hH hS => ?_)
                    refine lv_iload_n S.1 S.2.1 dX6_number_151 rfl (lv_at hl 1 rfl) ?_
                    have e9 : we tx lnn (p + 1) = (p + 1) + n := (by rw [hwe]; exact we_end (by omega))
                    have e8 : we tx lnn (p + 1) - (p + 1) = n := (by omega)
                    exact hret 152 ls _ _ (v) (v.toNat, ((p + 1) + n), 2) dX6_number_152 rfl ⟨(by omega), (by omega), (by rw [num1_fg q2, e8, ← hfg]; first | exact Or.inr (Or.inr ⟨rfl, rfl, (by rw [if_pos (by omega), e9, ← hv]; congr 2; omega), (by omega)⟩) | exact Or.inr (Or.inl ⟨rfl, rfl, if_neg (by omega), (by omega)⟩))⟩ hH hS
            · skip
              refine lv_aload_n S.1 S.2.1 dX6_number_42 rfl (lv_at hl 2 rfl) ?_
              refine zv_get (v := .ref (Q 3)) S hAM hH nX6_number_X6 0 rfl rfl 4 (by decide) mX6_number_4 rfl rfl dX6_number_43 ?_
              refine lv_aload_n S.1 S.2.1 dX6_number_46 rfl (lv_at hl 2 rfl) ?_
              refine zv_get (v := .int (iI ((((p + 1) + n) : Nat) : Int))) S hAM hH nX6_number_X6 0 rfl rfl 6 (by decide) mX6_number_2 rfl rfl dX6_number_47 ?_
              refine zv_iald S hAM hH 4 rfl (((p + 1) + n)) rfl (by omega) (by decide) dX6_number_50 ?_
              refine lv_bipush (v := iI (((59 : Nat) : Int))) S.1 S.2.1 dX6_number_51 (by decide) ?_
              refine zv_icmp_eq (tgt := 127) S dX6_number_53 (by decide) (by have := ht.2 ((p + 1) + n) (by omega); omega) (by decide) (fun c_53 => ?_) (fun c_53 => ?_)
              · skip
                refine lv_aload_n S.1 S.2.1 dX6_number_127 rfl (lv_at hl 2 rfl) ?_
                refine zv_get (v := .int (iI ((0 : Nat) : Int))) S hAM hH nX6_number_X6 0 rfl rfl 7 (by decide) mX6_number_1 rfl rfl dX6_number_128 ?_
                refine zv_if_ne (tgt := 151) S dX6_number_131 (by decide) (by decide) (fun c_131 => ?_) (fun c_131 => ?_)
                · exact (show False by omega).elim
                · skip
                  refine lv_iload_n S.1 S.2.1 dX6_number_134 rfl (lv_at hl 0 rfl) ?_
                  refine lv_i2l (v := lI (((fg : Nat) : Int))) S.1 S.2.1 dX6_number_135 (lI_i (by omega)) ?_
                  refine lv_lconst (v := lI (1)) S.1 S.2.1 dX6_number_136 (by decide) ?_
                  refine lv_ldc2 (v := lI (3)) S.1 S.2.1 S.2.2.2.1 (zv_constL S mX6_number_7 (by decide)) dX6_number_137 ?_
                  refine zc_Si (n := 3) (As := [.long (lI (((fg : Nat) : Int))), .long (lI (1)), .long (lI (3))]) (rest := []) S hAM hA (kX6_in l X ((fg : Nat) : Int) 1 3 (by omega) (by omega) (by omega)) rfl gX6_number_X6_in  (by decide +kernel) ⟨Nat.le_of_ble_eq_true rfl, Nat.le_of_ble_eq_true rfl⟩ hH hS [0, 1, 2, 3, 4, 5, 6] rfl 7 rfl (List.Perm.refl _)  rfl hl.1 rfl (Nat.le_of_ble_eq_true rfl) dX6_number_140 ⟨Nat.le_of_ble_eq_true rfl, Nat.le_of_ble_eq_true rfl⟩ (fun z13 _ H locs hp14 hH hS => ?_)
                  have hH : Hold X A [mO h Q km ((lnn : Nat) : Int) ((((p + 1) + n) : Nat) : Int) ((0 : Nat) : Int), aW X (Q 0) 125 s, aW X (Q 1) 125 rd, aW X (Q 2) 625 kp, aW X (Q 3) 400 tx, aW X (Q 4) 8 wi, aW X (Q 5) 8 gi].flatten H := hH
                  rcases hp14 with ⟨rfl, b_140⟩ | ⟨rfl, b_140⟩
                  · refine zv_top (z := 1) (z2 := ((1 : Nat) : Int)) rfl ?_
                    refine zv_if_ne (tgt := 151) S dX6_number_143 (by decide) (by decide) (fun c_143 => ?_) (fun c_143 => ?_)
                    · skip
                      refine lv_iload_n S.1 S.2.1 dX6_number_151 rfl (lv_at hl 1 rfl) ?_
                      have e9 : we tx lnn (p + 1) = (p + 1) + n := (by rw [hwe]; exact we_end (by omega))
                      have e8 : we tx lnn (p + 1) - (p + 1) = n := (by omega)
                      exact hret 152 ls _ _ (v) (v.toNat, ((p + 1) + n), 0) dX6_number_152 rfl ⟨(by omega), (by omega), (by rw [num1_fg q2, e8, ← hfg]; first | exact Or.inr (Or.inr ⟨rfl, rfl, (by rw [if_pos (by omega), e9, ← hv]; congr 2; omega), (by omega)⟩) | exact Or.inr (Or.inl ⟨rfl, rfl, if_neg (by omega), (by omega)⟩))⟩ hH hS
                    · exact (show False by omega).elim
                  · refine zv_top (z := 0) (z2 := ((0 : Nat) : Int)) rfl ?_
                    refine zv_if_ne (tgt := 151) S dX6_number_143 (by decide) (by decide) (fun c_143 => ?_) (fun c_143 => ?_)
                    · exact (show False by omega).elim
                    · skip
                      refine lv_aload_n S.1 S.2.1 dX6_number_146 rfl (lv_at hl 2 rfl) ?_
                      refine lv_iconst (v := iI (((2 : Nat) : Int))) S.1 S.2.1 dX6_number_147 (by decide) ?_
                      refine zv_put (v := .int (iI ((2 : Nat) : Int))) (w2 := [mO h Q km ((lnn : Nat) : Int) ((((p + 1) + n) : Nat) : Int) ((2 : Nat) : Int), aW X (Q 0) 125 s, aW X (Q 1) 125 rd, aW X (Q 2) 625 kp, aW X (Q 3) 400 tx, aW X (Q 4) 8 wi, aW X (Q 5) 8 gi].flatten) S hAM hH hS nX6_number_X6 tyX6 tyX6_ok nmX6 0 rfl rfl 7 (by decide) mX6_number_1 rfl rfl rfl rfl (Nat.le_of_ble_eq_true rfl) rfl dX6_number_148 (fun H locs hH hS => ?_)
                      refine lv_iload_n S.1 S.2.1 dX6_number_151 rfl (lv_at hl 1 rfl) ?_
                      have e9 : we tx lnn (p + 1) = (p + 1) + n := (by rw [hwe]; exact we_end (by omega))
                      have e8 : we tx lnn (p + 1) - (p + 1) = n := (by omega)
                      exact hret 152 ls _ _ (v) (v.toNat, ((p + 1) + n), 2) dX6_number_152 rfl ⟨(by omega), (by omega), (by rw [num1_fg q2, e8, ← hfg]; first | exact Or.inr (Or.inr ⟨rfl, rfl, (by rw [if_pos (by omega), e9, ← hv]; congr 2; omega), (by omega)⟩) | exact Or.inr (Or.inl ⟨rfl, rfl, if_neg (by omega), (by omega)⟩))⟩ hH hS
              · skip
                have htp := ht.2 ((p + 1) + n) (by omega)
                refine lv_aload_n S.1 S.2.1 dX6_number_56 rfl (lv_at hl 2 rfl) ?_
                refine zv_get (v := .ref (Q 3)) S hAM hH nX6_number_X6 0 rfl rfl 4 (by decide) mX6_number_4 rfl rfl dX6_number_57 ?_
                refine lv_aload_n S.1 S.2.1 dX6_number_60 rfl (lv_at hl 2 rfl) ?_
                refine zv_get (v := .int (iI ((((p + 1) + n) : Nat) : Int))) S hAM hH nX6_number_X6 0 rfl rfl 6 (by decide) mX6_number_2 rfl rfl dX6_number_61 ?_
                refine zv_iald S hAM hH 4 rfl (((p + 1) + n)) rfl (by omega) (by decide) dX6_number_64 ?_
                refine lv_i2l (v := lI (tx ((p + 1) + n))) S.1 S.2.1 dX6_number_65 (lI_i (by have := ht.2 ((p + 1) + n) (by omega); omega)) ?_
                refine lv_ldc2 (v := lI (48)) S.1 S.2.1 S.2.2.2.1 (zv_constL S mX6_number_5 (by decide)) dX6_number_66 ?_
                refine lv_ldc2 (v := lI (57)) S.1 S.2.1 S.2.2.2.1 (zv_constL S mX6_number_6 (by decide)) dX6_number_69 ?_
                refine zc_Si (n := 3) (As := [.long (lI (tx ((p + 1) + n))), .long (lI (48)), .long (lI (57))]) (rest := []) S hAM hA (kX6_in l X (tx ((p + 1) + n)) 48 57 (by omega) (by omega) (by omega)) rfl gX6_number_X6_in  (by decide +kernel) ⟨Nat.le_of_ble_eq_true rfl, Nat.le_of_ble_eq_true rfl⟩ hH hS [0, 1, 2, 3, 4, 5, 6] rfl 7 rfl (List.Perm.refl _)  rfl hl.1 rfl (Nat.le_of_ble_eq_true rfl) dX6_number_72 ⟨Nat.le_of_ble_eq_true rfl, Nat.le_of_ble_eq_true rfl⟩ (fun z16 _ H locs hp17 hH hS => ?_)
                have hH : Hold X A [mO h Q km ((lnn : Nat) : Int) ((((p + 1) + n) : Nat) : Int) ((0 : Nat) : Int), aW X (Q 0) 125 s, aW X (Q 1) 125 rd, aW X (Q 2) 625 kp, aW X (Q 3) 400 tx, aW X (Q 4) 8 wi, aW X (Q 5) 8 gi].flatten H := hH
                rcases hp17 with ⟨rfl, b_72⟩ | ⟨rfl, b_72⟩
                · refine zv_top (z := 1) (z2 := ((1 : Nat) : Int)) rfl ?_
                  refine zv_if_eq (tgt := 84) S dX6_number_75 (by decide) (by decide) (fun c_75 => ?_) (fun c_75 => ?_)
                  · exact (show False by omega).elim
                  · skip
                    refine lv_iload_n S.1 S.2.1 dX6_number_78 rfl (lv_at hl 0 rfl) ?_
                    refine lv_iconst (v := iI (((1 : Nat) : Int))) S.1 S.2.1 dX6_number_79 (by decide) ?_
                    refine zv_iadd (z := (((fg + 1) : Nat) : Int)) S dX6_number_80 (by omega) ?_
                    refine lv_goto (tgt := 86) S.1 S.2.1 dX6_number_81 (by decide) ?_
                    refine lv_istore_n (lv' := [(2, .int (iI (((fg + 1) : Nat) : Int))), (1, .int (iI (v))), (0, .ref (h))]) S.1 S.2.1 dX6_number_86 rfl hl (by decide) rfl (fun ls hl => ?_)
                    refine lv_iload_n S.1 S.2.1 dX6_number_87 rfl (lv_at hl 0 rfl) ?_
                    refine lv_iconst (v := iI (((4 : Nat) : Int))) S.1 S.2.1 dX6_number_88 (by decide) ?_
                    refine zv_icmp_ge (tgt := 112) S dX6_number_89 (by decide) (by omega) (by decide) (fun c_89 => ?_) (fun c_89 => ?_)
                    · skip
                      refine lv_iload_n S.1 S.2.1 dX6_number_112 rfl (lv_at hl 1 rfl) ?_
                      refine lv_istore_n (lv' := [(1, .int (iI (v))), (2, .int (iI (((fg + 1) : Nat) : Int))), (0, .ref (h))]) S.1 S.2.1 dX6_number_113 rfl hl (by decide) rfl (fun ls hl => ?_)
                      refine lv_aload_n S.1 S.2.1 dX6_number_114 rfl (lv_at hl 2 rfl) ?_
                      refine lv_dup S.1 S.2.1 dX6_number_115 rfl ?_
                      refine zv_get (v := .int (iI ((((p + 1) + n) : Nat) : Int))) S hAM hH nX6_number_X6 0 rfl rfl 6 (by decide) mX6_number_2 rfl rfl dX6_number_116 ?_
                      refine lv_iconst (v := iI (((1 : Nat) : Int))) S.1 S.2.1 dX6_number_119 (by decide) ?_
                      refine zv_iadd (z := (((((p + 1) + n) + 1) : Nat) : Int)) S dX6_number_120 (by omega) ?_
                      refine zv_put (v := .int (iI (((((p + 1) + n) + 1) : Nat) : Int))) (w2 := [mO h Q km ((lnn : Nat) : Int) (((((p + 1) + n) + 1) : Nat) : Int) ((0 : Nat) : Int), aW X (Q 0) 125 s, aW X (Q 1) 125 rd, aW X (Q 2) 625 kp, aW X (Q 3) 400 tx, aW X (Q 4) 8 wi, aW X (Q 5) 8 gi].flatten) S hAM hH hS nX6_number_X6 tyX6 tyX6_ok nmX6 0 rfl rfl 6 (by decide) mX6_number_2 rfl rfl rfl rfl (Nat.le_of_ble_eq_true rfl) rfl dX6_number_121 (fun H locs hH hS => ?_)
                      refine lv_goto (tgt := 10) S.1 S.2.1 dX6_number_124 (by decide) ?_
                      exact ih10  (n + 1) (v) ((fg + 1)) (by omega) (by omega) (by rw [hwe]; exact we_go (by omega)) (by rw [fgI]; split <;> first | rfl | (rw [hfg]; done) | (exfalso; omega) | omega) (by rw [vI, fgI]; (repeat' split) <;> first | (rw [hv]; done) | rfl | (exfalso; omega) | omega) _ _ hH hS ls (lv_sub hl [1, 0, 2] rfl)
                    · skip
                      refine lv_bipush (v := iI (((10 : Nat) : Int))) S.1 S.2.1 dX6_number_92 (by decide) ?_
                      refine lv_iload_n S.1 S.2.1 dX6_number_94 rfl (lv_at hl 1 rfl) ?_
                      refine zv_imul (z := (((10 : Nat) : Int) * v)) S dX6_number_95 rfl ?_
                      refine lv_aload_n S.1 S.2.1 dX6_number_96 rfl (lv_at hl 2 rfl) ?_
                      refine zv_get (v := .ref (Q 3)) S hAM hH nX6_number_X6 0 rfl rfl 4 (by decide) mX6_number_4 rfl rfl dX6_number_97 ?_
                      refine lv_aload_n S.1 S.2.1 dX6_number_100 rfl (lv_at hl 2 rfl) ?_
                      refine zv_get (v := .int (iI ((((p + 1) + n) : Nat) : Int))) S hAM hH nX6_number_X6 0 rfl rfl 6 (by decide) mX6_number_2 rfl rfl dX6_number_101 ?_
                      refine zv_iald S hAM hH 4 rfl (((p + 1) + n)) rfl (by omega) (by decide) dX6_number_104 ?_
                      refine zv_iadd (z := ((((10 : Nat) : Int) * v) + tx ((p + 1) + n))) S dX6_number_105 rfl ?_
                      refine lv_bipush (v := iI (((48 : Nat) : Int))) S.1 S.2.1 dX6_number_106 (by decide) ?_
                      refine zv_isub (z := (((((10 : Nat) : Int) * v) + tx ((p + 1) + n)) - ((48 : Nat) : Int))) S dX6_number_108 rfl ?_
                      refine lv_goto (tgt := 113) S.1 S.2.1 dX6_number_109 (by decide) ?_
                      refine lv_istore_n (lv' := [(1, .int (iI ((((((10 : Nat) : Int) * v) + tx ((p + 1) + n)) - ((48 : Nat) : Int))))), (2, .int (iI (((fg + 1) : Nat) : Int))), (0, .ref (h))]) S.1 S.2.1 dX6_number_113 rfl hl (by decide) rfl (fun ls hl => ?_)
                      refine lv_aload_n S.1 S.2.1 dX6_number_114 rfl (lv_at hl 2 rfl) ?_
                      refine lv_dup S.1 S.2.1 dX6_number_115 rfl ?_
                      refine zv_get (v := .int (iI ((((p + 1) + n) : Nat) : Int))) S hAM hH nX6_number_X6 0 rfl rfl 6 (by decide) mX6_number_2 rfl rfl dX6_number_116 ?_
                      refine lv_iconst (v := iI (((1 : Nat) : Int))) S.1 S.2.1 dX6_number_119 (by decide) ?_
                      refine zv_iadd (z := (((((p + 1) + n) + 1) : Nat) : Int)) S dX6_number_120 (by omega) ?_
                      refine zv_put (v := .int (iI (((((p + 1) + n) + 1) : Nat) : Int))) (w2 := [mO h Q km ((lnn : Nat) : Int) (((((p + 1) + n) + 1) : Nat) : Int) ((0 : Nat) : Int), aW X (Q 0) 125 s, aW X (Q 1) 125 rd, aW X (Q 2) 625 kp, aW X (Q 3) 400 tx, aW X (Q 4) 8 wi, aW X (Q 5) 8 gi].flatten) S hAM hH hS nX6_number_X6 tyX6 tyX6_ok nmX6 0 rfl rfl 6 (by decide) mX6_number_2 rfl rfl rfl rfl (Nat.le_of_ble_eq_true rfl) rfl dX6_number_121 (fun H locs hH hS => ?_)
                      refine lv_goto (tgt := 10) S.1 S.2.1 dX6_number_124 (by decide) ?_
                      exact ih10  (n + 1) ((((((10 : Nat) : Int) * v) + tx ((p + 1) + n)) - ((48 : Nat) : Int))) ((fg + 1)) (by omega) (by omega) (by rw [hwe]; exact we_go (by omega)) (by rw [fgI]; split <;> first | rfl | (rw [hfg]; done) | (exfalso; omega) | omega) (by rw [vI, fgI]; (repeat' split) <;> first | (rw [hv]; done) | rfl | (exfalso; omega) | omega) _ _ hH hS ls (lv_sub hl [1, 0, 2] rfl)
                · refine zv_top (z := 0) (z2 := ((0 : Nat) : Int)) rfl ?_
                  refine zv_if_eq (tgt := 84) S dX6_number_75 (by decide) (by decide) (fun c_75 => ?_) (fun c_75 => ?_)
                  · skip
                    refine lv_bipush (v := iI (((9 : Nat) : Int))) S.1 S.2.1 dX6_number_84 (by decide) ?_
                    refine lv_istore_n (lv' := [(2, .int (iI ((9 : Nat) : Int))), (1, .int (iI (v))), (0, .ref (h))]) S.1 S.2.1 dX6_number_86 rfl hl (by decide) rfl (fun ls hl => ?_)
                    refine lv_iload_n S.1 S.2.1 dX6_number_87 rfl (lv_at hl 0 rfl) ?_
                    refine lv_iconst (v := iI (((4 : Nat) : Int))) S.1 S.2.1 dX6_number_88 (by decide) ?_
                    refine zv_icmp_ge (tgt := 112) S dX6_number_89 (by decide) (by decide) (by decide) (fun c_89 => ?_) (fun c_89 => ?_)
                    · skip
                      refine lv_iload_n S.1 S.2.1 dX6_number_112 rfl (lv_at hl 1 rfl) ?_
                      refine lv_istore_n (lv' := [(1, .int (iI (v))), (2, .int (iI ((9 : Nat) : Int))), (0, .ref (h))]) S.1 S.2.1 dX6_number_113 rfl hl (by decide) rfl (fun ls hl => ?_)
                      refine lv_aload_n S.1 S.2.1 dX6_number_114 rfl (lv_at hl 2 rfl) ?_
                      refine lv_dup S.1 S.2.1 dX6_number_115 rfl ?_
                      refine zv_get (v := .int (iI ((((p + 1) + n) : Nat) : Int))) S hAM hH nX6_number_X6 0 rfl rfl 6 (by decide) mX6_number_2 rfl rfl dX6_number_116 ?_
                      refine lv_iconst (v := iI (((1 : Nat) : Int))) S.1 S.2.1 dX6_number_119 (by decide) ?_
                      refine zv_iadd (z := (((((p + 1) + n) + 1) : Nat) : Int)) S dX6_number_120 (by omega) ?_
                      refine zv_put (v := .int (iI (((((p + 1) + n) + 1) : Nat) : Int))) (w2 := [mO h Q km ((lnn : Nat) : Int) (((((p + 1) + n) + 1) : Nat) : Int) ((0 : Nat) : Int), aW X (Q 0) 125 s, aW X (Q 1) 125 rd, aW X (Q 2) 625 kp, aW X (Q 3) 400 tx, aW X (Q 4) 8 wi, aW X (Q 5) 8 gi].flatten) S hAM hH hS nX6_number_X6 tyX6 tyX6_ok nmX6 0 rfl rfl 6 (by decide) mX6_number_2 rfl rfl rfl rfl (Nat.le_of_ble_eq_true rfl) rfl dX6_number_121 (fun H locs hH hS => ?_)
                      refine lv_goto (tgt := 10) S.1 S.2.1 dX6_number_124 (by decide) ?_
                      exact ih10  (n + 1) (v) (9) (by omega) (by omega) (by rw [hwe]; exact we_go (by omega)) (by rw [fgI]; split <;> first | rfl | (rw [hfg]; done) | (exfalso; omega) | omega) (by rw [vI, fgI]; (repeat' split) <;> first | (rw [hv]; done) | rfl | (exfalso; omega) | omega) _ _ hH hS ls (lv_sub hl [1, 0, 2] rfl)
                    · exact (show False by omega).elim
                  · exact (show False by omega).elim
    exact lp10 (lnn - ((p + 1) + (0)) + 1) (0) (((0 : Nat) : Int)) (0) (Nat.lt_succ_self _) (by omega) rfl rfl rfl _ _ hH hS ls (lv_sub hl [0, 1, 2] rfl)
  · skip
    refine lv_iconst (v := iI (((0 : Nat) : Int))) S.1 S.2.1 dX6_number_6 (by decide) ?_
    refine lv_istore_n (lv' := [(1, .int (iI ((0 : Nat) : Int))), (0, .ref (h))]) S.1 S.2.1 dX6_number_7 rfl hl (by decide) rfl (fun ls hl => ?_)
    refine lv_iconst (v := iI (((0 : Nat) : Int))) S.1 S.2.1 dX6_number_8 (by decide) ?_
    refine lv_istore_n (lv' := [(2, .int (iI ((0 : Nat) : Int))), (1, .int (iI ((0 : Nat) : Int))), (0, .ref (h))]) S.1 S.2.1 dX6_number_9 rfl hl (by decide) rfl (fun ls hl => ?_)
    have lp10 : ∀ (fu_ : Nat) (n : Nat), n < fu_ → ∀ (H : Heap) (locs : List Loc), Hold X A [mO h Q km ((lnn : Nat) : Int) (((p + 1) : Nat) : Int) ((2 : Nat) : Int), aW X (Q 0) 125 s, aW X (Q 1) 125 rd, aW X (Q 2) 625 kp, aW X (Q 3) 400 tx, aW X (Q 4) 8 wi, aW X (Q 5) 8 gi].flatten H → va_S A s_.heap H locs → ∀ ls : Array Slot, lv_has ls 3 [(2, .int (iI ((0 : Nat) : Int))), (1, .int (iI ((0 : Nat) : Int))), (0, .ref (h))] → W p_ l e_ (rmD 3) s_ m_ (List.toArray [.ref (h)]) below meth c_ H locs 0 0 Q_ (F0 m_ 10 ls []) := by
      intro fu_
      induction fu_ with
      | zero => intro n hmu  H locs hH hS ls hl; exact absurd hmu (Nat.not_lt_zero _)
      | succ fu_ ih10 => 
        intro n hmu  H locs hH hS ls hl
        refine lv_aload_n S.1 S.2.1 dX6_number_10 rfl (lv_at hl 2 rfl) ?_
        refine zv_get (v := .int (iI ((2 : Nat) : Int))) S hAM hH nX6_number_X6 0 rfl rfl 7 (by decide) mX6_number_1 rfl rfl dX6_number_11 ?_
        refine zv_if_ne (tgt := 127) S dX6_number_14 (by decide) (by decide) (fun c_14 => ?_) (fun c_14 => ?_)
        · skip
          refine lv_aload_n S.1 S.2.1 dX6_number_127 rfl (lv_at hl 2 rfl) ?_
          refine zv_get (v := .int (iI ((2 : Nat) : Int))) S hAM hH nX6_number_X6 0 rfl rfl 7 (by decide) mX6_number_1 rfl rfl dX6_number_128 ?_
          refine zv_if_ne (tgt := 151) S dX6_number_131 (by decide) (by decide) (fun c_131 => ?_) (fun c_131 => ?_)
          · skip
            refine lv_iload_n S.1 S.2.1 dX6_number_151 rfl (lv_at hl 1 rfl) ?_
            exact hret 152 ls _ _ (((0 : Nat) : Int)) (0, (p + 1), 2) dX6_number_152 rfl ⟨rfl, (by omega), Or.inr (Or.inl ⟨rfl, rfl, (if_neg (fun z => q2 z.1)), (by omega)⟩)⟩ hH hS
          · exact (show False by omega).elim
        · exact (show False by omega).elim
    exact lp10 ((0) + 1) (0) (Nat.lt_succ_self _)  _ _ hH hS ls (lv_sub hl [0, 1, 2] rfl)
