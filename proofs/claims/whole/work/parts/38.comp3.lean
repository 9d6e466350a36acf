theorem mX3_put_1 : Cond.fieldLink RX3 19 "RoleDoublingPlanner$PlayText" "length" "I" ∈ wsX3_put := List.mem_of_getElem? (i := 1) rfl
theorem nX3_put_X3 : ∀ w ∈ wsX30, w ∈ wsX3_put := fun _ h => List.mem_cons_of_mem _ (List.mem_append_right _ h)
theorem mX3_put_2 : Cond.fieldLink RX3 9 "RoleDoublingPlanner$PlayText" "signs" "[C" ∈ wsX3_put := List.mem_of_getElem? (i := 2) rfl
set_option maxHeartbeats 4000000 in
set_option maxRecDepth 100000 in
theorem kX3_put (l : Launch) (X : XT) (qt : Nat) (Qt : Nat → Nat) (lnn : Nat) (ss : Int) (rs : Int) (p : Nat) (w : Nat) (tx : Nat → Int) (c : Nat) (hln : lnn < 400) (hc : c < 128) : Cv l yX3_put wsX3_put (rmD 1) X [.ref qt, .int (iI ((c : Nat) : Int))] [toW qt Qt ((lnn : Nat) : Int) ss rs ((p : Nat) : Int) ((w : Nat) : Int), cW X (Qt 0) 400 tx] (fun (_ : Unit) => True) (fun (_ : Unit) => [toW qt Qt ((lnn + 1 : Nat) : Int) ss rs ((p : Nat) : Int) ((w : Nat) : Int), cW X (Qt 0) 400 (uI tx lnn ((c : Nat) : Int))]) := by
  refine Cv.ofW (cc := cX3_put) (maxL := 2) (by decide) rfl (Nat.le_of_ble_eq_true rfl) ?_
  intro p_ e_ s_ m_ below meth c_ A Q_ S hA hAM hH hS hmn hret ls hl
  have hl : lv_has ls 2 [(0, .ref (qt)), (1, .int (iI ((c : Nat) : Int)))] := hl
  refine lv_aload_n S.1 S.2.1 dX3_put_0 rfl (lv_at hl 0 rfl) ?_
  refine zv_get (v := .int (iI ((lnn : Nat) : Int))) S hAM hH nX3_put_X3 0 rfl rfl 1 (by decide) mX3_put_1 rfl rfl dX3_put_1 ?_
  refine lv_sipush (v := iI (((400 : Nat) : Int))) S.1 S.2.1 dX3_put_4 (by decide) ?_
  refine zv_icmp_ge (tgt := 30) S dX3_put_7 (by decide) (by omega) (by decide) (fun c_7 => ?_) (fun c_7 => ?_)
  · exact (show False by omega).elim
  · skip
    refine lv_aload_n S.1 S.2.1 dX3_put_10 rfl (lv_at hl 0 rfl) ?_
    refine zv_get (v := .ref (Qt 0)) S hAM hH nX3_put_X3 0 rfl rfl 0 (by decide) mX3_put_2 rfl rfl dX3_put_11 ?_
    refine lv_aload_n S.1 S.2.1 dX3_put_14 rfl (lv_at hl 0 rfl) ?_
    refine zv_get (v := .int (iI ((lnn : Nat) : Int))) S hAM hH nX3_put_X3 0 rfl rfl 1 (by decide) mX3_put_1 rfl rfl dX3_put_15 ?_
    refine lv_iload_n S.1 S.2.1 dX3_put_18 rfl (lv_at hl 1 rfl) ?_
    refine zv_cast (z := c) (w2 := [toW qt Qt ((lnn : Nat) : Int) ss rs ((p : Nat) : Int) ((w : Nat) : Int), cW X (Qt 0) 400 (uI tx lnn (((c : Nat) : Int)))].flatten) S hAM hH hS 1 rfl (lnn) rfl (by omega) (by decide) (by omega) rfl dX3_put_19 (fun H locs hH hS => ?_)
    refine lv_aload_n S.1 S.2.1 dX3_put_20 rfl (lv_at hl 0 rfl) ?_
    refine lv_dup S.1 S.2.1 dX3_put_21 rfl ?_
    refine zv_get (v := .int (iI ((lnn : Nat) : Int))) S hAM hH nX3_put_X3 0 rfl rfl 1 (by decide) mX3_put_1 rfl rfl dX3_put_22 ?_
    refine lv_iconst (v := iI (((1 : Nat) : Int))) S.1 S.2.1 dX3_put_25 (by decide) ?_
    refine zv_iadd (z := (((lnn + 1) : Nat) : Int)) S dX3_put_26 (by omega) ?_
    refine zv_put (v := .int (iI (((lnn + 1) : Nat) : Int))) (w2 := [toW qt Qt (((lnn + 1) : Nat) : Int) ss rs ((p : Nat) : Int) ((w : Nat) : Int), cW X (Qt 0) 400 (uI tx lnn (((c : Nat) : Int)))].flatten) S hAM hH hS nX3_put_X3 tyX3 tyX3_ok nmX3 0 rfl rfl 1 (by decide) mX3_put_1 rfl rfl rfl rfl (Nat.le_of_ble_eq_true rfl) rfl dX3_put_27 (fun H locs hH hS => ?_)
    exact hret 30 ls _ _ () dX3_put_30 trivial hH hS

set_option maxHeartbeats 4000000 in
set_option maxRecDepth 100000 in
theorem kX3_putAll (l : Launch) (X : XT) (qt : Nat) (Qt : Nat → Nat) (lnn : Nat) (ss : Int) (rs : Int) (p : Nat) (w : Nat) (tx : Nat → Int) (i : Nat) (hi : i < 11) (hln : lnn + lnJ i ≤ 400) : Cv l yX3_putAll wsX3_putAll (rmD 5) X [.ref qt, .ref (X.2.2.1 i)] [toW qt Qt ((lnn : Nat) : Int) ss rs ((p : Nat) : Int) ((w : Nat) : Int), cW X (Qt 0) 400 tx] (fun (_ : Unit) => True) (fun (_ : Unit) => [toW qt Qt ((lnn + lnJ i : Nat) : Int) ss rs ((p : Nat) : Int) ((w : Nat) : Int), cW X (Qt 0) 400 (ptF tx lnn i (lnJ i))]) := by
  refine Cv.ofW (cc := cX3_putAll) (maxL := 3) (by decide) rfl (Nat.le_of_ble_eq_true rfl) ?_
  intro p_ e_ s_ m_ below meth c_ A Q_ S hA hAM hH hS hmn hret ls hl
  have hl : lv_has ls 3 [(0, .ref (qt)), (1, .ref (X.2.2.1 i))] := hl
  have hJ := lnJ_ok i hi
  refine lv_iconst (v := iI (((0 : Nat) : Int))) S.1 S.2.1 dX3_putAll_0 (by decide) ?_
  refine lv_istore_n (lv' := [(2, .int (iI ((0 : Nat) : Int))), (0, .ref (qt)), (1, .ref (X.2.2.1 i))]) S.1 S.2.1 dX3_putAll_1 rfl hl (by decide) rfl (fun ls hl => ?_)
  have lp2 : ∀ (fu_ : Nat) (k : Nat), lnJ i - k < fu_ → (k ≤ lnJ i) → ∀ (H : Heap) (locs : List Loc), Hold X A [toW qt Qt ((lnn + k : Nat) : Int) ss rs ((p : Nat) : Int) ((w : Nat) : Int), cW X (Qt 0) 400 (ptF tx lnn i k)].flatten H → va_S A s_.heap H locs → ∀ ls : Array Slot, lv_has ls 3 [(2, .int (iI ((k : Nat) : Int))), (0, .ref (qt)), (1, .ref (X.2.2.1 i))] → W p_ l e_ (rmD 5) s_ m_ (List.toArray [.ref (qt), .ref (X.2.2.1 i)]) below meth c_ H locs 0 0 Q_ (F0 m_ 2 ls []) := by
    intro fu_
    induction fu_ with
    | zero => intro k hmu hk H locs hH hS ls hl; exact absurd hmu (Nat.not_lt_zero _)
    | succ fu_ ih2 => 
      intro k hmu hk H locs hH hS ls hl
      refine lv_iload_n S.1 S.2.1 dX3_putAll_2 rfl (lv_at hl 0 rfl) ?_
      refine lv_aload_n S.1 S.2.1 dX3_putAll_3 rfl (lv_at hl 2 rfl) ?_
      refine zc_Ti (n := 0) (As := []) (rest := [.int (iI ((k : Nat) : Int))]) S hAM hA (kS_length l X i hi) rfl gX3_putAll_J0_length_8abf5 (by decide +kernel) ⟨Nat.le_of_ble_eq_true rfl, Nat.le_of_ble_eq_true rfl⟩ hH hS [0, 1] rfl 2 rfl (List.Perm.refl _) (vk_recv hAM.2.2.1 hi hS) rfl hl.1 rfl (Nat.le_of_ble_eq_true rfl) dX3_putAll_4 ⟨Nat.le_of_ble_eq_true rfl, Nat.le_of_ble_eq_true rfl⟩ (fun z2 _ H locs hp1 hH hS => ?_)
      have hH : Hold X A [toW qt Qt ((lnn + k : Nat) : Int) ss rs ((p : Nat) : Int) ((w : Nat) : Int), cW X (Qt 0) 400 (ptF tx lnn i k)].flatten H := hH
      obtain rfl := hp1
      refine zv_icmp_ge (tgt := 25) S dX3_putAll_7 (by decide) (by omega) (by omega) (fun c_7 => ?_) (fun c_7 => ?_)
      · skip
        obtain rfl : k = lnJ i := by omega
        exact hret 25 ls _ _ () dX3_putAll_25 trivial hH hS
      · skip
        refine lv_aload_n S.1 S.2.1 dX3_putAll_10 rfl (lv_at hl 1 rfl) ?_
        refine lv_aload_n S.1 S.2.1 dX3_putAll_11 rfl (lv_at hl 2 rfl) ?_
        refine lv_iload_n S.1 S.2.1 dX3_putAll_12 rfl (lv_at hl 0 rfl) ?_
        refine zc_Ti (n := 1) (As := [.int (iI ((k : Nat) : Int))]) (rest := [.ref (qt)]) S hAM hA (kS_charAt l X i k hi (by omega)) rfl gX3_putAll_J0_charAt_5068e (by decide +kernel) ⟨Nat.le_of_ble_eq_true rfl, Nat.le_of_ble_eq_true rfl⟩ hH hS [0, 1] rfl 2 rfl (List.Perm.refl _) (vk_recv hAM.2.2.1 hi hS) rfl hl.1 rfl (Nat.le_of_ble_eq_true rfl) dX3_putAll_13 ⟨Nat.le_of_ble_eq_true rfl, Nat.le_of_ble_eq_true rfl⟩ (fun z4 _ H locs hp3 hH hS => ?_)
        have hH : Hold X A [toW qt Qt ((lnn + k : Nat) : Int) ss rs ((p : Nat) : Int) ((w : Nat) : Int), cW X (Qt 0) 400 (ptF tx lnn i k)].flatten H := hH
        obtain rfl := hp3
        refine zc_Vv (n := 1) (As := [.int (iI ((chJ i k : Nat) : Int))]) (rest := []) S hAM hA (kX3_put l X qt Qt (lnn + k) ss rs p w (ptF tx lnn i k) (chJ i k) (by omega) (by have := chJ_ok i hi k (by omega); omega)) rfl gX3_putAll_X3_put  (by decide +kernel) ⟨Nat.le_of_ble_eq_true rfl, Nat.le_of_ble_eq_true rfl⟩ hH hS [0, 1] rfl 2 rfl (List.Perm.refl _) 3 0 rfl rfl rfl hl.1 rfl (Nat.le_of_ble_eq_true rfl) dX3_putAll_16 ⟨Nat.le_of_ble_eq_true rfl, Nat.le_of_ble_eq_true rfl⟩ (fun _ H locs hp7 hH hS => ?_)
        have hH : Hold X A [toW qt Qt (((lnn + k) + 1 : Nat) : Int) ss rs ((p : Nat) : Int) ((w : Nat) : Int), cW X (Qt 0) 400 (uI (ptF tx lnn i k) (lnn + k) (((chJ i k) : Nat) : Int))].flatten H := hH
        refine zv_iinc (z := (((k + 1) : Nat) : Int)) (lv' := [(2, .int (iI (((k + 1) : Nat) : Int))), (0, .ref (qt)), (1, .ref (X.2.2.1 i))]) S dX3_putAll_19 hl (k := 0) rfl (by omega) (by decide) rfl (fun ls hl => ?_)
        refine lv_goto (tgt := 2) S.1 S.2.1 dX3_putAll_22 (by decide) ?_
        exact ih2  ((k + 1)) (by omega) (by omega) _ _ hH hS ls (lv_sub hl [0, 1, 2] rfl)
  exact lp2 (lnJ i - (0) + 1) (0) (Nat.lt_succ_self _) (Nat.zero_le _) _ _ hH hS ls (lv_sub hl [0, 1, 2] rfl)

theorem mX3_readSign_1 : Cond.fieldLink RX3 41 "RoleDoublingPlanner$PlayText" "place" "I" ∈ wsX3_readSign := List.mem_of_getElem? (i := 1) rfl
theorem nX3_readSign_X3 : ∀ w ∈ wsX30, w ∈ wsX3_readSign := fun _ h => List.mem_cons_of_mem _ (List.mem_append_right _ h)
theorem mX3_readSign_2 : Cond.fieldLink RX3 19 "RoleDoublingPlanner$PlayText" "length" "I" ∈ wsX3_readSign := List.mem_of_getElem? (i := 2) rfl
theorem mX3_readSign_3 : Cond.fieldLink RX3 9 "RoleDoublingPlanner$PlayText" "signs" "[C" ∈ wsX3_readSign := List.mem_of_getElem? (i := 3) rfl
set_option maxHeartbeats 4000000 in
set_option maxRecDepth 100000 in
theorem kX3_readSign (l : Launch) (X : XT) (qt : Nat) (Qt : Nat → Nat) (lnn : Nat) (ss : Int) (rs : Int) (p : Nat) (w : Nat) (tx : Nat → Int) (c : Nat) (ht : okT tx lnn) (hp : p ≤ lnn) (hc : c < 128) : Ci l yX3_readSign wsX3_readSign (rmD 1) X [.ref qt, .int (iI ((c : Nat) : Int))] [toW qt Qt ((lnn : Nat) : Int) ss rs ((p : Nat) : Int) ((w : Nat) : Int), cW X (Qt 0) 400 tx] (fun (z : Int) (sj : Nat) => (z = 1 ∧ ((p < lnn ∧ tx p = ((c : Nat) : Int)) ∧ sj = p + 1)) ∨ (z = 0 ∧ (¬ (p < lnn ∧ tx p = ((c : Nat) : Int)) ∧ p = sj))) (fun (sj : Nat) => [toW qt Qt ((lnn : Nat) : Int) ss rs ((sj : Nat) : Int) ((w : Nat) : Int), cW X (Qt 0) 400 tx]) := by
  refine Ci.ofW (cc := cX3_readSign) (maxL := 2) (by decide) rfl (Nat.le_of_ble_eq_true rfl) ?_
  intro p_ e_ s_ m_ below meth c_ A Q_ S hA hAM hH hS hret ls hl
  have hl : lv_has ls 2 [(0, .ref (qt)), (1, .int (iI ((c : Nat) : Int)))] := hl
  have hL := ht.1
  refine lv_aload_n S.1 S.2.1 dX3_readSign_0 rfl (lv_at hl 0 rfl) ?_
  refine zv_get (v := .int (iI ((p : Nat) : Int))) S hAM hH nX3_readSign_X3 0 rfl rfl 4 (by decide) mX3_readSign_1 rfl rfl dX3_readSign_1 ?_
  refine lv_aload_n S.1 S.2.1 dX3_readSign_4 rfl (lv_at hl 0 rfl) ?_
  refine zv_get (v := .int (iI ((lnn : Nat) : Int))) S hAM hH nX3_readSign_X3 0 rfl rfl 1 (by decide) mX3_readSign_2 rfl rfl dX3_readSign_5 ?_
  refine zv_icmp_ge (tgt := 24) S dX3_readSign_8 (by decide) (by omega) (by omega) (fun c_8 => ?_) (fun c_8 => ?_)
  · skip
    refine lv_iconst (v := iI (((0 : Nat) : Int))) S.1 S.2.1 dX3_readSign_24 (by decide) ?_
    exact hret 25 ls _ _ (((0 : Nat) : Int)) (p) dX3_readSign_25 rfl (by first | exact Or.inl ⟨rfl, by omega⟩ | exact Or.inr ⟨rfl, by omega⟩) hH hS
  · skip
    refine lv_aload_n S.1 S.2.1 dX3_readSign_11 rfl (lv_at hl 0 rfl) ?_
    refine zv_get (v := .ref (Qt 0)) S hAM hH nX3_readSign_X3 0 rfl rfl 0 (by decide) mX3_readSign_3 rfl rfl dX3_readSign_12 ?_
    refine lv_aload_n S.1 S.2.1 dX3_readSign_15 rfl (lv_at hl 0 rfl) ?_
    refine zv_get (v := .int (iI ((p : Nat) : Int))) S hAM hH nX3_readSign_X3 0 rfl rfl 4 (by decide) mX3_readSign_1 rfl rfl dX3_readSign_16 ?_
    refine zv_cald S hAM hH 1 rfl (p) rfl (by omega) (by decide) dX3_readSign_19 ?_
    refine lv_iload_n S.1 S.2.1 dX3_readSign_20 rfl (lv_at hl 1 rfl) ?_
    refine zv_icmp_eq (tgt := 26) S dX3_readSign_21 (by decide) (by have := ht.2 p (by omega); omega) (by omega) (fun c_21 => ?_) (fun c_21 => ?_)
    · skip
      refine lv_aload_n S.1 S.2.1 dX3_readSign_26 rfl (lv_at hl 0 rfl) ?_
      refine lv_dup S.1 S.2.1 dX3_readSign_27 rfl ?_
      refine zv_get (v := .int (iI ((p : Nat) : Int))) S hAM hH nX3_readSign_X3 0 rfl rfl 4 (by decide) mX3_readSign_1 rfl rfl dX3_readSign_28 ?_
      refine lv_iconst (v := iI (((1 : Nat) : Int))) S.1 S.2.1 dX3_readSign_31 (by decide) ?_
      refine zv_iadd (z := (((p + 1) : Nat) : Int)) S dX3_readSign_32 (by omega) ?_
      refine zv_put (v := .int (iI (((p + 1) : Nat) : Int))) (w2 := [toW qt Qt ((lnn : Nat) : Int) ss rs (((p + 1) : Nat) : Int) ((w : Nat) : Int), cW X (Qt 0) 400 tx].flatten) S hAM hH hS nX3_readSign_X3 tyX3 tyX3_ok nmX3 0 rfl rfl 4 (by decide) mX3_readSign_1 rfl rfl rfl rfl (Nat.le_of_ble_eq_true rfl) rfl dX3_readSign_33 (fun H locs hH hS => ?_)
      refine lv_iconst (v := iI (((1 : Nat) : Int))) S.1 S.2.1 dX3_readSign_36 (by decide) ?_
      exact hret 37 ls _ _ (((1 : Nat) : Int)) ((p + 1)) dX3_readSign_37 rfl (by first | exact Or.inl ⟨rfl, by omega⟩ | exact Or.inr ⟨rfl, by omega⟩) hH hS
    · skip
      refine lv_iconst (v := iI (((0 : Nat) : Int))) S.1 S.2.1 dX3_readSign_24 (by decide) ?_
      exact hret 25 ls _ _ (((0 : Nat) : Int)) (p) dX3_readSign_25 rfl (by first | exact Or.inl ⟨rfl, by omega⟩ | exact Or.inr ⟨rfl, by omega⟩) hH hS

theorem mX3_readWord_1 : Cond.fieldLink RX3 41 "RoleDoublingPlanner$PlayText" "place" "I" ∈ wsX3_readWord := List.mem_of_getElem? (i := 1) rfl
theorem nX3_readWord_X3 : ∀ w ∈ wsX30, w ∈ wsX3_readWord := fun _ h => List.mem_cons_of_mem _ (List.mem_append_right _ h)
theorem mX3_readWord_2 : Cond.fieldLink RX3 102 "RoleDoublingPlanner$PlayText" "wordStart" "I" ∈ wsX3_readWord := List.mem_of_getElem? (i := 2) rfl
theorem mX3_readWord_3 : Cond.fieldLink RX3 19 "RoleDoublingPlanner$PlayText" "length" "I" ∈ wsX3_readWord := List.mem_of_getElem? (i := 3) rfl
theorem mX3_readWord_4 : Cond.fieldLink RX3 9 "RoleDoublingPlanner$PlayText" "signs" "[C" ∈ wsX3_readWord := List.mem_of_getElem? (i := 4) rfl
set_option maxHeartbeats 4000000 in
set_option maxRecDepth 100000 in
theorem kX3_readWord (l : Launch) (X : XT) (qt : Nat) (Qt : Nat → Nat) (lnn : Nat) (ss : Int) (rs : Int) (p : Nat) (w : Nat) (tx : Nat → Int) (ht : okT tx lnn) (hp : p ≤ lnn) : Cv l yX3_readWord wsX3_readWord (rmD 1) X [.ref qt] [toW qt Qt ((lnn : Nat) : Int) ss rs ((p : Nat) : Int) ((w : Nat) : Int), cW X (Qt 0) 400 tx] (fun (_ : Unit) => True) (fun (_ : Unit) => [toW qt Qt ((lnn : Nat) : Int) ss rs ((we tx lnn p : Nat) : Int) ((p : Nat) : Int), cW X (Qt 0) 400 tx]) := by
  refine Cv.ofW (cc := cX3_readWord) (maxL := 1) (by decide) rfl (Nat.le_of_ble_eq_true rfl) ?_
  intro p_ e_ s_ m_ below meth c_ A Q_ S hA hAM hH hS hmn hret ls hl
  have hl : lv_has ls 1 [(0, .ref (qt))] := hl
  have hL := ht.1
  refine lv_aload_n S.1 S.2.1 dX3_readWord_0 rfl (lv_at hl 0 rfl) ?_
  refine lv_aload_n S.1 S.2.1 dX3_readWord_1 rfl (lv_at hl 0 rfl) ?_
  refine zv_get (v := .int (iI ((p : Nat) : Int))) S hAM hH nX3_readWord_X3 0 rfl rfl 4 (by decide) mX3_readWord_1 rfl rfl dX3_readWord_2 ?_
  refine zv_put (v := .int (iI ((p : Nat) : Int))) (w2 := [toW qt Qt ((lnn : Nat) : Int) ss rs ((p : Nat) : Int) ((p : Nat) : Int), cW X (Qt 0) 400 tx].flatten) S hAM hH hS nX3_readWord_X3 tyX3 tyX3_ok nmX3 0 rfl rfl 5 (by decide) mX3_readWord_2 rfl rfl rfl rfl (Nat.le_of_ble_eq_true rfl) rfl dX3_readWord_5 (fun H locs hH hS => ?_)
  have lp8 : ∀ (fu_ : Nat) (p1 : Nat), lnn - p1 < fu_ → (p1 ≤ lnn) → (we tx lnn p = we tx lnn p1) → ∀ (H : Heap) (locs : List Loc), Hold X A [toW qt Qt ((lnn : Nat) : Int) ss rs ((p1 : Nat) : Int) ((p : Nat) : Int), cW X (Qt 0) 400 tx].flatten H → va_S A s_.heap H locs → ∀ ls : Array Slot, lv_has ls 1 [(0, .ref (qt))] → W p_ l e_ (rmD 1) s_ m_ (List.toArray [.ref (qt)]) below meth c_ H locs 0 0 Q_ (F0 m_ 8 ls []) := by
    intro fu_
    induction fu_ with
    | zero => intro p1 hmu hp1 hwe H locs hH hS ls hl; exact absurd hmu (Nat.not_lt_zero _)
    | succ fu_ ih8 => 
      intro p1 hmu hp1 hwe H locs hH hS ls hl
      refine lv_aload_n S.1 S.2.1 dX3_readWord_8 rfl (lv_at hl 0 rfl) ?_
      refine zv_get (v := .int (iI ((p1 : Nat) : Int))) S hAM hH nX3_readWord_X3 0 rfl rfl 4 (by decide) mX3_readWord_1 rfl rfl dX3_readWord_9 ?_
      refine lv_aload_n S.1 S.2.1 dX3_readWord_12 rfl (lv_at hl 0 rfl) ?_
      refine zv_get (v := .int (iI ((lnn : Nat) : Int))) S hAM hH nX3_readWord_X3 0 rfl rfl 1 (by decide) mX3_readWord_3 rfl rfl dX3_readWord_13 ?_
      refine zv_icmp_ge (tgt := 60) S dX3_readWord_16 (by decide) (by omega) (by omega) (fun c_16 => ?_) (fun c_16 => ?_)
      · skip
        rw [show we tx lnn p = p1 from by rw [hwe]; exact we_end (by omega)] at hret
        exact hret 60 ls _ _ () dX3_readWord_60 trivial hH hS
      · skip
        refine lv_aload_n S.1 S.2.1 dX3_readWord_19 rfl (lv_at hl 0 rfl) ?_
        refine zv_get (v := .ref (Qt 0)) S hAM hH nX3_readWord_X3 0 rfl rfl 0 (by decide) mX3_readWord_4 rfl rfl dX3_readWord_20 ?_
        refine lv_aload_n S.1 S.2.1 dX3_readWord_23 rfl (lv_at hl 0 rfl) ?_
        refine zv_get (v := .int (iI ((p1 : Nat) : Int))) S hAM hH nX3_readWord_X3 0 rfl rfl 4 (by decide) mX3_readWord_1 rfl rfl dX3_readWord_24 ?_
        refine zv_cald S hAM hH 1 rfl (p1) rfl (by omega) (by decide) dX3_readWord_27 ?_
        refine lv_bipush (v := iI (((32 : Nat) : Int))) S.1 S.2.1 dX3_readWord_28 (by decide) ?_
        refine zv_icmp_eq (tgt := 60) S dX3_readWord_30 (by decide) (by have := ht.2 p1 (by omega); omega) (by decide) (fun c_30 => ?_) (fun c_30 => ?_)
        · skip
          rw [show we tx lnn p = p1 from by rw [hwe]; exact we_end (by omega)] at hret
          exact hret 60 ls _ _ () dX3_readWord_60 trivial hH hS
        · skip
          refine lv_aload_n S.1 S.2.1 dX3_readWord_33 rfl (lv_at hl 0 rfl) ?_
          refine zv_get (v := .ref (Qt 0)) S hAM hH nX3_readWord_X3 0 rfl rfl 0 (by decide) mX3_readWord_4 rfl rfl dX3_readWord_34 ?_
          refine lv_aload_n S.1 S.2.1 dX3_readWord_37 rfl (lv_at hl 0 rfl) ?_
          refine zv_get (v := .int (iI ((p1 : Nat) : Int))) S hAM hH nX3_readWord_X3 0 rfl rfl 4 (by decide) mX3_readWord_1 rfl rfl dX3_readWord_38 ?_
          refine zv_cald S hAM hH 1 rfl (p1) rfl (by omega) (by decide) dX3_readWord_41 ?_
          refine lv_bipush (v := iI (((59 : Nat) : Int))) S.1 S.2.1 dX3_readWord_42 (by decide) ?_
          refine zv_icmp_eq (tgt := 60) S dX3_readWord_44 (by decide) (by have := ht.2 p1 (by omega); omega) (by decide) (fun c_44 => ?_) (fun c_44 => ?_)
          · skip
            rw [show we tx lnn p = p1 from by rw [hwe]; exact we_end (by omega)] at hret
            exact hret 60 ls _ _ () dX3_readWord_60 trivial hH hS
          · skip
            refine lv_aload_n S.1 S.2.1 dX3_readWord_47 rfl (lv_at hl 0 rfl) ?_
            refine lv_dup S.1 S.2.1 dX3_readWord_48 rfl ?_
            refine zv_get (v := .int (iI ((p1 : Nat) : Int))) S hAM hH nX3_readWord_X3 0 rfl rfl 4 (by decide) mX3_readWord_1 rfl rfl dX3_readWord_49 ?_
            refine lv_iconst (v := iI (((1 : Nat) : Int))) S.1 S.2.1 dX3_readWord_52 (by decide) ?_
            refine zv_iadd (z := (((p1 + 1) : Nat) : Int)) S dX3_readWord_53 (by omega) ?_
            refine zv_put (v := .int (iI (((p1 + 1) : Nat) : Int))) (w2 := [toW qt Qt ((lnn : Nat) : Int) ss rs (((p1 + 1) : Nat) : Int) ((p : Nat) : Int), cW X (Qt 0) 400 tx].flatten) S hAM hH hS nX3_readWord_X3 tyX3 tyX3_ok nmX3 0 rfl rfl 4 (by decide) mX3_readWord_1 rfl rfl rfl rfl (Nat.le_of_ble_eq_true rfl) rfl dX3_readWord_54 (fun H locs hH hS => ?_)
            refine lv_goto (tgt := 8) S.1 S.2.1 dX3_readWord_57 (by decide) ?_
            exact ih8  ((p1 + 1)) (by omega) (by omega) (by rw [hwe]; exact we_go (by omega)) _ _ hH hS ls (lv_sub hl [0] rfl)
  exact lp8 (lnn - (p) + 1) (p) (Nat.lt_succ_self _) (by omega) rfl _ _ hH hS ls (lv_sub hl [0] rfl)

theorem mX3_wordIs_1 : Cond.fieldLink RX3 41 "RoleDoublingPlanner$PlayText" "place" "I" ∈ wsX3_wordIs := List.mem_of_getElem? (i := 1) rfl
theorem nX3_wordIs_X3 : ∀ w ∈ wsX30, w ∈ wsX3_wordIs := fun _ h => List.mem_cons_of_mem _ (List.mem_append_right _ h)
theorem mX3_wordIs_2 : Cond.fieldLink RX3 102 "RoleDoublingPlanner$PlayText" "wordStart" "I" ∈ wsX3_wordIs := List.mem_of_getElem? (i := 2) rfl
theorem mX3_wordIs_3 : Cond.fieldLink RX3 9 "RoleDoublingPlanner$PlayText" "signs" "[C" ∈ wsX3_wordIs := List.mem_of_getElem? (i := 3) rfl
set_option maxHeartbeats 4000000 in
set_option maxRecDepth 100000 in
theorem kX3_wordIs (l : Launch) (X : XT) (qt : Nat) (Qt : Nat → Nat) (lnn : Nat) (ss : Int) (rs : Int) (p : Nat) (w : Nat) (tx : Nat → Int) (i : Nat) (ht : okT tx lnn) (hi : i < 11) (hwp : w ≤ p ∧ p ≤ lnn) : Ci l yX3_wordIs wsX3_wordIs (rmD 5) X [.ref qt, .ref (X.2.2.1 i)] [toW qt Qt ((lnn : Nat) : Int) ss rs ((p : Nat) : Int) ((w : Nat) : Int), cW X (Qt 0) 400 tx] (fun (z : Int) (_ : Unit) => (z = 1 ∧ (isJ i tx w (p - w))) ∨ (z = 0 ∧ ¬ (isJ i tx w (p - w)))) (fun (_ : Unit) => [toW qt Qt ((lnn : Nat) : Int) ss rs ((p : Nat) : Int) ((w : Nat) : Int), cW X (Qt 0) 400 tx]) := by
  refine Ci.ofW (cc := cX3_wordIs) (maxL := 3) (by decide) rfl (Nat.le_of_ble_eq_true rfl) ?_
  intro p_ e_ s_ m_ below meth c_ A Q_ S hA hAM hH hS hret ls hl
  have hl : lv_has ls 3 [(0, .ref (qt)), (1, .ref (X.2.2.1 i))] := hl
  have hL := ht.1
  have hJ := lnJ_ok i hi
  refine lv_aload_n S.1 S.2.1 dX3_wordIs_0 rfl (lv_at hl 0 rfl) ?_
  refine zv_get (v := .int (iI ((p : Nat) : Int))) S hAM hH nX3_wordIs_X3 0 rfl rfl 4 (by decide) mX3_wordIs_1 rfl rfl dX3_wordIs_1 ?_
  refine lv_aload_n S.1 S.2.1 dX3_wordIs_4 rfl (lv_at hl 0 rfl) ?_
  refine zv_get (v := .int (iI ((w : Nat) : Int))) S hAM hH nX3_wordIs_X3 0 rfl rfl 5 (by decide) mX3_wordIs_2 rfl rfl dX3_wordIs_5 ?_
  refine zv_isub (z := (((p : Nat) : Int) - ((w : Nat) : Int))) S dX3_wordIs_8 rfl ?_
  refine lv_aload_n S.1 S.2.1 dX3_wordIs_9 rfl (lv_at hl 1 rfl) ?_
  refine zc_Ti (n := 0) (As := []) (rest := [.int (iI ((((p : Nat) : Int) - ((w : Nat) : Int))))]) S hAM hA (kS_length l X i hi) rfl gX3_wordIs_J0_length_8abf5 (by decide +kernel) ⟨Nat.le_of_ble_eq_true rfl, Nat.le_of_ble_eq_true rfl⟩ hH hS [0, 1] rfl 2 rfl (List.Perm.refl _) (vk_recv hAM.2.2.1 hi hS) rfl hl.1 rfl (Nat.le_of_ble_eq_true rfl) dX3_wordIs_10 ⟨Nat.le_of_ble_eq_true rfl, Nat.le_of_ble_eq_true rfl⟩ (fun z2 _ H locs hp1 hH hS => ?_)
  have hH : Hold X A [toW qt Qt ((lnn : Nat) : Int) ss rs ((p : Nat) : Int) ((w : Nat) : Int), cW X (Qt 0) 400 tx].flatten H := hH
  obtain rfl := hp1
  refine zv_icmp_eq (tgt := 18) S dX3_wordIs_13 (by decide) (by omega) (by omega) (fun c_13 => ?_) (fun c_13 => ?_)
  · skip
    refine lv_iconst (v := iI (((0 : Nat) : Int))) S.1 S.2.1 dX3_wordIs_18 (by decide) ?_
    refine lv_istore_n (lv' := [(2, .int (iI ((0 : Nat) : Int))), (0, .ref (qt)), (1, .ref (X.2.2.1 i))]) S.1 S.2.1 dX3_wordIs_19 rfl hl (by decide) rfl (fun ls hl => ?_)
    have lp20 : ∀ (fu_ : Nat) (k : Nat), lnJ i - k < fu_ → (k ≤ lnJ i) → (∀ j, j < k → tx (w + j) = ((chJ i j : Nat) : Int)) → ∀ (H : Heap) (locs : List Loc), Hold X A [toW qt Qt ((lnn : Nat) : Int) ss rs ((p : Nat) : Int) ((w : Nat) : Int), cW X (Qt 0) 400 tx].flatten H → va_S A s_.heap H locs → ∀ ls : Array Slot, lv_has ls 3 [(2, .int (iI ((k : Nat) : Int))), (0, .ref (qt)), (1, .ref (X.2.2.1 i))] → W p_ l e_ (rmD 5) s_ m_ (List.toArray [.ref (qt), .ref (X.2.2.1 i)]) below meth c_ H locs 0 0 Q_ (F0 m_ 20 ls []) := by
      intro fu_
      induction fu_ with
      | zero => intro k hmu hk hin H locs hH hS ls hl; exact absurd hmu (Nat.not_lt_zero _)
      | succ fu_ ih20 => 
        intro k hmu hk hin H locs hH hS ls hl
        refine lv_iload_n S.1 S.2.1 dX3_wordIs_20 rfl (lv_at hl 0 rfl) ?_
        refine lv_aload_n S.1 S.2.1 dX3_wordIs_21 rfl (lv_at hl 2 rfl) ?_
        refine zc_Ti (n := 0) (As := []) (rest := [.int (iI ((k : Nat) : Int))]) S hAM hA (kS_length l X i hi) rfl gX3_wordIs_J0_length_8abf5 (by decide +kernel) ⟨Nat.le_of_ble_eq_true rfl, Nat.le_of_ble_eq_true rfl⟩ hH hS [0, 1] rfl 2 rfl (List.Perm.refl _) (vk_recv hAM.2.2.1 hi hS) rfl hl.1 rfl (Nat.le_of_ble_eq_true rfl) dX3_wordIs_22 ⟨Nat.le_of_ble_eq_true rfl, Nat.le_of_ble_eq_true rfl⟩ (fun z4 _ H locs hp3 hH hS => ?_)
        have hH : Hold X A [toW qt Qt ((lnn : Nat) : Int) ss rs ((p : Nat) : Int) ((w : Nat) : Int), cW X (Qt 0) 400 tx].flatten H := hH
        obtain rfl := hp3
        refine zv_icmp_ge (tgt := 55) S dX3_wordIs_25 (by decide) (by omega) (by omega) (fun c_25 => ?_) (fun c_25 => ?_)
        · skip
          refine lv_iconst (v := iI (((1 : Nat) : Int))) S.1 S.2.1 dX3_wordIs_55 (by decide) ?_
          exact hret 56 ls _ _ (((1 : Nat) : Int)) () dX3_wordIs_56 rfl (Or.inl ⟨rfl, (by omega), fun j hj => hin j (by omega)⟩) hH hS
        · skip
          refine lv_aload_n S.1 S.2.1 dX3_wordIs_28 rfl (lv_at hl 1 rfl) ?_
          refine zv_get (v := .ref (Qt 0)) S hAM hH nX3_wordIs_X3 0 rfl rfl 0 (by decide) mX3_wordIs_3 rfl rfl dX3_wordIs_29 ?_
          refine lv_aload_n S.1 S.2.1 dX3_wordIs_32 rfl (lv_at hl 1 rfl) ?_
          refine zv_get (v := .int (iI ((w : Nat) : Int))) S hAM hH nX3_wordIs_X3 0 rfl rfl 5 (by decide) mX3_wordIs_2 rfl rfl dX3_wordIs_33 ?_
          refine lv_iload_n S.1 S.2.1 dX3_wordIs_36 rfl (lv_at hl 0 rfl) ?_
          refine zv_iadd (z := (((w + k) : Nat) : Int)) S dX3_wordIs_37 (by omega) ?_
          refine zv_cald S hAM hH 1 rfl ((w + k)) rfl (by omega) (by decide) dX3_wordIs_38 ?_
          refine lv_aload_n S.1 S.2.1 dX3_wordIs_39 rfl (lv_at hl 2 rfl) ?_
          refine lv_iload_n S.1 S.2.1 dX3_wordIs_40 rfl (lv_at hl 0 rfl) ?_
          refine zc_Ti (n := 1) (As := [.int (iI ((k : Nat) : Int))]) (rest := [.int (iI (tx (w + k)))]) S hAM hA (kS_charAt l X i k hi (by omega)) rfl gX3_wordIs_J0_charAt_5068e (by decide +kernel) ⟨Nat.le_of_ble_eq_true rfl, Nat.le_of_ble_eq_true rfl⟩ hH hS [0, 1] rfl 2 rfl (List.Perm.refl _) (vk_recv hAM.2.2.1 hi hS) rfl hl.1 rfl (Nat.le_of_ble_eq_true rfl) dX3_wordIs_41 ⟨Nat.le_of_ble_eq_true rfl, Nat.le_of_ble_eq_true rfl⟩ (fun z6 _ H locs hp5 hH hS => ?_)
          have hH : Hold X A [toW qt Qt ((lnn : Nat) : Int) ss rs ((p : Nat) : Int) ((w : Nat) : Int), cW X (Qt 0) 400 tx].flatten H := hH
          obtain rfl := hp5
          refine zv_icmp_eq (tgt := 49) S dX3_wordIs_44 (by decide) (by have := ht.2 (w + k) (by omega); omega) (by have := chJ_ok i hi k (by omega); omega) (fun c_44 => ?_) (fun c_44 => ?_)
          · skip
            refine zv_iinc (z := (((k + 1) : Nat) : Int)) (lv' := [(2, .int (iI (((k + 1) : Nat) : Int))), (0, .ref (qt)), (1, .ref (X.2.2.1 i))]) S dX3_wordIs_49 hl (k := 0) rfl (by omega) (by decide) rfl (fun ls hl => ?_)
            refine lv_goto (tgt := 20) S.1 S.2.1 dX3_wordIs_52 (by decide) ?_
            exact ih20  ((k + 1)) (by omega) (by omega) (fun j hj => (Nat.lt_succ_iff_lt_or_eq.mp hj).elim (hin j) (fun z => z ▸ c_44)) _ _ hH hS ls (lv_sub hl [0, 1, 2] rfl)
          · skip
            refine lv_iconst (v := iI (((0 : Nat) : Int))) S.1 S.2.1 dX3_wordIs_47 (by decide) ?_
            exact hret 48 ls _ _ (((0 : Nat) : Int)) () dX3_wordIs_48 rfl (Or.inr ⟨rfl, fun z => c_44 (z.2 k (by omega))⟩) hH hS
    exact lp20 (lnJ i - (0) + 1) (0) (Nat.lt_succ_self _) (Nat.zero_le _) (fun j hj => absurd hj (Nat.not_lt_zero _)) _ _ hH hS ls (lv_sub hl [0, 1, 2] rfl)
  · skip
    refine lv_iconst (v := iI (((0 : Nat) : Int))) S.1 S.2.1 dX3_wordIs_16 (by decide) ?_
    exact hret 17 ls _ _ (((0 : Nat) : Int)) () dX3_wordIs_17 rfl (Or.inr ⟨rfl, fun z => (by have := z.1; omega)⟩) hH hS

set_option maxHeartbeats 4000000 in
set_option maxRecDepth 100000 in
theorem kX3_wordAsVoice (l : Launch) (X : XT) (qt : Nat) (Qt : Nat → Nat) (lnn : Nat) (ss : Int) (rs : Int) (p : Nat) (w : Nat) (tx : Nat → Int) (ht : okT tx lnn) (hwp : w ≤ p ∧ p ≤ lnn) : Ci l yX3_wordAsVoice wsX3_wordAsVoice (rmD 6) X [.ref qt] [toW qt Qt ((lnn : Nat) : Int) ss rs ((p : Nat) : Int) ((w : Nat) : Int), cW X (Qt 0) 400 tx] (fun (z : Int) (_ : Unit) => z = voR tx w (p - w)) (fun (_ : Unit) => [toW qt Qt ((lnn : Nat) : Int) ss rs ((p : Nat) : Int) ((w : Nat) : Int), cW X (Qt 0) 400 tx]) := by
  refine Ci.ofW (cc := cX3_wordAsVoice) (maxL := 1) (by decide) rfl (Nat.le_of_ble_eq_true rfl) ?_
  intro p_ e_ s_ m_ below meth c_ A Q_ S hA hAM hH hS hret ls hl
  have hl : lv_has ls 1 [(0, .ref (qt))] := hl
  have hL := ht.1
  refine lv_aload_n S.1 S.2.1 dX3_wordAsVoice_0 rfl (lv_at hl 0 rfl) ?_
  refine va_ldcS S.1 S.2.1 S.2.2.2.1 hAM.2.2.2.1.2.2.2.2.2.2.2.2.1 dX3_wordAsVoice_1 ?_
  refine zc_Vi (n := 1) (As := [.ref (X.2.2.1 8)]) (rest := []) S hAM hA (kX3_wordIs l X qt Qt lnn ss rs p w tx 8 ht (by decide) (by omega)) rfl gX3_wordAsVoice_X3_wordIs  (by decide +kernel) ⟨Nat.le_of_ble_eq_true rfl, Nat.le_of_ble_eq_true rfl⟩ hH hS [0, 1] rfl 2 rfl (List.Perm.refl _) 3 0 rfl rfl rfl hl.1 rfl (Nat.le_of_ble_eq_true rfl) dX3_wordAsVoice_3 ⟨Nat.le_of_ble_eq_true rfl, Nat.le_of_ble_eq_true rfl⟩ (fun z2 _ H locs hp3 hH hS => ?_)
  have hH : Hold X A [toW qt Qt ((lnn : Nat) : Int) ss rs ((p : Nat) : Int) ((w : Nat) : Int), cW X (Qt 0) 400 tx].flatten H := hH
  rcases hp3 with ⟨rfl, b_3⟩ | ⟨rfl, b_3⟩
  · refine zv_top (z := 1) (z2 := ((1 : Nat) : Int)) rfl ?_
    refine zv_if_eq (tgt := 11) S dX3_wordAsVoice_6 (by decide) (by decide) (fun c_6 => ?_) (fun c_6 => ?_)
    · exact (show False by omega).elim
    · skip
      refine lv_iconst (v := iI (((0 : Nat) : Int))) S.1 S.2.1 dX3_wordAsVoice_9 (by decide) ?_
      exact hret 10 ls _ _ (((0 : Nat) : Int)) () dX3_wordAsVoice_10 rfl (by rw [isJ8] at b_3; (try rw [isJ9] at b_14); (try rw [isJ10] at b_25); unfold voR; first | (rw [if_pos b_3]; rfl) | (rw [if_neg b_3, if_pos b_14]; rfl) | (rw [if_neg b_3, if_neg b_14, if_pos b_25]; rfl) | (rw [if_neg b_3, if_neg b_14, if_neg b_25])) hH hS
  · refine zv_top (z := 0) (z2 := ((0 : Nat) : Int)) rfl ?_
    refine zv_if_eq (tgt := 11) S dX3_wordAsVoice_6 (by decide) (by decide) (fun c_6 => ?_) (fun c_6 => ?_)
    · skip
      refine lv_aload_n S.1 S.2.1 dX3_wordAsVoice_11 rfl (lv_at hl 0 rfl) ?_
      refine va_ldcS S.1 S.2.1 S.2.2.2.1 hAM.2.2.2.1.2.2.2.2.2.2.2.2.2.1 dX3_wordAsVoice_12 ?_
      refine zc_Vi (n := 1) (As := [.ref (X.2.2.1 9)]) (rest := []) S hAM hA (kX3_wordIs l X qt Qt lnn ss rs p w tx 9 ht (by decide) (by omega)) rfl gX3_wordAsVoice_X3_wordIs  (by decide +kernel) ⟨Nat.le_of_ble_eq_true rfl, Nat.le_of_ble_eq_true rfl⟩ hH hS [0, 1] rfl 2 rfl (List.Perm.refl _) 3 0 rfl rfl rfl hl.1 rfl (Nat.le_of_ble_eq_true rfl) dX3_wordAsVoice_14 ⟨Nat.le_of_ble_eq_true rfl, Nat.le_of_ble_eq_true rfl⟩ (fun z5 _ H locs hp6 hH hS => ?_)
      have hH : Hold X A [toW qt Qt ((lnn : Nat) : Int) ss rs ((p : Nat) : Int) ((w : Nat) : Int), cW X (Qt 0) 400 tx].flatten H := hH
      rcases hp6 with ⟨rfl, b_14⟩ | ⟨rfl, b_14⟩
      · refine zv_top (z := 1) (z2 := ((1 : Nat) : Int)) rfl ?_
        refine zv_if_eq (tgt := 22) S dX3_wordAsVoice_17 (by decide) (by decide) (fun c_17 => ?_) (fun c_17 => ?_)
        · exact (show False by omega).elim
        · skip
          refine lv_iconst (v := iI (((1 : Nat) : Int))) S.1 S.2.1 dX3_wordAsVoice_20 (by decide) ?_
          exact hret 21 ls _ _ (((1 : Nat) : Int)) () dX3_wordAsVoice_21 rfl (by rw [isJ8] at b_3; (try rw [isJ9] at b_14); (try rw [isJ10] at b_25); unfold voR; first | (rw [if_pos b_3]; rfl) | (rw [if_neg b_3, if_pos b_14]; rfl) | (rw [if_neg b_3, if_neg b_14, if_pos b_25]; rfl) | (rw [if_neg b_3, if_neg b_14, if_neg b_25])) hH hS
      · refine zv_top (z := 0) (z2 := ((0 : Nat) : Int)) rfl ?_
        refine zv_if_eq (tgt := 22) S dX3_wordAsVoice_17 (by decide) (by decide) (fun c_17 => ?_) (fun c_17 => ?_)
        · skip
          refine lv_aload_n S.1 S.2.1 dX3_wordAsVoice_22 rfl (lv_at hl 0 rfl) ?_
          refine va_ldcS S.1 S.2.1 S.2.2.2.1 hAM.2.2.2.1.2.2.2.2.2.2.2.2.2.2 dX3_wordAsVoice_23 ?_
          refine zc_Vi (n := 1) (As := [.ref (X.2.2.1 10)]) (rest := []) S hAM hA (kX3_wordIs l X qt Qt lnn ss rs p w tx 10 ht (by decide) (by omega)) rfl gX3_wordAsVoice_X3_wordIs  (by decide +kernel) ⟨Nat.le_of_ble_eq_true rfl, Nat.le_of_ble_eq_true rfl⟩ hH hS [0, 1] rfl 2 rfl (List.Perm.refl _) 3 0 rfl rfl rfl hl.1 rfl (Nat.le_of_ble_eq_true rfl) dX3_wordAsVoice_25 ⟨Nat.le_of_ble_eq_true rfl, Nat.le_of_ble_eq_true rfl⟩ (fun z8 _ H locs hp9 hH hS => ?_)
          have hH : Hold X A [toW qt Qt ((lnn : Nat) : Int) ss rs ((p : Nat) : Int) ((w : Nat) : Int), cW X (Qt 0) 400 tx].flatten H := hH
          rcases hp9 with ⟨rfl, b_25⟩ | ⟨rfl, b_25⟩
          · refine zv_top (z := 1) (z2 := ((1 : Nat) : Int)) rfl ?_
            refine zv_if_eq (tgt := 35) S dX3_wordAsVoice_28 (by decide) (by decide) (fun c_28 => ?_) (fun c_28 => ?_)
            · exact (show False by omega).elim
            · skip
              refine lv_iconst (v := iI (((2 : Nat) : Int))) S.1 S.2.1 dX3_wordAsVoice_31 (by decide) ?_
              refine lv_goto (tgt := 36) S.1 S.2.1 dX3_wordAsVoice_32 (by decide) ?_
              exact hret 36 ls _ _ (((2 : Nat) : Int)) () dX3_wordAsVoice_36 rfl (by rw [isJ8] at b_3; (try rw [isJ9] at b_14); (try rw [isJ10] at b_25); unfold voR; first | (rw [if_pos b_3]; rfl) | (rw [if_neg b_3, if_pos b_14]; rfl) | (rw [if_neg b_3, if_neg b_14, if_pos b_25]; rfl) | (rw [if_neg b_3, if_neg b_14, if_neg b_25])) hH hS
          · refine zv_top (z := 0) (z2 := ((0 : Nat) : Int)) rfl ?_
            refine zv_if_eq (tgt := 35) S dX3_wordAsVoice_28 (by decide) (by decide) (fun c_28 => ?_) (fun c_28 => ?_)
            · skip
              refine lv_iconst (v := iI (-1)) S.1 S.2.1 dX3_wordAsVoice_35 (by decide) ?_
              exact hret 36 ls _ _ (-1) () dX3_wordAsVoice_36 rfl (by rw [isJ8] at b_3; (try rw [isJ9] at b_14); (try rw [isJ10] at b_25); unfold voR; first | (rw [if_pos b_3]; rfl) | (rw [if_neg b_3, if_pos b_14]; rfl) | (rw [if_neg b_3, if_neg b_14, if_pos b_25]; rfl) | (rw [if_neg b_3, if_neg b_14, if_neg b_25])) hH hS
            · exact (show False by omega).elim
        · exact (show False by omega).elim
    · exact (show False by omega).elim

theorem mX3_wordAsNumber_1 : Cond.fieldLink RX3 41 "RoleDoublingPlanner$PlayText" "place" "I" ∈ wsX3_wordAsNumber := List.mem_of_getElem? (i := 1) rfl
theorem nX3_wordAsNumber_X3 : ∀ w ∈ wsX30, w ∈ wsX3_wordAsNumber := fun _ h => List.mem_cons_of_mem _ (List.mem_append_right _ h)
theorem mX3_wordAsNumber_2 : Cond.fieldLink RX3 102 "RoleDoublingPlanner$PlayText" "wordStart" "I" ∈ wsX3_wordAsNumber := List.mem_of_getElem? (i := 2) rfl
theorem mX3_wordAsNumber_3 : Cond.fieldLink RX3 9 "RoleDoublingPlanner$PlayText" "signs" "[C" ∈ wsX3_wordAsNumber := List.mem_of_getElem? (i := 3) rfl
set_option maxHeartbeats 4000000 in
set_option maxRecDepth 100000 in
theorem kX3_wordAsNumber (l : Launch) (X : XT) (qt : Nat) (Qt : Nat → Nat) (lnn : Nat) (ss : Int) (rs : Int) (p : Nat) (w : Nat) (tx : Nat → Int) (ht : okT tx lnn) (hwp : w ≤ p ∧ p ≤ lnn) : Ci l yX3_wordAsNumber wsX3_wordAsNumber (rmD 1) X [.ref qt] [toW qt Qt ((lnn : Nat) : Int) ss rs ((p : Nat) : Int) ((w : Nat) : Int), cW X (Qt 0) 400 tx] (fun (z : Int) (_ : Unit) => z = nvR tx w (p - w)) (fun (_ : Unit) => [toW qt Qt ((lnn : Nat) : Int) ss rs ((p : Nat) : Int) ((w : Nat) : Int), cW X (Qt 0) 400 tx]) := by
  refine Ci.ofW (cc := cX3_wordAsNumber) (maxL := 4) (by decide) rfl (Nat.le_of_ble_eq_true rfl) ?_
  intro p_ e_ s_ m_ below meth c_ A Q_ S hA hAM hH hS hret ls hl
  have hl : lv_has ls 4 [(0, .ref (qt))] := hl
  have hL := ht.1
  refine lv_aload_n S.1 S.2.1 dX3_wordAsNumber_0 rfl (lv_at hl 0 rfl) ?_
  refine zv_get (v := .int (iI ((p : Nat) : Int))) S hAM hH nX3_wordAsNumber_X3 0 rfl rfl 4 (by decide) mX3_wordAsNumber_1 rfl rfl dX3_wordAsNumber_1 ?_
  refine lv_aload_n S.1 S.2.1 dX3_wordAsNumber_4 rfl (lv_at hl 0 rfl) ?_
  refine zv_get (v := .int (iI ((w : Nat) : Int))) S hAM hH nX3_wordAsNumber_X3 0 rfl rfl 5 (by decide) mX3_wordAsNumber_2 rfl rfl dX3_wordAsNumber_5 ?_
  refine zv_isub (z := (((p : Nat) : Int) - ((w : Nat) : Int))) S dX3_wordAsNumber_8 rfl ?_
  refine lv_istore_n (lv' := [(1, .int (iI ((((p : Nat) : Int) - ((w : Nat) : Int))))), (0, .ref (qt))]) S.1 S.2.1 dX3_wordAsNumber_9 rfl hl (by decide) rfl (fun ls hl => ?_)
  refine lv_iload_n S.1 S.2.1 dX3_wordAsNumber_10 rfl (lv_at hl 0 rfl) ?_
  refine lv_iconst (v := iI (((1 : Nat) : Int))) S.1 S.2.1 dX3_wordAsNumber_11 (by decide) ?_
  refine zv_icmp_lt (tgt := 20) S dX3_wordAsNumber_12 (by decide) (by omega) (by decide) (fun c_12 => ?_) (fun c_12 => ?_)
  · skip
    refine lv_iconst (v := iI (-1)) S.1 S.2.1 dX3_wordAsNumber_20 (by decide) ?_
    exact hret 21 ls _ _ (-1) () dX3_wordAsNumber_21 rfl (by unfold nvR; rw [if_neg (fun z => by omega)]) hH hS
  · skip
    refine lv_iload_n S.1 S.2.1 dX3_wordAsNumber_15 rfl (lv_at hl 0 rfl) ?_
    refine lv_iconst (v := iI (((3 : Nat) : Int))) S.1 S.2.1 dX3_wordAsNumber_16 (by decide) ?_
    refine zv_icmp_le (tgt := 22) S dX3_wordAsNumber_17 (by decide) (by omega) (by decide) (fun c_17 => ?_) (fun c_17 => ?_)
    · skip
      refine lv_iconst (v := iI (((0 : Nat) : Int))) S.1 S.2.1 dX3_wordAsNumber_22 (by decide) ?_
      refine lv_istore_n (lv' := [(2, .int (iI ((0 : Nat) : Int))), (1, .int (iI ((((p : Nat) : Int) - ((w : Nat) : Int))))), (0, .ref (qt))]) S.1 S.2.1 dX3_wordAsNumber_23 rfl hl (by decide) rfl (fun ls hl => ?_)
      refine lv_aload_n S.1 S.2.1 dX3_wordAsNumber_24 rfl (lv_at hl 2 rfl) ?_
      refine zv_get (v := .int (iI ((w : Nat) : Int))) S hAM hH nX3_wordAsNumber_X3 0 rfl rfl 5 (by decide) mX3_wordAsNumber_2 rfl rfl dX3_wordAsNumber_25 ?_
      refine lv_istore_n (lv' := [(3, .int (iI ((w : Nat) : Int))), (2, .int (iI ((0 : Nat) : Int))), (1, .int (iI ((((p : Nat) : Int) - ((w : Nat) : Int))))), (0, .ref (qt))]) S.1 S.2.1 dX3_wordAsNumber_28 rfl hl (by decide) rfl (fun ls hl => ?_)
      have lp29 : ∀ (fu_ : Nat) (k : Nat) (x : Int), p - k < fu_ → (w ≤ k ∧ k ≤ p) → (dg tx w (k - w) ≠ 0) → (x = nv tx w (k - w)) → ∀ (H : Heap) (locs : List Loc), Hold X A [toW qt Qt ((lnn : Nat) : Int) ss rs ((p : Nat) : Int) ((w : Nat) : Int), cW X (Qt 0) 400 tx].flatten H → va_S A s_.heap H locs → ∀ ls : Array Slot, lv_has ls 4 [(3, .int (iI ((k : Nat) : Int))), (2, .int (iI (x))), (1, .int (iI ((((p : Nat) : Int) - ((w : Nat) : Int))))), (0, .ref (qt))] → W p_ l e_ (rmD 1) s_ m_ (List.toArray [.ref (qt)]) below meth c_ H locs 0 0 Q_ (F0 m_ 29 ls []) := by
        intro fu_
        induction fu_ with
        | zero => intro k x hmu hk hd hx H locs hH hS ls hl; exact absurd hmu (Nat.not_lt_zero _)
        | succ fu_ ih29 => 
          intro k x hmu hk hd hx H locs hH hS ls hl
          refine lv_iload_n S.1 S.2.1 dX3_wordAsNumber_29 rfl (lv_at hl 0 rfl) ?_
          refine lv_aload_n S.1 S.2.1 dX3_wordAsNumber_30 rfl (lv_at hl 3 rfl) ?_
          refine zv_get (v := .int (iI ((p : Nat) : Int))) S hAM hH nX3_wordAsNumber_X3 0 rfl rfl 4 (by decide) mX3_wordAsNumber_1 rfl rfl dX3_wordAsNumber_31 ?_
          refine zv_icmp_ge (tgt := 82) S dX3_wordAsNumber_34 (by decide) (by omega) (by omega) (fun c_34 => ?_) (fun c_34 => ?_)
          · skip
            refine lv_iload_n S.1 S.2.1 dX3_wordAsNumber_82 rfl (lv_at hl 1 rfl) ?_
            exact hret 83 ls _ _ (x) () dX3_wordAsNumber_83 rfl (by obtain rfl : k = p := (by omega); unfold nvR; rw [if_pos ⟨by omega, hd⟩]; exact hx) hH hS
          · skip
            refine lv_aload_n S.1 S.2.1 dX3_wordAsNumber_37 rfl (lv_at hl 3 rfl) ?_
            refine zv_get (v := .ref (Qt 0)) S hAM hH nX3_wordAsNumber_X3 0 rfl rfl 0 (by decide) mX3_wordAsNumber_3 rfl rfl dX3_wordAsNumber_38 ?_
            refine lv_iload_n S.1 S.2.1 dX3_wordAsNumber_41 rfl (lv_at hl 0 rfl) ?_
            refine zv_cald S hAM hH 1 rfl (k) rfl (by omega) (by decide) dX3_wordAsNumber_42 ?_
            refine lv_bipush (v := iI (((48 : Nat) : Int))) S.1 S.2.1 dX3_wordAsNumber_43 (by decide) ?_
            refine zv_icmp_lt (tgt := 59) S dX3_wordAsNumber_45 (by decide) (by have := ht.2 k (by omega); omega) (by decide) (fun c_45 => ?_) (fun c_45 => ?_)
            · skip
              refine lv_iconst (v := iI (-1)) S.1 S.2.1 dX3_wordAsNumber_59 (by decide) ?_
              exact hret 60 ls _ _ (-1) () dX3_wordAsNumber_60 rfl (by unfold nvR; rw [dg_bad hk.1 (by omega) (by omega), if_neg (fun z => absurd rfl z.2)]) hH hS
            · skip
              refine lv_aload_n S.1 S.2.1 dX3_wordAsNumber_48 rfl (lv_at hl 3 rfl) ?_
              refine zv_get (v := .ref (Qt 0)) S hAM hH nX3_wordAsNumber_X3 0 rfl rfl 0 (by decide) mX3_wordAsNumber_3 rfl rfl dX3_wordAsNumber_49 ?_
              refine lv_iload_n S.1 S.2.1 dX3_wordAsNumber_52 rfl (lv_at hl 0 rfl) ?_
              refine zv_cald S hAM hH 1 rfl (k) rfl (by omega) (by decide) dX3_wordAsNumber_53 ?_
              refine lv_bipush (v := iI (((57 : Nat) : Int))) S.1 S.2.1 dX3_wordAsNumber_54 (by decide) ?_
              refine zv_icmp_le (tgt := 61) S dX3_wordAsNumber_56 (by decide) (by have := ht.2 k (by omega); omega) (by decide) (fun c_56 => ?_) (fun c_56 => ?_)
              · skip
                refine lv_bipush (v := iI (((10 : Nat) : Int))) S.1 S.2.1 dX3_wordAsNumber_61 (by decide) ?_
                refine lv_iload_n S.1 S.2.1 dX3_wordAsNumber_63 rfl (lv_at hl 1 rfl) ?_
                refine zv_imul (z := (((10 : Nat) : Int) * x)) S dX3_wordAsNumber_64 rfl ?_
                refine lv_aload_n S.1 S.2.1 dX3_wordAsNumber_65 rfl (lv_at hl 3 rfl) ?_
                refine zv_get (v := .ref (Qt 0)) S hAM hH nX3_wordAsNumber_X3 0 rfl rfl 0 (by decide) mX3_wordAsNumber_3 rfl rfl dX3_wordAsNumber_66 ?_
                refine lv_iload_n S.1 S.2.1 dX3_wordAsNumber_69 rfl (lv_at hl 0 rfl) ?_
                refine zv_cald S hAM hH 1 rfl (k) rfl (by omega) (by decide) dX3_wordAsNumber_70 ?_
                refine lv_bipush (v := iI (((48 : Nat) : Int))) S.1 S.2.1 dX3_wordAsNumber_71 (by decide) ?_
                refine zv_isub (z := (tx k - ((48 : Nat) : Int))) S dX3_wordAsNumber_73 rfl ?_
                refine zv_iadd (z := ((((10 : Nat) : Int) * x) + (tx k - ((48 : Nat) : Int)))) S dX3_wordAsNumber_74 rfl ?_
                refine lv_istore_n (lv' := [(2, .int (iI (((((10 : Nat) : Int) * x) + (tx k - ((48 : Nat) : Int)))))), (3, .int (iI ((k : Nat) : Int))), (1, .int (iI ((((p : Nat) : Int) - ((w : Nat) : Int))))), (0, .ref (qt))]) S.1 S.2.1 dX3_wordAsNumber_75 rfl hl (by decide) rfl (fun ls hl => ?_)
                refine zv_iinc (z := (((k + 1) : Nat) : Int)) (lv' := [(3, .int (iI (((k + 1) : Nat) : Int))), (2, .int (iI (((((10 : Nat) : Int) * x) + (tx k - ((48 : Nat) : Int)))))), (1, .int (iI ((((p : Nat) : Int) - ((w : Nat) : Int))))), (0, .ref (qt))]) S dX3_wordAsNumber_76 hl (k := 1) rfl (by omega) (by decide) rfl (fun ls hl => ?_)
                refine lv_goto (tgt := 29) S.1 S.2.1 dX3_wordAsNumber_79 (by decide) ?_
                exact ih29  ((k + 1)) (((((10 : Nat) : Int) * x) + (tx k - ((48 : Nat) : Int)))) (by omega) (by omega) (by rw [dg_s hk.1, if_pos ⟨hd, by omega⟩]; decide) (by rw [nv_s hk.1, hx]; rfl) _ _ hH hS ls (lv_sub hl [0, 1, 2, 3] rfl)
              · skip
                refine lv_iconst (v := iI (-1)) S.1 S.2.1 dX3_wordAsNumber_59 (by decide) ?_
                exact hret 60 ls _ _ (-1) () dX3_wordAsNumber_60 rfl (by unfold nvR; rw [dg_bad hk.1 (by omega) (by omega), if_neg (fun z => absurd rfl z.2)]) hH hS
      exact lp29 (p - (w) + 1) (w) (((0 : Nat) : Int)) (Nat.lt_succ_self _) (by omega) (by rw [Nat.sub_self]; exact Nat.one_ne_zero) (by rw [Nat.sub_self]; rfl) _ _ hH hS ls (lv_sub hl [0, 1, 2, 3] rfl)
    · skip
      refine lv_iconst (v := iI (-1)) S.1 S.2.1 dX3_wordAsNumber_20 (by decide) ?_
      exact hret 21 ls _ _ (-1) () dX3_wordAsNumber_21 rfl (by unfold nvR; rw [if_neg (fun z => by omega)]) hH hS

theorem mX3_readNumbersAndEnd_1 : Cond.fieldLink RX3 15 "RoleDoublingPlanner$PlayText" "numbers" "[I" ∈ wsX3_readNumbersAndEnd := List.mem_of_getElem? (i := 1) rfl
theorem nX3_readNumbersAndEnd_X3 : ∀ w ∈ wsX30, w ∈ wsX3_readNumbersAndEnd := fun _ h => List.mem_cons_of_mem _ (List.mem_append_right _ h)
set_option maxHeartbeats 4000000 in
set_option maxRecDepth 100000 in
theorem kX3_rn1 (l : Launch) (X : XT) (qt : Nat) (Qt : Nat → Nat) (lnn : Nat) (ss : Int) (rs : Int) (p : Nat) (w : Nat) (tx : Nat → Int) (nm : Nat → Int) (ht : okT tx lnn) (hwp : w ≤ 400 ∧ p ≤ lnn) : Ci l yX3_readNumbersAndEnd wsX3_readNumbersAndEnd (rmD 2) X [.ref qt, .int (iI ((1 : Nat) : Int))] [toW qt Qt ((lnn : Nat) : Int) ss rs ((p : Nat) : Int) ((w : Nat) : Int), cW X (Qt 0) 400 tx, aW X (Qt 1) 4 nm] (fun (z : Int) (u : (Nat) × (Nat) × (Nat → Int)) => match u with | (sj, wj, nm2) => ((z = 1 ∧ (rn1 tx lnn p = some (nm2 0, sj) ∧ (0 ≤ nm2 0 ∧ nm2 0 ≤ 999))) ∨ (z = 0 ∧ (rn1 tx lnn p = none))) ∧ sj ≤ lnn ∧ wj ≤ 400) (fun (u : (Nat) × (Nat) × (Nat → Int)) => match u with | (sj, wj, nm2) => [toW qt Qt ((lnn : Nat) : Int) ss rs ((sj : Nat) : Int) ((wj : Nat) : Int), cW X (Qt 0) 400 tx, aW X (Qt 1) 4 nm2]) := by
  refine Ci.ofW (cc := cX3_readNumbersAndEnd) (maxL := 3) (by decide) rfl (Nat.le_of_ble_eq_true rfl) ?_
  intro p_ e_ s_ m_ below meth c_ A Q_ S hA hAM hH hS hret ls hl
  have hl : lv_has ls 3 [(0, .ref (qt)), (1, .int (iI ((1 : Nat) : Int)))] := hl
  have hL := ht.1
  refine lv_iconst (v := iI (((0 : Nat) : Int))) S.1 S.2.1 dX3_readNumbersAndEnd_0 (by decide) ?_
  refine lv_istore_n (lv' := [(2, .int (iI ((0 : Nat) : Int))), (0, .ref (qt)), (1, .int (iI ((1 : Nat) : Int)))]) S.1 S.2.1 dX3_readNumbersAndEnd_1 rfl hl (by decide) rfl (fun ls hl => ?_)
  refine lv_iload_n S.1 S.2.1 dX3_readNumbersAndEnd_2 rfl (lv_at hl 0 rfl) ?_
  refine lv_iload_n S.1 S.2.1 dX3_readNumbersAndEnd_3 rfl (lv_at hl 2 rfl) ?_
  refine zv_icmp_ge (tgt := 55) S dX3_readNumbersAndEnd_4 (by decide) (by decide) (by decide) (fun c_4 => ?_) (fun c_4 => ?_)
  · exact (show False by omega).elim
  · skip
    refine lv_iload_n S.1 S.2.1 dX3_readNumbersAndEnd_7 rfl (lv_at hl 0 rfl) ?_
    refine lv_iconst (v := iI (((4 : Nat) : Int))) S.1 S.2.1 dX3_readNumbersAndEnd_8 (by decide) ?_
    refine zv_icmp_ge (tgt := 55) S dX3_readNumbersAndEnd_9 (by decide) (by decide) (by decide) (fun c_9 => ?_) (fun c_9 => ?_)
    · exact (show False by omega).elim
    · skip
      refine lv_aload_n S.1 S.2.1 dX3_readNumbersAndEnd_12 rfl (lv_at hl 1 rfl) ?_
      refine lv_bipush (v := iI (((32 : Nat) : Int))) S.1 S.2.1 dX3_readNumbersAndEnd_13 (by decide) ?_
      refine zc_Vi (n := 1) (As := [.int (iI ((32 : Nat) : Int))]) (rest := []) S hAM hA (kX3_readSign l X qt Qt lnn ss rs p w tx 32 ht (by omega) (by decide)) rfl gX3_readNumbersAndEnd_X3_readSign  (by decide +kernel) ⟨Nat.le_of_ble_eq_true rfl, Nat.le_of_ble_eq_true rfl⟩ hH hS [0, 1, 2] rfl 3 rfl (List.Perm.refl _) 3 0 rfl rfl rfl hl.1 rfl (Nat.le_of_ble_eq_true rfl) dX3_readNumbersAndEnd_15 ⟨Nat.le_of_ble_eq_true rfl, Nat.le_of_ble_eq_true rfl⟩ (fun z2 sj_1 H locs hp3 hH hS => ?_)
      have hH : Hold X A [toW qt Qt ((lnn : Nat) : Int) ss rs ((sj_1 : Nat) : Int) ((w : Nat) : Int), cW X (Qt 0) 400 tx, aW X (Qt 1) 4 nm].flatten H := hH
      rcases hp3 with ⟨rfl, b_15⟩ | ⟨rfl, b_15⟩
      · refine zv_top (z := 1) (z2 := ((1 : Nat) : Int)) rfl ?_
        obtain ⟨hq_, rfl⟩ := b_15
        have hq_ : p < lnn ∧ tx p = 32 := hq_
        refine zv_if_ne (tgt := 23) S dX3_readNumbersAndEnd_18 (by decide) (by decide) (fun c_18 => ?_) (fun c_18 => ?_)
        · skip
          refine lv_aload_n S.1 S.2.1 dX3_readNumbersAndEnd_23 rfl (lv_at hl 1 rfl) ?_
          refine zc_Vv (n := 0) (As := []) (rest := []) S hAM hA (kX3_readWord l X qt Qt lnn ss rs (p + 1) w tx ht (by omega)) rfl gX3_readNumbersAndEnd_X3_readWord  (by decide +kernel) ⟨Nat.le_of_ble_eq_true rfl, Nat.le_of_ble_eq_true rfl⟩ hH hS [0, 1, 2] rfl 3 rfl (List.Perm.refl _) 3 0 rfl rfl rfl hl.1 rfl (Nat.le_of_ble_eq_true rfl) dX3_readNumbersAndEnd_24 ⟨Nat.le_of_ble_eq_true rfl, Nat.le_of_ble_eq_true rfl⟩ (fun _ H locs hp6 hH hS => ?_)
          have hH : Hold X A [toW qt Qt ((lnn : Nat) : Int) ss rs ((we tx lnn (p + 1) : Nat) : Int) (((p + 1) : Nat) : Int), cW X (Qt 0) 400 tx, aW X (Qt 1) 4 nm].flatten H := hH
          have hle_ := we_le tx lnn _ (p + 1) rfl (by omega)
          have hge_ := we_ge tx lnn _ (p + 1) rfl
          obtain ⟨e7, he7⟩ : ∃ y_, y_ = we tx lnn (p + 1) := ⟨_, rfl⟩
          rw [← he7] at hH hle_ hge_
          have hH : Hold X A [toW qt Qt ((lnn : Nat) : Int) ss rs ((e7 : Nat) : Int) (((p + 1) : Nat) : Int), cW X (Qt 0) 400 tx, aW X (Qt 1) 4 nm].flatten _ := hH
          refine lv_aload_n S.1 S.2.1 dX3_readNumbersAndEnd_27 rfl (lv_at hl 1 rfl) ?_
          refine zv_get (v := .ref (Qt 1)) S hAM hH nX3_readNumbersAndEnd_X3 0 rfl rfl 6 (by decide) mX3_readNumbersAndEnd_1 rfl rfl dX3_readNumbersAndEnd_28 ?_
          refine lv_iload_n S.1 S.2.1 dX3_readNumbersAndEnd_31 rfl (lv_at hl 0 rfl) ?_
          refine lv_aload_n S.1 S.2.1 dX3_readNumbersAndEnd_32 rfl (lv_at hl 1 rfl) ?_
          refine zc_Vi (n := 0) (As := []) (rest := [.int (iI ((0 : Nat) : Int)), .ref (Qt 1)]) S hAM hA (kX3_wordAsNumber l X qt Qt lnn ss rs e7 (p + 1) tx ht (by omega)) rfl gX3_readNumbersAndEnd_X3_wordAsNumber  (by decide +kernel) ⟨Nat.le_of_ble_eq_true rfl, Nat.le_of_ble_eq_true rfl⟩ hH hS [0, 1, 2] rfl 3 rfl (List.Perm.refl _) 3 0 rfl rfl rfl hl.1 rfl (Nat.le_of_ble_eq_true rfl) dX3_readNumbersAndEnd_33 ⟨Nat.le_of_ble_eq_true rfl, Nat.le_of_ble_eq_true rfl⟩ (fun z9 _ H locs hp10 hH hS => ?_)
          have hH : Hold X A [toW qt Qt ((lnn : Nat) : Int) ss rs ((e7 : Nat) : Int) (((p + 1) : Nat) : Int), cW X (Qt 0) 400 tx, aW X (Qt 1) 4 nm].flatten H := hH
          obtain rfl := hp10
          refine zv_iast (z := nvR tx (p + 1) (e7 - (p + 1))) (w2 := [toW qt Qt ((lnn : Nat) : Int) ss rs ((e7 : Nat) : Int) (((p + 1) : Nat) : Int), cW X (Qt 0) 400 tx, aW X (Qt 1) 4 (uI nm 0 (nvR tx (p + 1) (e7 - (p + 1))))].flatten) S hAM hH hS 2 rfl (0) rfl (by decide) (by decide) rfl dX3_readNumbersAndEnd_36 (fun H locs hH hS => ?_)
          refine lv_aload_n S.1 S.2.1 dX3_readNumbersAndEnd_37 rfl (lv_at hl 1 rfl) ?_
          refine zv_get (v := .ref (Qt 1)) S hAM hH nX3_readNumbersAndEnd_X3 0 rfl rfl 6 (by decide) mX3_readNumbersAndEnd_1 rfl rfl dX3_readNumbersAndEnd_38 ?_
          refine lv_iload_n S.1 S.2.1 dX3_readNumbersAndEnd_41 rfl (lv_at hl 0 rfl) ?_
          refine zv_iald S hAM hH 2 rfl (0) rfl (by decide) (by decide) dX3_readNumbersAndEnd_42 ?_
          refine zv_top (z := (uI nm 0 (nvR tx (p + 1) (e7 - (p + 1)))) 0) (z2 := nvR tx (p + 1) (e7 - (p + 1))) (uI_s _ _ _) ?_
          refine lv_iconst (v := iI (-1)) S.1 S.2.1 dX3_readNumbersAndEnd_43 (by decide) ?_
          refine zv_icmp_ne (tgt := 49) S dX3_readNumbersAndEnd_44 (by decide) (by have := nvR_b tx (p + 1) (e7 - (p + 1)); omega) (by decide) (fun c_44 => ?_) (fun c_44 => ?_)
          · skip
            have hm12 := num1_ok hq_ he7 c_44
            have hbx11 := nvR_b tx (p + 1) (e7 - (p + 1))
            obtain ⟨x11, hx11⟩ : ∃ y_, y_ = nvR tx (p + 1) (e7 - (p + 1)) := ⟨_, rfl⟩
            rw [← hx11] at hH hm12 hbx11 c_44
            have hH : Hold X A [toW qt Qt ((lnn : Nat) : Int) ss rs ((e7 : Nat) : Int) (((p + 1) : Nat) : Int), cW X (Qt 0) 400 tx, aW X (Qt 1) 4 (uI nm 0 (x11))].flatten _ := hH
            refine zv_iinc (z := ((1 : Nat) : Int)) (lv' := [(2, .int (iI ((1 : Nat) : Int))), (0, .ref (qt)), (1, .int (iI ((1 : Nat) : Int)))]) S dX3_readNumbersAndEnd_49 hl (k := 0) rfl (by decide) (by decide) rfl (fun ls hl => ?_)
            refine lv_goto (tgt := 2) S.1 S.2.1 dX3_readNumbersAndEnd_52 (by decide) ?_
            refine lv_iload_n S.1 S.2.1 dX3_readNumbersAndEnd_2 rfl (lv_at hl 0 rfl) ?_
            refine lv_iload_n S.1 S.2.1 dX3_readNumbersAndEnd_3 rfl (lv_at hl 2 rfl) ?_
            refine zv_icmp_ge (tgt := 55) S dX3_readNumbersAndEnd_4 (by decide) (by decide) (by decide) (fun c_4 => ?_) (fun c_4 => ?_)
            · skip
              refine lv_aload_n S.1 S.2.1 dX3_readNumbersAndEnd_55 rfl (lv_at hl 1 rfl) ?_
              refine lv_bipush (v := iI (((59 : Nat) : Int))) S.1 S.2.1 dX3_readNumbersAndEnd_56 (by decide) ?_
              refine zc_Vi (n := 1) (As := [.int (iI ((59 : Nat) : Int))]) (rest := []) S hAM hA (kX3_readSign l X qt Qt lnn ss rs e7 (p + 1) tx 59 ht (by omega) (by decide)) rfl gX3_readNumbersAndEnd_X3_readSign  (by decide +kernel) ⟨Nat.le_of_ble_eq_true rfl, Nat.le_of_ble_eq_true rfl⟩ hH hS [0, 1, 2] rfl 3 rfl (List.Perm.refl _) 3 0 rfl rfl rfl hl.1 rfl (Nat.le_of_ble_eq_true rfl) dX3_readNumbersAndEnd_58 ⟨Nat.le_of_ble_eq_true rfl, Nat.le_of_ble_eq_true rfl⟩ (fun z14 sj_13 H locs hp15 hH hS => ?_)
              have hH : Hold X A [toW qt Qt ((lnn : Nat) : Int) ss rs ((sj_13 : Nat) : Int) (((p + 1) : Nat) : Int), cW X (Qt 0) 400 tx, aW X (Qt 1) 4 (uI nm 0 (x11))].flatten H := hH
              rcases hp15 with ⟨rfl, b_58⟩ | ⟨rfl, b_58⟩
              · refine zv_top (z := 1) (z2 := ((1 : Nat) : Int)) rfl ?_
                obtain ⟨hq_, rfl⟩ := b_58
                have hq_ : e7 < lnn ∧ tx e7 = 59 := hq_
                exact hret 61 ls _ _ (((1 : Nat) : Int)) ((e7 + 1), (p + 1), uI nm 0 (x11)) dX3_readNumbersAndEnd_61 rfl ⟨Or.inl ⟨rfl, (by rw [rn1, hm12, bnd_some, if_pos hq_]; rfl), (by show 0 ≤ x11 ∧ x11 ≤ 999; omega)⟩, (by omega), (by omega)⟩ hH hS
              · refine zv_top (z := 0) (z2 := ((0 : Nat) : Int)) rfl ?_
                obtain ⟨hq_, rfl⟩ := b_58
                have hq_ : ¬ (e7 < lnn ∧ tx e7 = 59) := hq_
                exact hret 61 ls _ _ (((0 : Nat) : Int)) (e7, (p + 1), uI nm 0 (x11)) dX3_readNumbersAndEnd_61 rfl ⟨Or.inr ⟨rfl, (by rw [rn1, hm12, bnd_some, if_neg hq_])⟩, (by omega), (by omega)⟩ hH hS
            · exact (show False by omega).elim
          · skip
            refine lv_iconst (v := iI (((0 : Nat) : Int))) S.1 S.2.1 dX3_readNumbersAndEnd_47 (by decide) ?_
            exact hret 48 ls _ _ (((0 : Nat) : Int)) (e7, (p + 1), uI nm 0 (nvR tx (p + 1) (e7 - (p + 1)))) dX3_readNumbersAndEnd_48 rfl ⟨Or.inr ⟨rfl, (by rw [rn1, num1_bad he7 c_44]; rfl)⟩, (by omega), (by omega)⟩ hH hS
        · exact (show False by omega).elim
      · refine zv_top (z := 0) (z2 := ((0 : Nat) : Int)) rfl ?_
        obtain ⟨hq_, rfl⟩ := b_15
        have hq_ : ¬ (p < lnn ∧ tx p = 32) := hq_
        refine zv_if_ne (tgt := 23) S dX3_readNumbersAndEnd_18 (by decide) (by decide) (fun c_18 => ?_) (fun c_18 => ?_)
        · exact (show False by omega).elim
        · skip
          refine lv_iconst (v := iI (((0 : Nat) : Int))) S.1 S.2.1 dX3_readNumbersAndEnd_21 (by decide) ?_
          exact hret 22 ls _ _ (((0 : Nat) : Int)) (p, w, nm) dX3_readNumbersAndEnd_22 rfl ⟨Or.inr ⟨rfl, (by rw [rn1, num1_no hq_]; rfl)⟩, (by omega), (by omega)⟩ hH hS

set_option maxHeartbeats 4000000 in
set_option maxRecDepth 100000 in
theorem kX3_rn2 (l : Launch) (X : XT) (qt : Nat) (Qt : Nat → Nat) (lnn : Nat) (ss : Int) (rs : Int) (p : Nat) (w : Nat) (tx : Nat → Int) (nm : Nat → Int) (ht : okT tx lnn) (hwp : w ≤ 400 ∧ p ≤ lnn) : Ci l yX3_readNumbersAndEnd wsX3_readNumbersAndEnd (rmD 2) X [.ref qt, .int (iI ((2 : Nat) : Int))] [toW qt Qt ((lnn : Nat) : Int) ss rs ((p : Nat) : Int) ((w : Nat) : Int), cW X (Qt 0) 400 tx, aW X (Qt 1) 4 nm] (fun (z : Int) (u : (Nat) × (Nat) × (Nat → Int)) => match u with | (sj, wj, nm2) => ((z = 1 ∧ (rn2 tx lnn p = some (nm2 0, nm2 1, sj) ∧ (0 ≤ nm2 0 ∧ nm2 0 ≤ 999) ∧ (0 ≤ nm2 1 ∧ nm2 1 ≤ 999))) ∨ (z = 0 ∧ (rn2 tx lnn p = none))) ∧ sj ≤ lnn ∧ wj ≤ 400) (fun (u : (Nat) × (Nat) × (Nat → Int)) => match u with | (sj, wj, nm2) => [toW qt Qt ((lnn : Nat) : Int) ss rs ((sj : Nat) : Int) ((wj : Nat) : Int), cW X (Qt 0) 400 tx, aW X (Qt 1) 4 nm2]) := by
  refine Ci.ofW (cc := cX3_readNumbersAndEnd) (maxL := 3) (by decide) rfl (Nat.le_of_ble_eq_true rfl) ?_
  intro p_ e_ s_ m_ below meth c_ A Q_ S hA hAM hH hS hret ls hl
  have hl : lv_has ls 3 [(0, .ref (qt)), (1, .int (iI ((2 : Nat) : Int)))] := hl
  have hL := ht.1
  refine lv_iconst (v := iI (((0 : Nat) : Int))) S.1 S.2.1 dX3_readNumbersAndEnd_0 (by decide) ?_
  refine lv_istore_n (lv' := [(2, .int (iI ((0 : Nat) : Int))), (0, .ref (qt)), (1, .int (iI ((2 : Nat) : Int)))]) S.1 S.2.1 dX3_readNumbersAndEnd_1 rfl hl (by decide) rfl (fun ls hl => ?_)
  refine lv_iload_n S.1 S.2.1 dX3_readNumbersAndEnd_2 rfl (lv_at hl 0 rfl) ?_
  refine lv_iload_n S.1 S.2.1 dX3_readNumbersAndEnd_3 rfl (lv_at hl 2 rfl) ?_
  refine zv_icmp_ge (tgt := 55) S dX3_readNumbersAndEnd_4 (by decide) (by decide) (by decide) (fun c_4 => ?_) (fun c_4 => ?_)
  · exact (show False by omega).elim
  · skip
    refine lv_iload_n S.1 S.2.1 dX3_readNumbersAndEnd_7 rfl (lv_at hl 0 rfl) ?_
    refine lv_iconst (v := iI (((4 : Nat) : Int))) S.1 S.2.1 dX3_readNumbersAndEnd_8 (by decide) ?_
    refine zv_icmp_ge (tgt := 55) S dX3_readNumbersAndEnd_9 (by decide) (by decide) (by decide) (fun c_9 => ?_) (fun c_9 => ?_)
    · exact (show False by omega).elim
    · skip
      refine lv_aload_n S.1 S.2.1 dX3_readNumbersAndEnd_12 rfl (lv_at hl 1 rfl) ?_
      refine lv_bipush (v := iI (((32 : Nat) : Int))) S.1 S.2.1 dX3_readNumbersAndEnd_13 (by decide) ?_
      refine zc_Vi (n := 1) (As := [.int (iI ((32 : Nat) : Int))]) (rest := []) S hAM hA (kX3_readSign l X qt Qt lnn ss rs p w tx 32 ht (by omega) (by decide)) rfl gX3_readNumbersAndEnd_X3_readSign  (by decide +kernel) ⟨Nat.le_of_ble_eq_true rfl, Nat.le_of_ble_eq_true rfl⟩ hH hS [0, 1, 2] rfl 3 rfl (List.Perm.refl _) 3 0 rfl rfl rfl hl.1 rfl (Nat.le_of_ble_eq_true rfl) dX3_readNumbersAndEnd_15 ⟨Nat.le_of_ble_eq_true rfl, Nat.le_of_ble_eq_true rfl⟩ (fun z2 sj_1 H locs hp3 hH hS => ?_)
      have hH : Hold X A [toW qt Qt ((lnn : Nat) : Int) ss rs ((sj_1 : Nat) : Int) ((w : Nat) : Int), cW X (Qt 0) 400 tx, aW X (Qt 1) 4 nm].flatten H := hH
      rcases hp3 with ⟨rfl, b_15⟩ | ⟨rfl, b_15⟩
      · refine zv_top (z := 1) (z2 := ((1 : Nat) : Int)) rfl ?_
        obtain ⟨hq_, rfl⟩ := b_15
        have hq_ : p < lnn ∧ tx p = 32 := hq_
        refine zv_if_ne (tgt := 23) S dX3_readNumbersAndEnd_18 (by decide) (by decide) (fun c_18 => ?_) (fun c_18 => ?_)
        · skip
          refine lv_aload_n S.1 S.2.1 dX3_readNumbersAndEnd_23 rfl (lv_at hl 1 rfl) ?_
          refine zc_Vv (n := 0) (As := []) (rest := []) S hAM hA (kX3_readWord l X qt Qt lnn ss rs (p + 1) w tx ht (by omega)) rfl gX3_readNumbersAndEnd_X3_readWord  (by decide +kernel) ⟨Nat.le_of_ble_eq_true rfl, Nat.le_of_ble_eq_true rfl⟩ hH hS [0, 1, 2] rfl 3 rfl (List.Perm.refl _) 3 0 rfl rfl rfl hl.1 rfl (Nat.le_of_ble_eq_true rfl) dX3_readNumbersAndEnd_24 ⟨Nat.le_of_ble_eq_true rfl, Nat.le_of_ble_eq_true rfl⟩ (fun _ H locs hp6 hH hS => ?_)
          have hH : Hold X A [toW qt Qt ((lnn : Nat) : Int) ss rs ((we tx lnn (p + 1) : Nat) : Int) (((p + 1) : Nat) : Int), cW X (Qt 0) 400 tx, aW X (Qt 1) 4 nm].flatten H := hH
          have hle_ := we_le tx lnn _ (p + 1) rfl (by omega)
          have hge_ := we_ge tx lnn _ (p + 1) rfl
          obtain ⟨e7, he7⟩ : ∃ y_, y_ = we tx lnn (p + 1) := ⟨_, rfl⟩
          rw [← he7] at hH hle_ hge_
          have hH : Hold X A [toW qt Qt ((lnn : Nat) : Int) ss rs ((e7 : Nat) : Int) (((p + 1) : Nat) : Int), cW X (Qt 0) 400 tx, aW X (Qt 1) 4 nm].flatten _ := hH
          refine lv_aload_n S.1 S.2.1 dX3_readNumbersAndEnd_27 rfl (lv_at hl 1 rfl) ?_
          refine zv_get (v := .ref (Qt 1)) S hAM hH nX3_readNumbersAndEnd_X3 0 rfl rfl 6 (by decide) mX3_readNumbersAndEnd_1 rfl rfl dX3_readNumbersAndEnd_28 ?_
          refine lv_iload_n S.1 S.2.1 dX3_readNumbersAndEnd_31 rfl (lv_at hl 0 rfl) ?_
          refine lv_aload_n S.1 S.2.1 dX3_readNumbersAndEnd_32 rfl (lv_at hl 1 rfl) ?_
          refine zc_Vi (n := 0) (As := []) (rest := [.int (iI ((0 : Nat) : Int)), .ref (Qt 1)]) S hAM hA (kX3_wordAsNumber l X qt Qt lnn ss rs e7 (p + 1) tx ht (by omega)) rfl gX3_readNumbersAndEnd_X3_wordAsNumber  (by decide +kernel) ⟨Nat.le_of_ble_eq_true rfl, Nat.le_of_ble_eq_true rfl⟩ hH hS [0, 1, 2] rfl 3 rfl (List.Perm.refl _) 3 0 rfl rfl rfl hl.1 rfl (Nat.le_of_ble_eq_true rfl) dX3_readNumbersAndEnd_33 ⟨Nat.le_of_ble_eq_true rfl, Nat.le_of_ble_eq_true rfl⟩ (fun z9 _ H locs hp10 hH hS => ?_)
          have hH : Hold X A [toW qt Qt ((lnn : Nat) : Int) ss rs ((e7 : Nat) : Int) (((p + 1) : Nat) : Int), cW X (Qt 0) 400 tx, aW X (Qt 1) 4 nm].flatten H := hH
          obtain rfl := hp10
          refine zv_iast (z := nvR tx (p + 1) (e7 - (p + 1))) (w2 := [toW qt Qt ((lnn : Nat) : Int) ss rs ((e7 : Nat) : Int) (((p + 1) : Nat) : Int), cW X (Qt 0) 400 tx, aW X (Qt 1) 4 (uI nm 0 (nvR tx (p + 1) (e7 - (p + 1))))].flatten) S hAM hH hS 2 rfl (0) rfl (by decide) (by decide) rfl dX3_readNumbersAndEnd_36 (fun H locs hH hS => ?_)
          refine lv_aload_n S.1 S.2.1 dX3_readNumbersAndEnd_37 rfl (lv_at hl 1 rfl) ?_
          refine zv_get (v := .ref (Qt 1)) S hAM hH nX3_readNumbersAndEnd_X3 0 rfl rfl 6 (by decide) mX3_readNumbersAndEnd_1 rfl rfl dX3_readNumbersAndEnd_38 ?_
          refine lv_iload_n S.1 S.2.1 dX3_readNumbersAndEnd_41 rfl (lv_at hl 0 rfl) ?_
          refine zv_iald S hAM hH 2 rfl (0) rfl (by decide) (by decide) dX3_readNumbersAndEnd_42 ?_
          refine zv_top (z := (uI nm 0 (nvR tx (p + 1) (e7 - (p + 1)))) 0) (z2 := nvR tx (p + 1) (e7 - (p + 1))) (uI_s _ _ _) ?_
          refine lv_iconst (v := iI (-1)) S.1 S.2.1 dX3_readNumbersAndEnd_43 (by decide) ?_
          refine zv_icmp_ne (tgt := 49) S dX3_readNumbersAndEnd_44 (by decide) (by have := nvR_b tx (p + 1) (e7 - (p + 1)); omega) (by decide) (fun c_44 => ?_) (fun c_44 => ?_)
          · skip
            have hm12 := num1_ok hq_ he7 c_44
            have hbx11 := nvR_b tx (p + 1) (e7 - (p + 1))
            obtain ⟨x11, hx11⟩ : ∃ y_, y_ = nvR tx (p + 1) (e7 - (p + 1)) := ⟨_, rfl⟩
            rw [← hx11] at hH hm12 hbx11 c_44
            have hH : Hold X A [toW qt Qt ((lnn : Nat) : Int) ss rs ((e7 : Nat) : Int) (((p + 1) : Nat) : Int), cW X (Qt 0) 400 tx, aW X (Qt 1) 4 (uI nm 0 (x11))].flatten _ := hH
            refine zv_iinc (z := ((1 : Nat) : Int)) (lv' := [(2, .int (iI ((1 : Nat) : Int))), (0, .ref (qt)), (1, .int (iI ((2 : Nat) : Int)))]) S dX3_readNumbersAndEnd_49 hl (k := 0) rfl (by decide) (by decide) rfl (fun ls hl => ?_)
            refine lv_goto (tgt := 2) S.1 S.2.1 dX3_readNumbersAndEnd_52 (by decide) ?_
            refine lv_iload_n S.1 S.2.1 dX3_readNumbersAndEnd_2 rfl (lv_at hl 0 rfl) ?_
            refine lv_iload_n S.1 S.2.1 dX3_readNumbersAndEnd_3 rfl (lv_at hl 2 rfl) ?_
            refine zv_icmp_ge (tgt := 55) S dX3_readNumbersAndEnd_4 (by decide) (by decide) (by decide) (fun c_4 => ?_) (fun c_4 => ?_)
            · exact (show False by omega).elim
            · skip
              refine lv_iload_n S.1 S.2.1 dX3_readNumbersAndEnd_7 rfl (lv_at hl 0 rfl) ?_
              refine lv_iconst (v := iI (((4 : Nat) : Int))) S.1 S.2.1 dX3_readNumbersAndEnd_8 (by decide) ?_
              refine zv_icmp_ge (tgt := 55) S dX3_readNumbersAndEnd_9 (by decide) (by decide) (by decide) (fun c_9 => ?_) (fun c_9 => ?_)
              · exact (show False by omega).elim
              · skip
                refine lv_aload_n S.1 S.2.1 dX3_readNumbersAndEnd_12 rfl (lv_at hl 1 rfl) ?_
                refine lv_bipush (v := iI (((32 : Nat) : Int))) S.1 S.2.1 dX3_readNumbersAndEnd_13 (by decide) ?_
                refine zc_Vi (n := 1) (As := [.int (iI ((32 : Nat) : Int))]) (rest := []) S hAM hA (kX3_readSign l X qt Qt lnn ss rs e7 (p + 1) tx 32 ht (by omega) (by decide)) rfl gX3_readNumbersAndEnd_X3_readSign  (by decide +kernel) ⟨Nat.le_of_ble_eq_true rfl, Nat.le_of_ble_eq_true rfl⟩ hH hS [0, 1, 2] rfl 3 rfl (List.Perm.refl _) 3 0 rfl rfl rfl hl.1 rfl (Nat.le_of_ble_eq_true rfl) dX3_readNumbersAndEnd_15 ⟨Nat.le_of_ble_eq_true rfl, Nat.le_of_ble_eq_true rfl⟩ (fun z14 sj_13 H locs hp15 hH hS => ?_)
                have hH : Hold X A [toW qt Qt ((lnn : Nat) : Int) ss rs ((sj_13 : Nat) : Int) (((p + 1) : Nat) : Int), cW X (Qt 0) 400 tx, aW X (Qt 1) 4 (uI nm 0 (x11))].flatten H := hH
                rcases hp15 with ⟨rfl, b_15⟩ | ⟨rfl, b_15⟩
                · refine zv_top (z := 1) (z2 := ((1 : Nat) : Int)) rfl ?_
                  obtain ⟨hq_, rfl⟩ := b_15
                  have hq_ : e7 < lnn ∧ tx e7 = 32 := hq_
                  refine zv_if_ne (tgt := 23) S dX3_readNumbersAndEnd_18 (by decide) (by decide) (fun c_18 => ?_) (fun c_18 => ?_)
                  · skip
                    refine lv_aload_n S.1 S.2.1 dX3_readNumbersAndEnd_23 rfl (lv_at hl 1 rfl) ?_
                    refine zc_Vv (n := 0) (As := []) (rest := []) S hAM hA (kX3_readWord l X qt Qt lnn ss rs (e7 + 1) (p + 1) tx ht (by omega)) rfl gX3_readNumbersAndEnd_X3_readWord  (by decide +kernel) ⟨Nat.le_of_ble_eq_true rfl, Nat.le_of_ble_eq_true rfl⟩ hH hS [0, 1, 2] rfl 3 rfl (List.Perm.refl _) 3 0 rfl rfl rfl hl.1 rfl (Nat.le_of_ble_eq_true rfl) dX3_readNumbersAndEnd_24 ⟨Nat.le_of_ble_eq_true rfl, Nat.le_of_ble_eq_true rfl⟩ (fun _ H locs hp18 hH hS => ?_)
                    have hH : Hold X A [toW qt Qt ((lnn : Nat) : Int) ss rs ((we tx lnn (e7 + 1) : Nat) : Int) (((e7 + 1) : Nat) : Int), cW X (Qt 0) 400 tx, aW X (Qt 1) 4 (uI nm 0 (x11))].flatten H := hH
                    have hle_ := we_le tx lnn _ (e7 + 1) rfl (by omega)
                    have hge_ := we_ge tx lnn _ (e7 + 1) rfl
                    obtain ⟨e19, he19⟩ : ∃ y_, y_ = we tx lnn (e7 + 1) := ⟨_, rfl⟩
                    rw [← he19] at hH hle_ hge_
                    have hH : Hold X A [toW qt Qt ((lnn : Nat) : Int) ss rs ((e19 : Nat) : Int) (((e7 + 1) : Nat) : Int), cW X (Qt 0) 400 tx, aW X (Qt 1) 4 (uI nm 0 (x11))].flatten _ := hH
                    refine lv_aload_n S.1 S.2.1 dX3_readNumbersAndEnd_27 rfl (lv_at hl 1 rfl) ?_
                    refine zv_get (v := .ref (Qt 1)) S hAM hH nX3_readNumbersAndEnd_X3 0 rfl rfl 6 (by decide) mX3_readNumbersAndEnd_1 rfl rfl dX3_readNumbersAndEnd_28 ?_
                    refine lv_iload_n S.1 S.2.1 dX3_readNumbersAndEnd_31 rfl (lv_at hl 0 rfl) ?_
                    refine lv_aload_n S.1 S.2.1 dX3_readNumbersAndEnd_32 rfl (lv_at hl 1 rfl) ?_
                    refine zc_Vi (n := 0) (As := []) (rest := [.int (iI ((1 : Nat) : Int)), .ref (Qt 1)]) S hAM hA (kX3_wordAsNumber l X qt Qt lnn ss rs e19 (e7 + 1) tx ht (by omega)) rfl gX3_readNumbersAndEnd_X3_wordAsNumber  (by decide +kernel) ⟨Nat.le_of_ble_eq_true rfl, Nat.le_of_ble_eq_true rfl⟩ hH hS [0, 1, 2] rfl 3 rfl (List.Perm.refl _) 3 0 rfl rfl rfl hl.1 rfl (Nat.le_of_ble_eq_true rfl) dX3_readNumbersAndEnd_33 ⟨Nat.le_of_ble_eq_true rfl, Nat.le_of_ble_eq_true rfl⟩ (fun z21 _ H locs hp22 hH hS => ?_)
                    have hH : Hold X A [toW qt Qt ((lnn : Nat) : Int) ss rs ((e19 : Nat) : Int) (((e7 + 1) : Nat) : Int), cW X (Qt 0) 400 tx, aW X (Qt 1) 4 (uI nm 0 (x11))].flatten H := hH
                    obtain rfl := hp22
                    refine zv_iast (z := nvR tx (e7 + 1) (e19 - (e7 + 1))) (w2 := [toW qt Qt ((lnn : Nat) : Int) ss rs ((e19 : Nat) : Int) (((e7 + 1) : Nat) : Int), cW X (Qt 0) 400 tx, aW X (Qt 1) 4 (uI (uI nm 0 (x11)) 1 (nvR tx (e7 + 1) (e19 - (e7 + 1))))].flatten) S hAM hH hS 2 rfl (1) rfl (by decide) (by decide) rfl dX3_readNumbersAndEnd_36 (fun H locs hH hS => ?_)
                    refine lv_aload_n S.1 S.2.1 dX3_readNumbersAndEnd_37 rfl (lv_at hl 1 rfl) ?_
                    refine zv_get (v := .ref (Qt 1)) S hAM hH nX3_readNumbersAndEnd_X3 0 rfl rfl 6 (by decide) mX3_readNumbersAndEnd_1 rfl rfl dX3_readNumbersAndEnd_38 ?_
                    refine lv_iload_n S.1 S.2.1 dX3_readNumbersAndEnd_41 rfl (lv_at hl 0 rfl) ?_
                    refine zv_iald S hAM hH 2 rfl (1) rfl (by decide) (by decide) dX3_readNumbersAndEnd_42 ?_
                    refine zv_top (z := (uI (uI nm 0 (x11)) 1 (nvR tx (e7 + 1) (e19 - (e7 + 1)))) 1) (z2 := nvR tx (e7 + 1) (e19 - (e7 + 1))) (uI_s _ _ _) ?_
                    refine lv_iconst (v := iI (-1)) S.1 S.2.1 dX3_readNumbersAndEnd_43 (by decide) ?_
                    refine zv_icmp_ne (tgt := 49) S dX3_readNumbersAndEnd_44 (by decide) (by have := nvR_b tx (e7 + 1) (e19 - (e7 + 1)); omega) (by decide) (fun c_44 => ?_) (fun c_44 => ?_)
                    · skip
                      have hm24 := num1_ok hq_ he19 c_44
                      have hbx23 := nvR_b tx (e7 + 1) (e19 - (e7 + 1))
                      obtain ⟨x23, hx23⟩ : ∃ y_, y_ = nvR tx (e7 + 1) (e19 - (e7 + 1)) := ⟨_, rfl⟩
                      rw [← hx23] at hH hm24 hbx23 c_44
                      have hH : Hold X A [toW qt Qt ((lnn : Nat) : Int) ss rs ((e19 : Nat) : Int) (((e7 + 1) : Nat) : Int), cW X (Qt 0) 400 tx, aW X (Qt 1) 4 (uI (uI nm 0 (x11)) 1 (x23))].flatten _ := hH
                      refine zv_iinc (z := ((2 : Nat) : Int)) (lv' := [(2, .int (iI ((2 : Nat) : Int))), (0, .ref (qt)), (1, .int (iI ((2 : Nat) : Int)))]) S dX3_readNumbersAndEnd_49 hl (k := 0) rfl (by decide) (by decide) rfl (fun ls hl => ?_)
                      refine lv_goto (tgt := 2) S.1 S.2.1 dX3_readNumbersAndEnd_52 (by decide) ?_
                      refine lv_iload_n S.1 S.2.1 dX3_readNumbersAndEnd_2 rfl (lv_at hl 0 rfl) ?_
                      refine lv_iload_n S.1 S.2.1 dX3_readNumbersAndEnd_3 rfl (lv_at hl 2 rfl) ?_
                      refine zv_icmp_ge (tgt := 55) S dX3_readNumbersAndEnd_4 (by decide) (by decide) (by decide) (fun c_4 => ?_) (fun c_4 => ?_)
                      · skip
                        refine lv_aload_n S.1 S.2.1 dX3_readNumbersAndEnd_55 rfl (lv_at hl 1 rfl) ?_
                        refine lv_bipush (v := iI (((59 : Nat) : Int))) S.1 S.2.1 dX3_readNumbersAndEnd_56 (by decide) ?_
                        refine zc_Vi (n := 1) (As := [.int (iI ((59 : Nat) : Int))]) (rest := []) S hAM hA (kX3_readSign l X qt Qt lnn ss rs e19 (e7 + 1) tx 59 ht (by omega) (by decide)) rfl gX3_readNumbersAndEnd_X3_readSign  (by decide +kernel) ⟨Nat.le_of_ble_eq_true rfl, Nat.le_of_ble_eq_true rfl⟩ hH hS [0, 1, 2] rfl 3 rfl (List.Perm.refl _) 3 0 rfl rfl rfl hl.1 rfl (Nat.le_of_ble_eq_true rfl) dX3_readNumbersAndEnd_58 ⟨Nat.le_of_ble_eq_true rfl, Nat.le_of_ble_eq_true rfl⟩ (fun z26 sj_25 H locs hp27 hH hS => ?_)
                        have hH : Hold X A [toW qt Qt ((lnn : Nat) : Int) ss rs ((sj_25 : Nat) : Int) (((e7 + 1) : Nat) : Int), cW X (Qt 0) 400 tx, aW X (Qt 1) 4 (uI (uI nm 0 (x11)) 1 (x23))].flatten H := hH
                        rcases hp27 with ⟨rfl, b_58⟩ | ⟨rfl, b_58⟩
                        · refine zv_top (z := 1) (z2 := ((1 : Nat) : Int)) rfl ?_
                          obtain ⟨hq_, rfl⟩ := b_58
                          have hq_ : e19 < lnn ∧ tx e19 = 59 := hq_
                          exact hret 61 ls _ _ (((1 : Nat) : Int)) ((e19 + 1), (e7 + 1), uI (uI nm 0 (x11)) 1 (x23)) dX3_readNumbersAndEnd_61 rfl ⟨Or.inl ⟨rfl, (by rw [rn2, hm12, bnd_some, hm24, bnd_some, if_pos hq_]; rfl), (by show 0 ≤ x11 ∧ x11 ≤ 999; omega), (by show 0 ≤ x23 ∧ x23 ≤ 999; omega)⟩, (by omega), (by omega)⟩ hH hS
                        · refine zv_top (z := 0) (z2 := ((0 : Nat) : Int)) rfl ?_
                          obtain ⟨hq_, rfl⟩ := b_58
                          have hq_ : ¬ (e19 < lnn ∧ tx e19 = 59) := hq_
                          exact hret 61 ls _ _ (((0 : Nat) : Int)) (e19, (e7 + 1), uI (uI nm 0 (x11)) 1 (x23)) dX3_readNumbersAndEnd_61 rfl ⟨Or.inr ⟨rfl, (by rw [rn2, hm12, bnd_some, hm24, bnd_some, if_neg hq_])⟩, (by omega), (by omega)⟩ hH hS
                      · exact (show False by omega).elim
                    · skip
                      refine lv_iconst (v := iI (((0 : Nat) : Int))) S.1 S.2.1 dX3_readNumbersAndEnd_47 (by decide) ?_
                      exact hret 48 ls _ _ (((0 : Nat) : Int)) (e19, (e7 + 1), uI (uI nm 0 (x11)) 1 (nvR tx (e7 + 1) (e19 - (e7 + 1)))) dX3_readNumbersAndEnd_48 rfl ⟨Or.inr ⟨rfl, (by rw [rn2, hm12, bnd_some, num1_bad he19 c_44]; rfl)⟩, (by omega), (by omega)⟩ hH hS
                  · exact (show False by omega).elim
                · refine zv_top (z := 0) (z2 := ((0 : Nat) : Int)) rfl ?_
                  obtain ⟨hq_, rfl⟩ := b_15
                  have hq_ : ¬ (e7 < lnn ∧ tx e7 = 32) := hq_
                  refine zv_if_ne (tgt := 23) S dX3_readNumbersAndEnd_18 (by decide) (by decide) (fun c_18 => ?_) (fun c_18 => ?_)
                  · exact (show False by omega).elim
                  · skip
                    refine lv_iconst (v := iI (((0 : Nat) : Int))) S.1 S.2.1 dX3_readNumbersAndEnd_21 (by decide) ?_
                    exact hret 22 ls _ _ (((0 : Nat) : Int)) (e7, (p + 1), uI nm 0 (x11)) dX3_readNumbersAndEnd_22 rfl ⟨Or.inr ⟨rfl, (by rw [rn2, hm12, bnd_some, num1_no hq_]; rfl)⟩, (by omega), (by omega)⟩ hH hS
          · skip
            refine lv_iconst (v := iI (((0 : Nat) : Int))) S.1 S.2.1 dX3_readNumbersAndEnd_47 (by decide) ?_
            exact hret 48 ls _ _ (((0 : Nat) : Int)) (e7, (p + 1), uI nm 0 (nvR tx (p + 1) (e7 - (p + 1)))) dX3_readNumbersAndEnd_48 rfl ⟨Or.inr ⟨rfl, (by rw [rn2, num1_bad he7 c_44]; rfl)⟩, (by omega), (by omega)⟩ hH hS
        · exact (show False by omega).elim
      · refine zv_top (z := 0) (z2 := ((0 : Nat) : Int)) rfl ?_
        obtain ⟨hq_, rfl⟩ := b_15
        have hq_ : ¬ (p < lnn ∧ tx p = 32) := hq_
        refine zv_if_ne (tgt := 23) S dX3_readNumbersAndEnd_18 (by decide) (by decide) (fun c_18 => ?_) (fun c_18 => ?_)
        · exact (show False by omega).elim
        · skip
          refine lv_iconst (v := iI (((0 : Nat) : Int))) S.1 S.2.1 dX3_readNumbersAndEnd_21 (by decide) ?_
          exact hret 22 ls _ _ (((0 : Nat) : Int)) (p, w, nm) dX3_readNumbersAndEnd_22 rfl ⟨Or.inr ⟨rfl, (by rw [rn2, num1_no hq_]; rfl)⟩, (by omega), (by omega)⟩ hH hS

set_option maxHeartbeats 4000000 in
set_option maxRecDepth 100000 in
theorem kX3_rn4 (l : Launch) (X : XT) (qt : Nat) (Qt : Nat → Nat) (lnn : Nat) (ss : Int) (rs : Int) (p : Nat) (w : Nat) (tx : Nat → Int) (nm : Nat → Int) (ht : okT tx lnn) (hwp : w ≤ 400 ∧ p ≤ lnn) : Ci l yX3_readNumbersAndEnd wsX3_readNumbersAndEnd (rmD 2) X [.ref qt, .int (iI ((4 : Nat) : Int))] [toW qt Qt ((lnn : Nat) : Int) ss rs ((p : Nat) : Int) ((w : Nat) : Int), cW X (Qt 0) 400 tx, aW X (Qt 1) 4 nm] (fun (z : Int) (u : (Nat) × (Nat) × (Nat → Int)) => match u with | (sj, wj, nm2) => ((z = 1 ∧ (rn4 tx lnn p = some (nm2 0, nm2 1, nm2 2, nm2 3, sj) ∧ (0 ≤ nm2 0 ∧ nm2 0 ≤ 999) ∧ (0 ≤ nm2 1 ∧ nm2 1 ≤ 999) ∧ (0 ≤ nm2 2 ∧ nm2 2 ≤ 999) ∧ (0 ≤ nm2 3 ∧ nm2 3 ≤ 999))) ∨ (z = 0 ∧ (rn4 tx lnn p = none))) ∧ sj ≤ lnn ∧ wj ≤ 400) (fun (u : (Nat) × (Nat) × (Nat → Int)) => match u with | (sj, wj, nm2) => [toW qt Qt ((lnn : Nat) : Int) ss rs ((sj : Nat) : Int) ((wj : Nat) : Int), cW X (Qt 0) 400 tx, aW X (Qt 1) 4 nm2]) := by
  refine Ci.ofW (cc := cX3_readNumbersAndEnd) (maxL := 3) (by decide) rfl (Nat.le_of_ble_eq_true rfl) ?_
  intro p_ e_ s_ m_ below meth c_ A Q_ S hA hAM hH hS hret ls hl
  have hl : lv_has ls 3 [(0, .ref (qt)), (1, .int (iI ((4 : Nat) : Int)))] := hl
  have hL := ht.1
  refine lv_iconst (v := iI (((0 : Nat) : Int))) S.1 S.2.1 dX3_readNumbersAndEnd_0 (by decide) ?_
  refine lv_istore_n (lv' := [(2, .int (iI ((0 : Nat) : Int))), (0, .ref (qt)), (1, .int (iI ((4 : Nat) : Int)))]) S.1 S.2.1 dX3_readNumbersAndEnd_1 rfl hl (by decide) rfl (fun ls hl => ?_)
  refine lv_iload_n S.1 S.2.1 dX3_readNumbersAndEnd_2 rfl (lv_at hl 0 rfl) ?_
  refine lv_iload_n S.1 S.2.1 dX3_readNumbersAndEnd_3 rfl (lv_at hl 2 rfl) ?_
  refine zv_icmp_ge (tgt := 55) S dX3_readNumbersAndEnd_4 (by decide) (by decide) (by decide) (fun c_4 => ?_) (fun c_4 => ?_)
  · exact (show False by omega).elim
  · skip
    refine lv_iload_n S.1 S.2.1 dX3_readNumbersAndEnd_7 rfl (lv_at hl 0 rfl) ?_
    refine lv_iconst (v := iI (((4 : Nat) : Int))) S.1 S.2.1 dX3_readNumbersAndEnd_8 (by decide) ?_
    refine zv_icmp_ge (tgt := 55) S dX3_readNumbersAndEnd_9 (by decide) (by decide) (by decide) (fun c_9 => ?_) (fun c_9 => ?_)
    · exact (show False by omega).elim
    · skip
      refine lv_aload_n S.1 S.2.1 dX3_readNumbersAndEnd_12 rfl (lv_at hl 1 rfl) ?_
      refine lv_bipush (v := iI (((32 : Nat) : Int))) S.1 S.2.1 dX3_readNumbersAndEnd_13 (by decide) ?_
      refine zc_Vi (n := 1) (As := [.int (iI ((32 : Nat) : Int))]) (rest := []) S hAM hA (kX3_readSign l X qt Qt lnn ss rs p w tx 32 ht (by omega) (by decide)) rfl gX3_readNumbersAndEnd_X3_readSign  (by decide +kernel) ⟨Nat.le_of_ble_eq_true rfl, Nat.le_of_ble_eq_true rfl⟩ hH hS [0, 1, 2] rfl 3 rfl (List.Perm.refl _) 3 0 rfl rfl rfl hl.1 rfl (Nat.le_of_ble_eq_true rfl) dX3_readNumbersAndEnd_15 ⟨Nat.le_of_ble_eq_true rfl, Nat.le_of_ble_eq_true rfl⟩ (fun z2 sj_1 H locs hp3 hH hS => ?_)
      have hH : Hold X A [toW qt Qt ((lnn : Nat) : Int) ss rs ((sj_1 : Nat) : Int) ((w : Nat) : Int), cW X (Qt 0) 400 tx, aW X (Qt 1) 4 nm].flatten H := hH
      rcases hp3 with ⟨rfl, b_15⟩ | ⟨rfl, b_15⟩
      · refine zv_top (z := 1) (z2 := ((1 : Nat) : Int)) rfl ?_
        obtain ⟨hq_, rfl⟩ := b_15
        have hq_ : p < lnn ∧ tx p = 32 := hq_
        refine zv_if_ne (tgt := 23) S dX3_readNumbersAndEnd_18 (by decide) (by decide) (fun c_18 => ?_) (fun c_18 => ?_)
        · skip
          refine lv_aload_n S.1 S.2.1 dX3_readNumbersAndEnd_23 rfl (lv_at hl 1 rfl) ?_
          refine zc_Vv (n := 0) (As := []) (rest := []) S hAM hA (kX3_readWord l X qt Qt lnn ss rs (p + 1) w tx ht (by omega)) rfl gX3_readNumbersAndEnd_X3_readWord  (by decide +kernel) ⟨Nat.le_of_ble_eq_true rfl, Nat.le_of_ble_eq_true rfl⟩ hH hS [0, 1, 2] rfl 3 rfl (List.Perm.refl _) 3 0 rfl rfl rfl hl.1 rfl (Nat.le_of_ble_eq_true rfl) dX3_readNumbersAndEnd_24 ⟨Nat.le_of_ble_eq_true rfl, Nat.le_of_ble_eq_true rfl⟩ (fun _ H locs hp6 hH hS => ?_)
          have hH : Hold X A [toW qt Qt ((lnn : Nat) : Int) ss rs ((we tx lnn (p + 1) : Nat) : Int) (((p + 1) : Nat) : Int), cW X (Qt 0) 400 tx, aW X (Qt 1) 4 nm].flatten H := hH
          have hle_ := we_le tx lnn _ (p + 1) rfl (by omega)
          have hge_ := we_ge tx lnn _ (p + 1) rfl
          obtain ⟨e7, he7⟩ : ∃ y_, y_ = we tx lnn (p + 1) := ⟨_, rfl⟩
          rw [← he7] at hH hle_ hge_
          have hH : Hold X A [toW qt Qt ((lnn : Nat) : Int) ss rs ((e7 : Nat) : Int) (((p + 1) : Nat) : Int), cW X (Qt 0) 400 tx, aW X (Qt 1) 4 nm].flatten _ := hH
          refine lv_aload_n S.1 S.2.1 dX3_readNumbersAndEnd_27 rfl (lv_at hl 1 rfl) ?_
          refine zv_get (v := .ref (Qt 1)) S hAM hH nX3_readNumbersAndEnd_X3 0 rfl rfl 6 (by decide) mX3_readNumbersAndEnd_1 rfl rfl dX3_readNumbersAndEnd_28 ?_
          refine lv_iload_n S.1 S.2.1 dX3_readNumbersAndEnd_31 rfl (lv_at hl 0 rfl) ?_
          refine lv_aload_n S.1 S.2.1 dX3_readNumbersAndEnd_32 rfl (lv_at hl 1 rfl) ?_
          refine zc_Vi (n := 0) (As := []) (rest := [.int (iI ((0 : Nat) : Int)), .ref (Qt 1)]) S hAM hA (kX3_wordAsNumber l X qt Qt lnn ss rs e7 (p + 1) tx ht (by omega)) rfl gX3_readNumbersAndEnd_X3_wordAsNumber  (by decide +kernel) ⟨Nat.le_of_ble_eq_true rfl, Nat.le_of_ble_eq_true rfl⟩ hH hS [0, 1, 2] rfl 3 rfl (List.Perm.refl _) 3 0 rfl rfl rfl hl.1 rfl (Nat.le_of_ble_eq_true rfl) dX3_readNumbersAndEnd_33 ⟨Nat.le_of_ble_eq_true rfl, Nat.le_of_ble_eq_true rfl⟩ (fun z9 _ H locs hp10 hH hS => ?_)
          have hH : Hold X A [toW qt Qt ((lnn : Nat) : Int) ss rs ((e7 : Nat) : Int) (((p + 1) : Nat) : Int), cW X (Qt 0) 400 tx, aW X (Qt 1) 4 nm].flatten H := hH
          obtain rfl := hp10
          refine zv_iast (z := nvR tx (p + 1) (e7 - (p + 1))) (w2 := [toW qt Qt ((lnn : Nat) : Int) ss rs ((e7 : Nat) : Int) (((p + 1) : Nat) : Int), cW X (Qt 0) 400 tx, aW X (Qt 1) 4 (uI nm 0 (nvR tx (p + 1) (e7 - (p + 1))))].flatten) S hAM hH hS 2 rfl (0) rfl (by decide) (by decide) rfl dX3_readNumbersAndEnd_36 (fun H locs hH hS => ?_)
          refine lv_aload_n S.1 S.2.1 dX3_readNumbersAndEnd_37 rfl (lv_at hl 1 rfl) ?_
          refine zv_get (v := .ref (Qt 1)) S hAM hH nX3_readNumbersAndEnd_X3 0 rfl rfl 6 (by decide) mX3_readNumbersAndEnd_1 rfl rfl dX3_readNumbersAndEnd_38 ?_
          refine lv_iload_n S.1 S.2.1 dX3_readNumbersAndEnd_41 rfl (lv_at hl 0 rfl) ?_
          refine zv_iald S hAM hH 2 rfl (0) rfl (by decide) (by decide) dX3_readNumbersAndEnd_42 ?_
          refine zv_top (z := (uI nm 0 (nvR tx (p + 1) (e7 - (p + 1)))) 0) (z2 := nvR tx (p + 1) (e7 - (p + 1))) (uI_s _ _ _) ?_
          refine lv_iconst (v := iI (-1)) S.1 S.2.1 dX3_readNumbersAndEnd_43 (by decide) ?_
          refine zv_icmp_ne (tgt := 49) S dX3_readNumbersAndEnd_44 (by decide) (by have := nvR_b tx (p + 1) (e7 - (p + 1)); omega) (by decide) (fun c_44 => ?_) (fun c_44 => ?_)
          · skip
            have hm12 := num1_ok hq_ he7 c_44
            have hbx11 := nvR_b tx (p + 1) (e7 - (p + 1))
            obtain ⟨x11, hx11⟩ : ∃ y_, y_ = nvR tx (p + 1) (e7 - (p + 1)) := ⟨_, rfl⟩
            rw [← hx11] at hH hm12 hbx11 c_44
            have hH : Hold X A [toW qt Qt ((lnn : Nat) : Int) ss rs ((e7 : Nat) : Int) (((p + 1) : Nat) : Int), cW X (Qt 0) 400 tx, aW X (Qt 1) 4 (uI nm 0 (x11))].flatten _ := hH
            refine zv_iinc (z := ((1 : Nat) : Int)) (lv' := [(2, .int (iI ((1 : Nat) : Int))), (0, .ref (qt)), (1, .int (iI ((4 : Nat) : Int)))]) S dX3_readNumbersAndEnd_49 hl (k := 0) rfl (by decide) (by decide) rfl (fun ls hl => ?_)
            refine lv_goto (tgt := 2) S.1 S.2.1 dX3_readNumbersAndEnd_52 (by decide) ?_
            refine lv_iload_n S.1 S.2.1 dX3_readNumbersAndEnd_2 rfl (lv_at hl 0 rfl) ?_
            refine lv_iload_n S.1 S.2.1 dX3_readNumbersAndEnd_3 rfl (lv_at hl 2 rfl) ?_
            refine zv_icmp_ge (tgt := 55) S dX3_readNumbersAndEnd_4 (by decide) (by decide) (by decide) (fun c_4 => ?_) (fun c_4 => ?_)
            · exact (show False by omega).elim
            · skip
              refine lv_iload_n S.1 S.2.1 dX3_readNumbersAndEnd_7 rfl (lv_at hl 0 rfl) ?_
              refine lv_iconst (v := iI (((4 : Nat) : Int))) S.1 S.2.1 dX3_readNumbersAndEnd_8 (by decide) ?_
              refine zv_icmp_ge (tgt := 55) S dX3_readNumbersAndEnd_9 (by decide) (by decide) (by decide) (fun c_9 => ?_) (fun c_9 => ?_)
              · exact (show False by omega).elim
              · skip
                refine lv_aload_n S.1 S.2.1 dX3_readNumbersAndEnd_12 rfl (lv_at hl 1 rfl) ?_
                refine lv_bipush (v := iI (((32 : Nat) : Int))) S.1 S.2.1 dX3_readNumbersAndEnd_13 (by decide) ?_
                refine zc_Vi (n := 1) (As := [.int (iI ((32 : Nat) : Int))]) (rest := []) S hAM hA (kX3_readSign l X qt Qt lnn ss rs e7 (p + 1) tx 32 ht (by omega) (by decide)) rfl gX3_readNumbersAndEnd_X3_readSign  (by decide +kernel) ⟨Nat.le_of_ble_eq_true rfl, Nat.le_of_ble_eq_true rfl⟩ hH hS [0, 1, 2] rfl 3 rfl (List.Perm.refl _) 3 0 rfl rfl rfl hl.1 rfl (Nat.le_of_ble_eq_true rfl) dX3_readNumbersAndEnd_15 ⟨Nat.le_of_ble_eq_true rfl, Nat.le_of_ble_eq_true rfl⟩ (fun z14 sj_13 H locs hp15 hH hS => ?_)
                have hH : Hold X A [toW qt Qt ((lnn : Nat) : Int) ss rs ((sj_13 : Nat) : Int) (((p + 1) : Nat) : Int), cW X (Qt 0) 400 tx, aW X (Qt 1) 4 (uI nm 0 (x11))].flatten H := hH
                rcases hp15 with ⟨rfl, b_15⟩ | ⟨rfl, b_15⟩
                · refine zv_top (z := 1) (z2 := ((1 : Nat) : Int)) rfl ?_
                  obtain ⟨hq_, rfl⟩ := b_15
                  have hq_ : e7 < lnn ∧ tx e7 = 32 := hq_
                  refine zv_if_ne (tgt := 23) S dX3_readNumbersAndEnd_18 (by decide) (by decide) (fun c_18 => ?_) (fun c_18 => ?_)
                  · skip
                    refine lv_aload_n S.1 S.2.1 dX3_readNumbersAndEnd_23 rfl (lv_at hl 1 rfl) ?_
                    refine zc_Vv (n := 0) (As := []) (rest := []) S hAM hA (kX3_readWord l X qt Qt lnn ss rs (e7 + 1) (p + 1) tx ht (by omega)) rfl gX3_readNumbersAndEnd_X3_readWord  (by decide +kernel) ⟨Nat.le_of_ble_eq_true rfl, Nat.le_of_ble_eq_true rfl⟩ hH hS [0, 1, 2] rfl 3 rfl (List.Perm.refl _) 3 0 rfl rfl rfl hl.1 rfl (Nat.le_of_ble_eq_true rfl) dX3_readNumbersAndEnd_24 ⟨Nat.le_of_ble_eq_true rfl, Nat.le_of_ble_eq_true rfl⟩ (fun _ H locs hp18 hH hS => ?_)
                    have hH : Hold X A [toW qt Qt ((lnn : Nat) : Int) ss rs ((we tx lnn (e7 + 1) : Nat) : Int) (((e7 + 1) : Nat) : Int), cW X (Qt 0) 400 tx, aW X (Qt 1) 4 (uI nm 0 (x11))].flatten H := hH
                    have hle_ := we_le tx lnn _ (e7 + 1) rfl (by omega)
                    have hge_ := we_ge tx lnn _ (e7 + 1) rfl
                    obtain ⟨e19, he19⟩ : ∃ y_, y_ = we tx lnn (e7 + 1) := ⟨_, rfl⟩
                    rw [← he19] at hH hle_ hge_
                    have hH : Hold X A [toW qt Qt ((lnn : Nat) : Int) ss rs ((e19 : Nat) : Int) (((e7 + 1) : Nat) : Int), cW X (Qt 0) 400 tx, aW X (Qt 1) 4 (uI nm 0 (x11))].flatten _ := hH
                    refine lv_aload_n S.1 S.2.1 dX3_readNumbersAndEnd_27 rfl (lv_at hl 1 rfl) ?_
                    refine zv_get (v := .ref (Qt 1)) S hAM hH nX3_readNumbersAndEnd_X3 0 rfl rfl 6 (by decide) mX3_readNumbersAndEnd_1 rfl rfl dX3_readNumbersAndEnd_28 ?_
                    refine lv_iload_n S.1 S.2.1 dX3_readNumbersAndEnd_31 rfl (lv_at hl 0 rfl) ?_
                    refine lv_aload_n S.1 S.2.1 dX3_readNumbersAndEnd_32 rfl (lv_at hl 1 rfl) ?_
                    refine zc_Vi (n := 0) (As := []) (rest := [.int (iI ((1 : Nat) : Int)), .ref (Qt 1)]) S hAM hA (kX3_wordAsNumber l X qt Qt lnn ss rs e19 (e7 + 1) tx ht (by omega)) rfl gX3_readNumbersAndEnd_X3_wordAsNumber  (by decide +kernel) ⟨Nat.le_of_ble_eq_true rfl, Nat.le_of_ble_eq_true rfl⟩ hH hS [0, 1, 2] rfl 3 rfl (List.Perm.refl _) 3 0 rfl rfl rfl hl.1 rfl (Nat.le_of_ble_eq_true rfl) dX3_readNumbersAndEnd_33 ⟨Nat.le_of_ble_eq_true rfl, Nat.le_of_ble_eq_true rfl⟩ (fun z21 _ H locs hp22 hH hS => ?_)
                    have hH : Hold X A [toW qt Qt ((lnn : Nat) : Int) ss rs ((e19 : Nat) : Int) (((e7 + 1) : Nat) : Int), cW X (Qt 0) 400 tx, aW X (Qt 1) 4 (uI nm 0 (x11))].flatten H := hH
                    obtain rfl := hp22
                    refine zv_iast (z := nvR tx (e7 + 1) (e19 - (e7 + 1))) (w2 := [toW qt Qt ((lnn : Nat) : Int) ss rs ((e19 : Nat) : Int) (((e7 + 1) : Nat) : Int), cW X (Qt 0) 400 tx, aW X (Qt 1) 4 (uI (uI nm 0 (x11)) 1 (nvR tx (e7 + 1) (e19 - (e7 + 1))))].flatten) S hAM hH hS 2 rfl (1) rfl (by decide) (by decide) rfl dX3_readNumbersAndEnd_36 (fun H locs hH hS => ?_)
                    refine lv_aload_n S.1 S.2.1 dX3_readNumbersAndEnd_37 rfl (lv_at hl 1 rfl) ?_
                    refine zv_get (v := .ref (Qt 1)) S hAM hH nX3_readNumbersAndEnd_X3 0 rfl rfl 6 (by decide) mX3_readNumbersAndEnd_1 rfl rfl dX3_readNumbersAndEnd_38 ?_
                    refine lv_iload_n S.1 S.2.1 dX3_readNumbersAndEnd_41 rfl (lv_at hl 0 rfl) ?_
                    refine zv_iald S hAM hH 2 rfl (1) rfl (by decide) (by decide) dX3_readNumbersAndEnd_42 ?_
                    refine zv_top (z := (uI (uI nm 0 (x11)) 1 (nvR tx (e7 + 1) (e19 - (e7 + 1)))) 1) (z2 := nvR tx (e7 + 1) (e19 - (e7 + 1))) (uI_s _ _ _) ?_
                    refine lv_iconst (v := iI (-1)) S.1 S.2.1 dX3_readNumbersAndEnd_43 (by decide) ?_
                    refine zv_icmp_ne (tgt := 49) S dX3_readNumbersAndEnd_44 (by decide) (by have := nvR_b tx (e7 + 1) (e19 - (e7 + 1)); omega) (by decide) (fun c_44 => ?_) (fun c_44 => ?_)
                    · skip
                      have hm24 := num1_ok hq_ he19 c_44
                      have hbx23 := nvR_b tx (e7 + 1) (e19 - (e7 + 1))
                      obtain ⟨x23, hx23⟩ : ∃ y_, y_ = nvR tx (e7 + 1) (e19 - (e7 + 1)) := ⟨_, rfl⟩
                      rw [← hx23] at hH hm24 hbx23 c_44
                      have hH : Hold X A [toW qt Qt ((lnn : Nat) : Int) ss rs ((e19 : Nat) : Int) (((e7 + 1) : Nat) : Int), cW X (Qt 0) 400 tx, aW X (Qt 1) 4 (uI (uI nm 0 (x11)) 1 (x23))].flatten _ := hH
                      refine zv_iinc (z := ((2 : Nat) : Int)) (lv' := [(2, .int (iI ((2 : Nat) : Int))), (0, .ref (qt)), (1, .int (iI ((4 : Nat) : Int)))]) S dX3_readNumbersAndEnd_49 hl (k := 0) rfl (by decide) (by decide) rfl (fun ls hl => ?_)
                      refine lv_goto (tgt := 2) S.1 S.2.1 dX3_readNumbersAndEnd_52 (by decide) ?_
                      refine lv_iload_n S.1 S.2.1 dX3_readNumbersAndEnd_2 rfl (lv_at hl 0 rfl) ?_
                      refine lv_iload_n S.1 S.2.1 dX3_readNumbersAndEnd_3 rfl (lv_at hl 2 rfl) ?_
                      refine zv_icmp_ge (tgt := 55) S dX3_readNumbersAndEnd_4 (by decide) (by decide) (by decide) (fun c_4 => ?_) (fun c_4 => ?_)
                      · exact (show False by omega).elim
                      · skip
                        refine lv_iload_n S.1 S.2.1 dX3_readNumbersAndEnd_7 rfl (lv_at hl 0 rfl) ?_
                        refine lv_iconst (v := iI (((4 : Nat) : Int))) S.1 S.2.1 dX3_readNumbersAndEnd_8 (by decide) ?_
                        refine zv_icmp_ge (tgt := 55) S dX3_readNumbersAndEnd_9 (by decide) (by decide) (by decide) (fun c_9 => ?_) (fun c_9 => ?_)
                        · exact (show False by omega).elim
                        · skip
                          refine lv_aload_n S.1 S.2.1 dX3_readNumbersAndEnd_12 rfl (lv_at hl 1 rfl) ?_
                          refine lv_bipush (v := iI (((32 : Nat) : Int))) S.1 S.2.1 dX3_readNumbersAndEnd_13 (by decide) ?_
                          refine zc_Vi (n := 1) (As := [.int (iI ((32 : Nat) : Int))]) (rest := []) S hAM hA (kX3_readSign l X qt Qt lnn ss rs e19 (e7 + 1) tx 32 ht (by omega) (by decide)) rfl gX3_readNumbersAndEnd_X3_readSign  (by decide +kernel) ⟨Nat.le_of_ble_eq_true rfl, Nat.le_of_ble_eq_true rfl⟩ hH hS [0, 1, 2] rfl 3 rfl (List.Perm.refl _) 3 0 rfl rfl rfl hl.1 rfl (Nat.le_of_ble_eq_true rfl) dX3_readNumbersAndEnd_15 ⟨Nat.le_of_ble_eq_true rfl, Nat.le_of_ble_eq_true rfl⟩ (fun z26 sj_25 H locs hp27 hH hS => ?_)
                          have hH : Hold X A [toW qt Qt ((lnn : Nat) : Int) ss rs ((sj_25 : Nat) : Int) (((e7 + 1) : Nat) : Int), cW X (Qt 0) 400 tx, aW X (Qt 1) 4 (uI (uI nm 0 (x11)) 1 (x23))].flatten H := hH
                          rcases hp27 with ⟨rfl, b_15⟩ | ⟨rfl, b_15⟩
                          · refine zv_top (z := 1) (z2 := ((1 : Nat) : Int)) rfl ?_
                            obtain ⟨hq_, rfl⟩ := b_15
                            have hq_ : e19 < lnn ∧ tx e19 = 32 := hq_
                            refine zv_if_ne (tgt := 23) S dX3_readNumbersAndEnd_18 (by decide) (by decide) (fun c_18 => ?_) (fun c_18 => ?_)
                            · skip
                              refine lv_aload_n S.1 S.2.1 dX3_readNumbersAndEnd_23 rfl (lv_at hl 1 rfl) ?_
                              refine zc_Vv (n := 0) (As := []) (rest := []) S hAM hA (kX3_readWord l X qt Qt lnn ss rs (e19 + 1) (e7 + 1) tx ht (by omega)) rfl gX3_readNumbersAndEnd_X3_readWord  (by decide +kernel) ⟨Nat.le_of_ble_eq_true rfl, Nat.le_of_ble_eq_true rfl⟩ hH hS [0, 1, 2] rfl 3 rfl (List.Perm.refl _) 3 0 rfl rfl rfl hl.1 rfl (Nat.le_of_ble_eq_true rfl) dX3_readNumbersAndEnd_24 ⟨Nat.le_of_ble_eq_true rfl, Nat.le_of_ble_eq_true rfl⟩ (fun _ H locs hp30 hH hS => ?_)
                              have hH : Hold X A [toW qt Qt ((lnn : Nat) : Int) ss rs ((we tx lnn (e19 + 1) : Nat) : Int) (((e19 + 1) : Nat) : Int), cW X (Qt 0) 400 tx, aW X (Qt 1) 4 (uI (uI nm 0 (x11)) 1 (x23))].flatten H := hH
                              have hle_ := we_le tx lnn _ (e19 + 1) rfl (by omega)
                              have hge_ := we_ge tx lnn _ (e19 + 1) rfl
                              obtain ⟨e31, he31⟩ : ∃ y_, y_ = we tx lnn (e19 + 1) := ⟨_, rfl⟩
                              rw [← he31] at hH hle_ hge_
                              have hH : Hold X A [toW qt Qt ((lnn : Nat) : Int) ss rs ((e31 : Nat) : Int) (((e19 + 1) : Nat) : Int), cW X (Qt 0) 400 tx, aW X (Qt 1) 4 (uI (uI nm 0 (x11)) 1 (x23))].flatten _ := hH
                              refine lv_aload_n S.1 S.2.1 dX3_readNumbersAndEnd_27 rfl (lv_at hl 1 rfl) ?_
                              refine zv_get (v := .ref (Qt 1)) S hAM hH nX3_readNumbersAndEnd_X3 0 rfl rfl 6 (by decide) mX3_readNumbersAndEnd_1 rfl rfl dX3_readNumbersAndEnd_28 ?_
                              refine lv_iload_n S.1 S.2.1 dX3_readNumbersAndEnd_31 rfl (lv_at hl 0 rfl) ?_
                              refine lv_aload_n S.1 S.2.1 dX3_readNumbersAndEnd_32 rfl (lv_at hl 1 rfl) ?_
                              refine zc_Vi (n := 0) (As := []) (rest := [.int (iI ((2 : Nat) : Int)), .ref (Qt 1)]) S hAM hA (kX3_wordAsNumber l X qt Qt lnn ss rs e31 (e19 + 1) tx ht (by omega)) rfl gX3_readNumbersAndEnd_X3_wordAsNumber  (by decide +kernel) ⟨Nat.le_of_ble_eq_true rfl, Nat.le_of_ble_eq_true rfl⟩ hH hS [0, 1, 2] rfl 3 rfl (List.Perm.refl _) 3 0 rfl rfl rfl hl.1 rfl (Nat.le_of_ble_eq_true rfl) dX3_readNumbersAndEnd_33 ⟨Nat.le_of_ble_eq_true rfl, Nat.le_of_ble_eq_true rfl⟩ (fun z33 _ H locs hp34 hH hS => ?_)
                              have hH : Hold X A [toW qt Qt ((lnn : Nat) : Int) ss rs ((e31 : Nat) : Int) (((e19 + 1) : Nat) : Int), cW X (Qt 0) 400 tx, aW X (Qt 1) 4 (uI (uI nm 0 (x11)) 1 (x23))].flatten H := hH
                              obtain rfl := hp34
                              refine zv_iast (z := nvR tx (e19 + 1) (e31 - (e19 + 1))) (w2 := [toW qt Qt ((lnn : Nat) : Int) ss rs ((e31 : Nat) : Int) (((e19 + 1) : Nat) : Int), cW X (Qt 0) 400 tx, aW X (Qt 1) 4 (uI (uI (uI nm 0 (x11)) 1 (x23)) 2 (nvR tx (e19 + 1) (e31 - (e19 + 1))))].flatten) S hAM hH hS 2 rfl (2) rfl (by decide) (by decide) rfl dX3_readNumbersAndEnd_36 (fun H locs hH hS => ?_)
                              refine lv_aload_n S.1 S.2.1 dX3_readNumbersAndEnd_37 rfl (lv_at hl 1 rfl) ?_
                              refine zv_get (v := .ref (Qt 1)) S hAM hH nX3_readNumbersAndEnd_X3 0 rfl rfl 6 (by decide) mX3_readNumbersAndEnd_1 rfl rfl dX3_readNumbersAndEnd_38 ?_
                              refine lv_iload_n S.1 S.2.1 dX3_readNumbersAndEnd_41 rfl (lv_at hl 0 rfl) ?_
                              refine zv_iald S hAM hH 2 rfl (2) rfl (by decide) (by decide) dX3_readNumbersAndEnd_42 ?_
                              refine zv_top (z := (uI (uI (uI nm 0 (x11)) 1 (x23)) 2 (nvR tx (e19 + 1) (e31 - (e19 + 1)))) 2) (z2 := nvR tx (e19 + 1) (e31 - (e19 + 1))) (uI_s _ _ _) ?_
                              refine lv_iconst (v := iI (-1)) S.1 S.2.1 dX3_readNumbersAndEnd_43 (by decide) ?_
                              refine zv_icmp_ne (tgt := 49) S dX3_readNumbersAndEnd_44 (by decide) (by have := nvR_b tx (e19 + 1) (e31 - (e19 + 1)); omega) (by decide) (fun c_44 => ?_) (fun c_44 => ?_)
                              · skip
                                have hm36 := num1_ok hq_ he31 c_44
                                have hbx35 := nvR_b tx (e19 + 1) (e31 - (e19 + 1))
                                obtain ⟨x35, hx35⟩ : ∃ y_, y_ = nvR tx (e19 + 1) (e31 - (e19 + 1)) := ⟨_, rfl⟩
                                rw [← hx35] at hH hm36 hbx35 c_44
                                have hH : Hold X A [toW qt Qt ((lnn : Nat) : Int) ss rs ((e31 : Nat) : Int) (((e19 + 1) : Nat) : Int), cW X (Qt 0) 400 tx, aW X (Qt 1) 4 (uI (uI (uI nm 0 (x11)) 1 (x23)) 2 (x35))].flatten _ := hH
                                refine zv_iinc (z := ((3 : Nat) : Int)) (lv' := [(2, .int (iI ((3 : Nat) : Int))), (0, .ref (qt)), (1, .int (iI ((4 : Nat) : Int)))]) S dX3_readNumbersAndEnd_49 hl (k := 0) rfl (by decide) (by decide) rfl (fun ls hl => ?_)
                                refine lv_goto (tgt := 2) S.1 S.2.1 dX3_readNumbersAndEnd_52 (by decide) ?_
                                refine lv_iload_n S.1 S.2.1 dX3_readNumbersAndEnd_2 rfl (lv_at hl 0 rfl) ?_
                                refine lv_iload_n S.1 S.2.1 dX3_readNumbersAndEnd_3 rfl (lv_at hl 2 rfl) ?_
                                refine zv_icmp_ge (tgt := 55) S dX3_readNumbersAndEnd_4 (by decide) (by decide) (by decide) (fun c_4 => ?_) (fun c_4 => ?_)
                                · exact (show False by omega).elim
                                · skip
                                  refine lv_iload_n S.1 S.2.1 dX3_readNumbersAndEnd_7 rfl (lv_at hl 0 rfl) ?_
                                  refine lv_iconst (v := iI (((4 : Nat) : Int))) S.1 S.2.1 dX3_readNumbersAndEnd_8 (by decide) ?_
                                  refine zv_icmp_ge (tgt := 55) S dX3_readNumbersAndEnd_9 (by decide) (by decide) (by decide) (fun c_9 => ?_) (fun c_9 => ?_)
                                  · exact (show False by omega).elim
                                  · skip
                                    refine lv_aload_n S.1 S.2.1 dX3_readNumbersAndEnd_12 rfl (lv_at hl 1 rfl) ?_
                                    refine lv_bipush (v := iI (((32 : Nat) : Int))) S.1 S.2.1 dX3_readNumbersAndEnd_13 (by decide) ?_
                                    refine zc_Vi (n := 1) (As := [.int (iI ((32 : Nat) : Int))]) (rest := []) S hAM hA (kX3_readSign l X qt Qt lnn ss rs e31 (e19 + 1) tx 32 ht (by omega) (by decide)) rfl gX3_readNumbersAndEnd_X3_readSign  (by decide +kernel) ⟨Nat.le_of_ble_eq_true rfl, Nat.le_of_ble_eq_true rfl⟩ hH hS [0, 1, 2] rfl 3 rfl (List.Perm.refl _) 3 0 rfl rfl rfl hl.1 rfl (Nat.le_of_ble_eq_true rfl) dX3_readNumbersAndEnd_15 ⟨Nat.le_of_ble_eq_true rfl, Nat.le_of_ble_eq_true rfl⟩ (fun z38 sj_37 H locs hp39 hH hS => ?_)
                                    have hH : Hold X A [toW qt Qt ((lnn : Nat) : Int) ss rs ((sj_37 : Nat) : Int) (((e19 + 1) : Nat) : Int), cW X (Qt 0) 400 tx, aW X (Qt 1) 4 (uI (uI (uI nm 0 (x11)) 1 (x23)) 2 (x35))].flatten H := hH
                                    rcases hp39 with ⟨rfl, b_15⟩ | ⟨rfl, b_15⟩
                                    · refine zv_top (z := 1) (z2 := ((1 : Nat) : Int)) rfl ?_
                                      obtain ⟨hq_, rfl⟩ := b_15
                                      have hq_ : e31 < lnn ∧ tx e31 = 32 := hq_
                                      refine zv_if_ne (tgt := 23) S dX3_readNumbersAndEnd_18 (by decide) (by decide) (fun c_18 => ?_) (fun c_18 => ?_)
                                      · skip
                                        refine lv_aload_n S.1 S.2.1 dX3_readNumbersAndEnd_23 rfl (lv_at hl 1 rfl) ?_
                                        refine zc_Vv (n := 0) (As := []) (rest := []) S hAM hA (kX3_readWord l X qt Qt lnn ss rs (e31 + 1) (e19 + 1) tx ht (by omega)) rfl gX3_readNumbersAndEnd_X3_readWord  (by decide +kernel) ⟨Nat.le_of_ble_eq_true rfl, Nat.le_of_ble_eq_true rfl⟩ hH hS [0, 1, 2] rfl 3 rfl (List.Perm.refl _) 3 0 rfl rfl rfl hl.1 rfl (Nat.le_of_ble_eq_true rfl) dX3_readNumbersAndEnd_24 ⟨Nat.le_of_ble_eq_true rfl, Nat.le_of_ble_eq_true rfl⟩ (fun _ H locs hp42 hH hS => ?_)
                                        have hH : Hold X A [toW qt Qt ((lnn : Nat) : Int) ss rs ((we tx lnn (e31 + 1) : Nat) : Int) (((e31 + 1) : Nat) : Int), cW X (Qt 0) 400 tx, aW X (Qt 1) 4 (uI (uI (uI nm 0 (x11)) 1 (x23)) 2 (x35))].flatten H := hH
                                        have hle_ := we_le tx lnn _ (e31 + 1) rfl (by omega)
                                        have hge_ := we_ge tx lnn _ (e31 + 1) rfl
                                        obtain ⟨e43, he43⟩ : ∃ y_, y_ = we tx lnn (e31 + 1) := ⟨_, rfl⟩
                                        rw [← he43] at hH hle_ hge_
                                        have hH : Hold X A [toW qt Qt ((lnn : Nat) : Int) ss rs ((e43 : Nat) : Int) (((e31 + 1) : Nat) : Int), cW X (Qt 0) 400 tx, aW X (Qt 1) 4 (uI (uI (uI nm 0 (x11)) 1 (x23)) 2 (x35))].flatten _ := hH
                                        refine lv_aload_n S.1 S.2.1 dX3_readNumbersAndEnd_27 rfl (lv_at hl 1 rfl) ?_
                                        refine zv_get (v := .ref (Qt 1)) S hAM hH nX3_readNumbersAndEnd_X3 0 rfl rfl 6 (by decide) mX3_readNumbersAndEnd_1 rfl rfl dX3_readNumbersAndEnd_28 ?_
                                        refine lv_iload_n S.1 S.2.1 dX3_readNumbersAndEnd_31 rfl (lv_at hl 0 rfl) ?_
                                        refine lv_aload_n S.1 S.2.1 dX3_readNumbersAndEnd_32 rfl (lv_at hl 1 rfl) ?_
                                        refine zc_Vi (n := 0) (As := []) (rest := [.int (iI ((3 : Nat) : Int)), .ref (Qt 1)]) S hAM hA (kX3_wordAsNumber l X qt Qt lnn ss rs e43 (e31 + 1) tx ht (by omega)) rfl gX3_readNumbersAndEnd_X3_wordAsNumber  (by decide +kernel) ⟨Nat.le_of_ble_eq_true rfl, Nat.le_of_ble_eq_true rfl⟩ hH hS [0, 1, 2] rfl 3 rfl (List.Perm.refl _) 3 0 rfl rfl rfl hl.1 rfl (Nat.le_of_ble_eq_true rfl) dX3_readNumbersAndEnd_33 ⟨Nat.le_of_ble_eq_true rfl, Nat.le_of_ble_eq_true rfl⟩ (fun z45 _ H locs hp46 hH hS => ?_)
                                        have hH : Hold X A [toW qt Qt ((lnn : Nat) : Int) ss rs ((e43 : Nat) : Int) (((e31 + 1) : Nat) : Int), cW X (Qt 0) 400 tx, aW X (Qt 1) 4 (uI (uI (uI nm 0 (x11)) 1 (x23)) 2 (x35))].flatten H := hH
                                        obtain rfl := hp46
                                        refine zv_iast (z := nvR tx (e31 + 1) (e43 - (e31 + 1))) (w2 := [toW qt Qt ((lnn : Nat) : Int) ss rs ((e43 : Nat) : Int) (((e31 + 1) : Nat) : Int), cW X (Qt 0) 400 tx, aW X (Qt 1) 4 (uI (uI (uI (uI nm 0 (x11)) 1 (x23)) 2 (x35)) 3 (nvR tx (e31 + 1) (e43 - (e31 + 1))))].flatten) S hAM hH hS 2 rfl (3) rfl (by decide) (by decide) rfl dX3_readNumbersAndEnd_36 (fun H locs hH hS => ?_)
                                        refine lv_aload_n S.1 S.2.1 dX3_readNumbersAndEnd_37 rfl (lv_at hl 1 rfl) ?_
                                        refine zv_get (v := .ref (Qt 1)) S hAM hH nX3_readNumbersAndEnd_X3 0 rfl rfl 6 (by decide) mX3_readNumbersAndEnd_1 rfl rfl dX3_readNumbersAndEnd_38 ?_
                                        refine lv_iload_n S.1 S.2.1 dX3_readNumbersAndEnd_41 rfl (lv_at hl 0 rfl) ?_
                                        refine zv_iald S hAM hH 2 rfl (3) rfl (by decide) (by decide) dX3_readNumbersAndEnd_42 ?_
                                        refine zv_top (z := (uI (uI (uI (uI nm 0 (x11)) 1 (x23)) 2 (x35)) 3 (nvR tx (e31 + 1) (e43 - (e31 + 1)))) 3) (z2 := nvR tx (e31 + 1) (e43 - (e31 + 1))) (uI_s _ _ _) ?_
                                        refine lv_iconst (v := iI (-1)) S.1 S.2.1 dX3_readNumbersAndEnd_43 (by decide) ?_
                                        refine zv_icmp_ne (tgt := 49) S dX3_readNumbersAndEnd_44 (by decide) (by have := nvR_b tx (e31 + 1) (e43 - (e31 + 1)); omega) (by decide) (fun c_44 => ?_) (fun c_44 => ?_)
                                        · skip
                                          have hm48 := num1_ok hq_ he43 c_44
                                          have hbx47 := nvR_b tx (e31 + 1) (e43 - (e31 + 1))
                                          obtain ⟨x47, hx47⟩ : ∃ y_, y_ = nvR tx (e31 + 1) (e43 - (e31 + 1)) := ⟨_, rfl⟩
                                          rw [← hx47] at hH hm48 hbx47 c_44
                                          have hH : Hold X A [toW qt Qt ((lnn : Nat) : Int) ss rs ((e43 : Nat) : Int) (((e31 + 1) : Nat) : Int), cW X (Qt 0) 400 tx, aW X (Qt 1) 4 (uI (uI (uI (uI nm 0 (x11)) 1 (x23)) 2 (x35)) 3 (x47))].flatten _ := hH
                                          refine zv_iinc (z := ((4 : Nat) : Int)) (lv' := [(2, .int (iI ((4 : Nat) : Int))), (0, .ref (qt)), (1, .int (iI ((4 : Nat) : Int)))]) S dX3_readNumbersAndEnd_49 hl (k := 0) rfl (by decide) (by decide) rfl (fun ls hl => ?_)
                                          refine lv_goto (tgt := 2) S.1 S.2.1 dX3_readNumbersAndEnd_52 (by decide) ?_
                                          refine lv_iload_n S.1 S.2.1 dX3_readNumbersAndEnd_2 rfl (lv_at hl 0 rfl) ?_
                                          refine lv_iload_n S.1 S.2.1 dX3_readNumbersAndEnd_3 rfl (lv_at hl 2 rfl) ?_
                                          refine zv_icmp_ge (tgt := 55) S dX3_readNumbersAndEnd_4 (by decide) (by decide) (by decide) (fun c_4 => ?_) (fun c_4 => ?_)
                                          · skip
                                            refine lv_aload_n S.1 S.2.1 dX3_readNumbersAndEnd_55 rfl (lv_at hl 1 rfl) ?_
                                            refine lv_bipush (v := iI (((59 : Nat) : Int))) S.1 S.2.1 dX3_readNumbersAndEnd_56 (by decide) ?_
                                            refine zc_Vi (n := 1) (As := [.int (iI ((59 : Nat) : Int))]) (rest := []) S hAM hA (kX3_readSign l X qt Qt lnn ss rs e43 (e31 + 1) tx 59 ht (by omega) (by decide)) rfl gX3_readNumbersAndEnd_X3_readSign  (by decide +kernel) ⟨Nat.le_of_ble_eq_true rfl, Nat.le_of_ble_eq_true rfl⟩ hH hS [0, 1, 2] rfl 3 rfl (List.Perm.refl _) 3 0 rfl rfl rfl hl.1 rfl (Nat.le_of_ble_eq_true rfl) dX3_readNumbersAndEnd_58 ⟨Nat.le_of_ble_eq_true rfl, Nat.le_of_ble_eq_true rfl⟩ (fun z50 sj_49 H locs hp51 hH hS => ?_)
                                            have hH : Hold X A [toW qt Qt ((lnn : Nat) : Int) ss rs ((sj_49 : Nat) : Int) (((e31 + 1) : Nat) : Int), cW X (Qt 0) 400 tx, aW X (Qt 1) 4 (uI (uI (uI (uI nm 0 (x11)) 1 (x23)) 2 (x35)) 3 (x47))].flatten H := hH
                                            rcases hp51 with ⟨rfl, b_58⟩ | ⟨rfl, b_58⟩
                                            · refine zv_top (z := 1) (z2 := ((1 : Nat) : Int)) rfl ?_
                                              obtain ⟨hq_, rfl⟩ := b_58
                                              have hq_ : e43 < lnn ∧ tx e43 = 59 := hq_
                                              exact hret 61 ls _ _ (((1 : Nat) : Int)) ((e43 + 1), (e31 + 1), uI (uI (uI (uI nm 0 (x11)) 1 (x23)) 2 (x35)) 3 (x47)) dX3_readNumbersAndEnd_61 rfl ⟨Or.inl ⟨rfl, (by rw [rn4, hm12, bnd_some, hm24, bnd_some, hm36, bnd_some, hm48, bnd_some, if_pos hq_]; rfl), (by show 0 ≤ x11 ∧ x11 ≤ 999; omega), (by show 0 ≤ x23 ∧ x23 ≤ 999; omega), (by show 0 ≤ x35 ∧ x35 ≤ 999; omega), (by show 0 ≤ x47 ∧ x47 ≤ 999; omega)⟩, (by omega), (by omega)⟩ hH hS
                                            · refine zv_top (z := 0) (z2 := ((0 : Nat) : Int)) rfl ?_
                                              obtain ⟨hq_, rfl⟩ := b_58
                                              have hq_ : ¬ (e43 < lnn ∧ tx e43 = 59) := hq_
                                              exact hret 61 ls _ _ (((0 : Nat) : Int)) (e43, (e31 + 1), uI (uI (uI (uI nm 0 (x11)) 1 (x23)) 2 (x35)) 3 (x47)) dX3_readNumbersAndEnd_61 rfl ⟨Or.inr ⟨rfl, (by rw [rn4, hm12, bnd_some, hm24, bnd_some, hm36, bnd_some, hm48, bnd_some, if_neg hq_])⟩, (by omega), (by omega)⟩ hH hS
                                          · exact (show False by omega).elim
                                        · skip
                                          refine lv_iconst (v := iI (((0 : Nat) : Int))) S.1 S.2.1 dX3_readNumbersAndEnd_47 (by decide) ?_
                                          exact hret 48 ls _ _ (((0 : Nat) : Int)) (e43, (e31 + 1), uI (uI (uI (uI nm 0 (x11)) 1 (x23)) 2 (x35)) 3 (nvR tx (e31 + 1) (e43 - (e31 + 1)))) dX3_readNumbersAndEnd_48 rfl ⟨Or.inr ⟨rfl, (by rw [rn4, hm12, bnd_some, hm24, bnd_some, hm36, bnd_some, num1_bad he43 c_44]; rfl)⟩, (by omega), (by omega)⟩ hH hS
                                      · exact (show False by omega).elim
                                    · refine zv_top (z := 0) (z2 := ((0 : Nat) : Int)) rfl ?_
                                      obtain ⟨hq_, rfl⟩ := b_15
                                      have hq_ : ¬ (e31 < lnn ∧ tx e31 = 32) := hq_
                                      refine zv_if_ne (tgt := 23) S dX3_readNumbersAndEnd_18 (by decide) (by decide) (fun c_18 => ?_) (fun c_18 => ?_)
                                      · exact (show False by omega).elim
                                      · skip
                                        refine lv_iconst (v := iI (((0 : Nat) : Int))) S.1 S.2.1 dX3_readNumbersAndEnd_21 (by decide) ?_
                                        exact hret 22 ls _ _ (((0 : Nat) : Int)) (e31, (e19 + 1), uI (uI (uI nm 0 (x11)) 1 (x23)) 2 (x35)) dX3_readNumbersAndEnd_22 rfl ⟨Or.inr ⟨rfl, (by rw [rn4, hm12, bnd_some, hm24, bnd_some, hm36, bnd_some, num1_no hq_]; rfl)⟩, (by omega), (by omega)⟩ hH hS
                              · skip
                                refine lv_iconst (v := iI (((0 : Nat) : Int))) S.1 S.2.1 dX3_readNumbersAndEnd_47 (by decide) ?_
                                exact hret 48 ls _ _ (((0 : Nat) : Int)) (e31, (e19 + 1), uI (uI (uI nm 0 (x11)) 1 (x23)) 2 (nvR tx (e19 + 1) (e31 - (e19 + 1)))) dX3_readNumbersAndEnd_48 rfl ⟨Or.inr ⟨rfl, (by rw [rn4, hm12, bnd_some, hm24, bnd_some, num1_bad he31 c_44]; rfl)⟩, (by omega), (by omega)⟩ hH hS
                            · exact (show False by omega).elim
                          · refine zv_top (z := 0) (z2 := ((0 : Nat) : Int)) rfl ?_
                            obtain ⟨hq_, rfl⟩ := b_15
                            have hq_ : ¬ (e19 < lnn ∧ tx e19 = 32) := hq_
                            refine zv_if_ne (tgt := 23) S dX3_readNumbersAndEnd_18 (by decide) (by decide) (fun c_18 => ?_) (fun c_18 => ?_)
                            · exact (show False by omega).elim
                            · skip
                              refine lv_iconst (v := iI (((0 : Nat) : Int))) S.1 S.2.1 dX3_readNumbersAndEnd_21 (by decide) ?_
                              exact hret 22 ls _ _ (((0 : Nat) : Int)) (e19, (e7 + 1), uI (uI nm 0 (x11)) 1 (x23)) dX3_readNumbersAndEnd_22 rfl ⟨Or.inr ⟨rfl, (by rw [rn4, hm12, bnd_some, hm24, bnd_some, num1_no hq_]; rfl)⟩, (by omega), (by omega)⟩ hH hS
                    · skip
                      refine lv_iconst (v := iI (((0 : Nat) : Int))) S.1 S.2.1 dX3_readNumbersAndEnd_47 (by decide) ?_
                      exact hret 48 ls _ _ (((0 : Nat) : Int)) (e19, (e7 + 1), uI (uI nm 0 (x11)) 1 (nvR tx (e7 + 1) (e19 - (e7 + 1)))) dX3_readNumbersAndEnd_48 rfl ⟨Or.inr ⟨rfl, (by rw [rn4, hm12, bnd_some, num1_bad he19 c_44]; rfl)⟩, (by omega), (by omega)⟩ hH hS
                  · exact (show False by omega).elim
                · refine zv_top (z := 0) (z2 := ((0 : Nat) : Int)) rfl ?_
                  obtain ⟨hq_, rfl⟩ := b_15
                  have hq_ : ¬ (e7 < lnn ∧ tx e7 = 32) := hq_
                  refine zv_if_ne (tgt := 23) S dX3_readNumbersAndEnd_18 (by decide) (by decide) (fun c_18 => ?_) (fun c_18 => ?_)
                  · exact (show False by omega).elim
                  · skip
                    refine lv_iconst (v := iI (((0 : Nat) : Int))) S.1 S.2.1 dX3_readNumbersAndEnd_21 (by decide) ?_
                    exact hret 22 ls _ _ (((0 : Nat) : Int)) (e7, (p + 1), uI nm 0 (x11)) dX3_readNumbersAndEnd_22 rfl ⟨Or.inr ⟨rfl, (by rw [rn4, hm12, bnd_some, num1_no hq_]; rfl)⟩, (by omega), (by omega)⟩ hH hS
          · skip
            refine lv_iconst (v := iI (((0 : Nat) : Int))) S.1 S.2.1 dX3_readNumbersAndEnd_47 (by decide) ?_
            exact hret 48 ls _ _ (((0 : Nat) : Int)) (e7, (p + 1), uI nm 0 (nvR tx (p + 1) (e7 - (p + 1)))) dX3_readNumbersAndEnd_48 rfl ⟨Or.inr ⟨rfl, (by rw [rn4, num1_bad he7 c_44]; rfl)⟩, (by omega), (by omega)⟩ hH hS
        · exact (show False by omega).elim
      · refine zv_top (z := 0) (z2 := ((0 : Nat) : Int)) rfl ?_
        obtain ⟨hq_, rfl⟩ := b_15
        have hq_ : ¬ (p < lnn ∧ tx p = 32) := hq_
        refine zv_if_ne (tgt := 23) S dX3_readNumbersAndEnd_18 (by decide) (by decide) (fun c_18 => ?_) (fun c_18 => ?_)
        · exact (show False by omega).elim
        · skip
          refine lv_iconst (v := iI (((0 : Nat) : Int))) S.1 S.2.1 dX3_readNumbersAndEnd_21 (by decide) ?_
          exact hret 22 ls _ _ (((0 : Nat) : Int)) (p, w, nm) dX3_readNumbersAndEnd_22 rfl ⟨Or.inr ⟨rfl, (by rw [rn4, num1_no hq_]; rfl)⟩, (by omega), (by omega)⟩ hH hS
