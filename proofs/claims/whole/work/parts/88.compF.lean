set_option maxHeartbeats 8000000 in
set_option maxRecDepth 100000 in
theorem law_loop {p_ : Program} {l : Launch} {e_ : Env} {s_ : State} {m_ : MethodId} {below : List Frame} {meth : Method} {c_ : Code} {Q_ : State → Prop} {X : XT} {A : Nat → Prop} {b L : Nat} {xs : Nat → Int32} {h h6 : Nat} (S : CallFix p_ m_ c_ cL_law 4 s_ #[Value.ref b] wsL_law RL) (hA : ∀ q, s_.heap.size ≤ q → A q) (hAM : AM X A s_) (hX : va_X b L xs s_ s_.heap) (hbl : b < s_.heap.size) (hbA : ¬ A b) (hL : L ≤ 2560) (hend : ∀ (H : Heap) (locs : List Loc) (ls : Array Slot), va_S A s_.heap H locs → W p_ l e_ room_1 s_ m_ #[Value.ref b] below meth c_ H locs 96 2756 Q_ (F0 m_ 804 ls [])) : ∀ (n i : Nat), L + 5 - i < n → i ≤ L + 5 → ∀ (H : Heap) (locs : List Loc), LI X A h h6 H → va_S A s_.heap H locs → ∀ ls : Array Slot, lv_has ls 4 [(3, .int (iI ((i : Nat) : Int))), (0, .ref (b)), (1, .ref (h)), (2, .ref (h6))] → W p_ l e_ room_1 s_ m_ #[Value.ref b] below meth c_ H locs 96 2756 Q_ (F0 m_ 18 ls []) := by
  intro n
  induction n with
  | zero => intro i hm; omega
  | succ n ih =>
    intro i hm hiL H locs hI hS ls hl
    refine lv_iload_n S.1 S.2.1 dL_law_18 rfl (lv_at hl 0 rfl) ?_
    refine lv_aload_n S.1 S.2.1 dL_law_19 rfl (lv_at hl 1 rfl) ?_
    refine va_slen S.1 S.2.1 hX hbl hbA hS dL_law_20 ?_
    rw [show Int32.ofNat L = iI ((L : Nat) : Int) from (iI_nat L).symm]
    refine lv_iconst (v := iI ((5 : Nat) : Int)) S.1 S.2.1 dL_law_21 (by decide) ?_
    refine zv_isub (z := ((L : Nat) : Int) - ((5 : Nat) : Int)) S dL_law_22 rfl ?_
    refine zv_icmp_gt (tgt := 804) S dL_law_23 (by decide) (by omega) (by omega) (fun _ => hend H locs ls hS) (fun c9 => ?_)
    have hi : i + 5 ≤ L := by omega
    have hnext : ∀ (H : Heap) (locs : List Loc), LI X A h h6 H → va_S A s_.heap H locs → ∀ ls : Array Slot, lv_has ls 4 [(3, .int (iI ((i : Nat) : Int))), (0, .ref (b)), (1, .ref (h)), (2, .ref (h6))] → W p_ l e_ room_1 s_ m_ #[Value.ref b] below meth c_ H locs 96 2756 Q_ (F0 m_ 798 ls []) := by
      intro H locs hI hS ls hl
      refine zv_iinc (z := (((i + 5) : Nat) : Int)) (lv' := [(3, .int (iI (((i + 5) : Nat) : Int))), (0, .ref (b)), (1, .ref (h)), (2, .ref (h6))]) S dL_law_798 hl (k := 0) rfl (by omega) (by decide) rfl (fun ls hl => ?_)
      refine lv_goto (tgt := 18) S.1 S.2.1 dL_law_801 (by decide) ?_
      exact ih (i + 5) (by omega) (by omega) H locs hI hS ls hl
    refine lv_aload_n S.1 S.2.1 dL_law_26 rfl (lv_at hl 1 rfl) ?_
    refine lv_iload_n S.1 S.2.1 dL_law_27 rfl (lv_at hl 0 rfl) ?_
    refine zv_scr S hX hbl hbA hS i rfl (by omega) hL dL_law_28 ?_
    refine lv_bipush (v := iI ((31 : Nat) : Int)) S.1 S.2.1 dL_law_29 (by decide) ?_
    refine lv_iand S.1 S.2.1 dL_law_31 ?_
    generalize (iI (xs i).toInt &&& iI ((31 : Nat) : Int)) = y
    by_cases ho : y.toInt < 0 ∨ 29 < y.toInt
    · refine lv_tableOut (tgt := 798) S.1 S.2.1 dL_law_32 ho (by decide) ?_
      exact hnext H locs hI hS ls hl
    · rcases (show y.toInt = 0 ∨ y.toInt = 1 ∨ y.toInt = 2 ∨ y.toInt = 3 ∨ y.toInt = 4 ∨ y.toInt = 5 ∨ y.toInt = 6 ∨ y.toInt = 7 ∨ y.toInt = 8 ∨ y.toInt = 9 ∨ y.toInt = 10 ∨ y.toInt = 11 ∨ y.toInt = 12 ∨ y.toInt = 13 ∨ y.toInt = 14 ∨ y.toInt = 15 ∨ y.toInt = 16 ∨ y.toInt = 17 ∨ y.toInt = 18 ∨ y.toInt = 19 ∨ y.toInt = 20 ∨ y.toInt = 21 ∨ y.toInt = 22 ∨ y.toInt = 23 ∨ y.toInt = 24 ∨ y.toInt = 25 ∨ y.toInt = 26 ∨ y.toInt = 27 ∨ y.toInt = 28 ∨ y.toInt = 29 by omega) with hy | hy | hy | hy | hy | hy | hy | hy | hy | hy | hy | hy | hy | hy | hy | hy | hy | hy | hy | hy | hy | hy | hy | hy | hy | hy | hy | hy | hy | hy
      · refine lv_tableIn (tgt := 168) (off := 136) S.1 S.2.1 dL_law_32 (by omega) (by omega) (by rw [hy]; decide) (by decide) ?_
        exact arm_0 S hA hAM hX hbl hbA hL hi hnext hI hS hl
      · refine lv_tableIn (tgt := 191) (off := 159) S.1 S.2.1 dL_law_32 (by omega) (by omega) (by rw [hy]; decide) (by decide) ?_
        exact arm_1 S hA hAM hX hbl hbA hL hi hnext hI hS hl
      · refine lv_tableIn (tgt := 204) (off := 172) S.1 S.2.1 dL_law_32 (by omega) (by omega) (by rw [hy]; decide) (by decide) ?_
        exact arm_2 S hA hAM hX hbl hbA hL hi hnext hI hS hl
      · refine lv_tableIn (tgt := 217) (off := 185) S.1 S.2.1 dL_law_32 (by omega) (by omega) (by rw [hy]; decide) (by decide) ?_
        exact arm_3 S hA hAM hX hbl hbA hL hi hnext hI hS hl
      · refine lv_tableIn (tgt := 230) (off := 198) S.1 S.2.1 dL_law_32 (by omega) (by omega) (by rw [hy]; decide) (by decide) ?_
        exact arm_4 S hA hAM hX hbl hbA hL hi hnext hI hS hl
      · refine lv_tableIn (tgt := 243) (off := 211) S.1 S.2.1 dL_law_32 (by omega) (by omega) (by rw [hy]; decide) (by decide) ?_
        exact arm_5 S hA hAM hX hbl hbA hL hi hnext hI hS hl
      · refine lv_tableIn (tgt := 296) (off := 264) S.1 S.2.1 dL_law_32 (by omega) (by omega) (by rw [hy]; decide) (by decide) ?_
        exact arm_6 S hA hAM hX hbl hbA hL hi hnext hI hS hl
      · refine lv_tableIn (tgt := 319) (off := 287) S.1 S.2.1 dL_law_32 (by omega) (by omega) (by rw [hy]; decide) (by decide) ?_
        exact arm_7 S hA hAM hX hbl hbA hL hi hnext hI hS hl
      · refine lv_tableIn (tgt := 362) (off := 330) S.1 S.2.1 dL_law_32 (by omega) (by omega) (by rw [hy]; decide) (by decide) ?_
        exact arm_8 S hA hAM hX hbl hbA hL hi hnext hI hS hl
      · refine lv_tableIn (tgt := 395) (off := 363) S.1 S.2.1 dL_law_32 (by omega) (by omega) (by rw [hy]; decide) (by decide) ?_
        exact arm_9 S hA hAM hX hbl hbA hL hi hnext hI hS hl
      · refine lv_tableIn (tgt := 418) (off := 386) S.1 S.2.1 dL_law_32 (by omega) (by omega) (by rw [hy]; decide) (by decide) ?_
        exact arm_10 S hA hAM hX hbl hbA hL hi hnext hI hS hl
      · refine lv_tableIn (tgt := 431) (off := 399) S.1 S.2.1 dL_law_32 (by omega) (by omega) (by rw [hy]; decide) (by decide) ?_
        exact arm_11 S hA hAM hX hbl hbA hL hi hnext hI hS hl
      · refine lv_tableIn (tgt := 444) (off := 412) S.1 S.2.1 dL_law_32 (by omega) (by omega) (by rw [hy]; decide) (by decide) ?_
        exact arm_12 S hA hAM hX hbl hbA hL hi hnext hI hS hl
      · refine lv_tableIn (tgt := 457) (off := 425) S.1 S.2.1 dL_law_32 (by omega) (by omega) (by rw [hy]; decide) (by decide) ?_
        exact arm_13 S hA hAM hX hbl hbA hL hi hnext hI hS hl
      · refine lv_tableIn (tgt := 470) (off := 438) S.1 S.2.1 dL_law_32 (by omega) (by omega) (by rw [hy]; decide) (by decide) ?_
        exact arm_14 S hA hAM hX hbl hbA hL hi hnext hI hS hl
      · refine lv_tableIn (tgt := 483) (off := 451) S.1 S.2.1 dL_law_32 (by omega) (by omega) (by rw [hy]; decide) (by decide) ?_
        exact arm_15 S hA hAM hX hbl hbA hL hi hnext hI hS hl
      · refine lv_tableIn (tgt := 506) (off := 474) S.1 S.2.1 dL_law_32 (by omega) (by omega) (by rw [hy]; decide) (by decide) ?_
        exact arm_16 S hA hAM hX hbl hbA hL hi hnext hI hS hl
      · refine lv_tableIn (tgt := 519) (off := 487) S.1 S.2.1 dL_law_32 (by omega) (by omega) (by rw [hy]; decide) (by decide) ?_
        exact arm_17 S hA hAM hX hbl hbA hL hi hnext hI hS hl
      · refine lv_tableIn (tgt := 542) (off := 510) S.1 S.2.1 dL_law_32 (by omega) (by omega) (by rw [hy]; decide) (by decide) ?_
        exact arm_18 S hA hAM hX hbl hbA hL hi hnext hI hS hl
      · refine lv_tableIn (tgt := 575) (off := 543) S.1 S.2.1 dL_law_32 (by omega) (by omega) (by rw [hy]; decide) (by decide) ?_
        exact arm_19 S hA hAM hX hbl hbA hL hi hnext hI hS hl
      · refine lv_tableIn (tgt := 588) (off := 556) S.1 S.2.1 dL_law_32 (by omega) (by omega) (by rw [hy]; decide) (by decide) ?_
        exact arm_20 S hA hAM hX hbl hbA hL hi hnext hI hS hl
      · refine lv_tableIn (tgt := 621) (off := 589) S.1 S.2.1 dL_law_32 (by omega) (by omega) (by rw [hy]; decide) (by decide) ?_
        exact arm_21 S hA hAM hX hbl hbA hL hi hnext hI hS hl
      · refine lv_tableIn (tgt := 644) (off := 612) S.1 S.2.1 dL_law_32 (by omega) (by omega) (by rw [hy]; decide) (by decide) ?_
        exact arm_22 S hA hAM hX hbl hbA hL hi hnext hI hS hl
      · refine lv_tableIn (tgt := 667) (off := 635) S.1 S.2.1 dL_law_32 (by omega) (by omega) (by rw [hy]; decide) (by decide) ?_
        exact arm_23 S hA hAM hX hbl hbA hL hi hnext hI hS hl
      · refine lv_tableIn (tgt := 690) (off := 658) S.1 S.2.1 dL_law_32 (by omega) (by omega) (by rw [hy]; decide) (by decide) ?_
        exact arm_24 S hA hAM hX hbl hbA hL hi hnext hI hS hl
      · refine lv_tableIn (tgt := 703) (off := 671) S.1 S.2.1 dL_law_32 (by omega) (by omega) (by rw [hy]; decide) (by decide) ?_
        exact arm_25 S hA hAM hX hbl hbA hL hi hnext hI hS hl
      · refine lv_tableIn (tgt := 716) (off := 684) S.1 S.2.1 dL_law_32 (by omega) (by omega) (by rw [hy]; decide) (by decide) ?_
        exact arm_26 S hA hAM hX hbl hbA hL hi hnext hI hS hl
      · refine lv_tableIn (tgt := 739) (off := 707) S.1 S.2.1 dL_law_32 (by omega) (by omega) (by rw [hy]; decide) (by decide) ?_
        exact arm_27 S hA hAM hX hbl hbA hL hi hnext hI hS hl
      · refine lv_tableIn (tgt := 752) (off := 720) S.1 S.2.1 dL_law_32 (by omega) (by omega) (by rw [hy]; decide) (by decide) ?_
        exact arm_28 S hA hAM hX hbl hbA hL hi hnext hI hS hl
      · refine lv_tableIn (tgt := 775) (off := 743) S.1 S.2.1 dL_law_32 (by omega) (by omega) (by rw [hy]; decide) (by decide) ?_
        exact arm_29 S hA hAM hX hbl hbA hL hi hnext hI hS hl
