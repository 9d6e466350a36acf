/-! ===== texts: String.length(), String.charAt(k) of the literals ===== -/
section ZT
variable {p : Program} {l : Launch} {e : Env} {R : Room} {s : State} {m : MethodId} {args : Array Value} {below : List Frame} {meth : Method} {c : Code} {H : Heap} {locs : List Loc} {cells slots : Nat} {Q : State → Prop}
variable {cc : ByteArray} {pc nL : Nat} {ls : Array Slot} {rest : List Value} {X : XT} {A : Nat → Prop} {Ts : List Cond} {own : String}
theorem zc_Ti {S' : Type} {y : MethodName} {ws ws' : List Cond} {bytes : ByteArray} {maxL index n : Nat} {ret : Option FieldType} {rm : Room} {As st0 : List Value} {ss w sr : List va_W} {w' : S' → List va_W} {post : Int → S' → Prop} {b : Nat} {C : String} (S : CallFix p m c cc nL s args Ts own) (hAM : AM X A s) (hA : ∀ q, s.heap.size ≤ q → A q) (hC : Ci (S := S') l y ws rm X (.ref b :: As) w post w') (hw : ws = Cond.code y bytes maxL ret :: ws') (hG : GoodIn Ts (wsV own index C y ws)) (hd : y.cls = C ∧ y.cls ≠ "java/lang/invoke/MethodHandle" ∧ y.cls ≠ "java/lang/invoke/VarHandle" ∧ (parseMethodDescriptor y.desc).map (fun d => d.parameters.length) = some n) (hR : rm.frames + 1 ≤ R.frames ∧ 8 + (maxL + 11) + rm.locals ≤ R.locals)
    (hH : Hold X A ss.flatten H) (hS : va_S A s.heap H locs) (is : List Nat) (his : is.filterMap (fun i => ss[i]?) = w ++ sr) (N0 : Nat) (hN0 : ss.length = N0) (hip : is.Perm (List.range N0)) (hrv : ∃ cell : Cell, H[b]? = some cell ∧ cell.vm.isStatics = false ∧ s.vm.findClass C = some cell.cls)
    (hn : As.length = n) (hls : ls.size = nL) (hst0 : st0 = As.reverse ++ .ref b :: rest) (hrm : (rest.map fun v => v.category).sum ≤ 8) (hdg : decode cc pc = .ok (.invokevirtual index, 3)) (hf : cells + rm.cells ≤ R.cells ∧ slots + rm.slots ≤ R.slots)
    (kk : ∀ (z : Int) (u : S') (H1 : Heap) (locs1 : List Loc), post z u → Hold X A (w' u ++ sr).flatten H1 → va_S A s.heap H1 locs1 → W p l e R s m args below meth c H1 locs1 (cells + rm.cells) (slots + rm.slots) Q (F0 m (pc + 3) ls (.int (iI z) :: rest))) : W p l e R s m args below meth c H locs cells slots Q (F0 m pc ls st0) := by
  have hH2 := hold_cut hH is his N0 hN0 hip
  exact zr_i hA hH2 hS (va_runV S (hC H.size) (cwV n S.2.2.2.2 hG hw rfl rfl hd hR) ⟨Pre.blind, hrv, fun U hU hW => pre_at hAM hA hH2 hS hU hW⟩ rfl hn hls hst0 (lv_room hrm) hdg hf) kk
end ZT
def chJ (i k : Nat) : Nat := ((bytJ.getD i []).getD k 0).toInt.toNat
def lnJ (i : Nat) : Nat := lenJ.getD i 0
theorem chJ_ok : ∀ i, i < 11 → ∀ k, k < lnJ i → ((bytJ.getD i []).getD k 0 = iI ((chJ i k : Nat) : Int) ∧ 32 ≤ chJ i k ∧ chJ i k < 127) := by decide +kernel
theorem lnJ_ok : ∀ i, i < 11 → lnJ i < 80 := by decide +kernel
theorem and255 : ∀ a : Nat, a < 256 → a &&& 255 = a := by decide +kernel
theorem i2c256 : ∀ a : Nat, a < 256 → ((iI (a : Int)).toUInt32 % 65536).toInt32 = iI (a : Int) := by decide +kernel
theorem nar_c {a : Nat} (h : a < 65536) : narrow .char (.int (iI (a : Int))) = .int (iI (a : Int)) := by
  rw [iI_nat]
  exact (pk_charN h).1
set_option maxHeartbeats 4000000 in
set_option maxRecDepth 100000 in
theorem kS_coder (l : Launch) (X : XT) (i : Nat) (hi : i < 11) : Ci l yJ0_coder_7d493 wsJ0_coder_7d493 (rmD 1) X [.ref (X.2.2.1 i)] [] (fun (z : Int) (_ : Unit) => z = 0) (fun _ => []) := by
  refine Ci.ofW (cc := cJ0_coder_7d493) (maxL := 1) (by decide) rfl (Nat.le_of_ble_eq_true rfl) ?_
  intro p_ e_ s_ m_ below meth c_ A Q_ S hA hAM hH hS hret ls hl
  have hl : lv_has ls 1 [(0, .ref (X.2.2.1 i))] := hl
  have hZ : va_Z "java/lang/String" "COMPACT_STRINGS" "Z" (.int (iI 1)) A s_ s_.heap := by rw [← iI_1]; exact hAM.2.2.2.2.1
  have hO : va_OF "java/lang/String" "coder" "B" (.int (iI 0)) (X.2.2.1 i) A s_ s_.heap := by rw [← iI_0]; exact (hAM.2.2.1.1 i hi).2.1
  refine va_gets S.1 S.2.1 hZ hS S.2.2.2.1 (S.2.2.2.2 (.fieldLink RJ0 38 "java/lang/String" "COMPACT_STRINGS" "Z") (List.mem_of_getElem? (i := 1) rfl)) (fun _ h => h) dJ0_coder_7d493_0 ?_
  refine zv_if_eq (tgt := 13) S dJ0_coder_7d493_3 (by decide) (by decide) (fun h => absurd h (by decide)) (fun _ => ?_)
  refine lv_aload_n S.1 S.2.1 dJ0_coder_7d493_6 rfl (lv_at hl 0 rfl) ?_
  refine vk_getf S.1 S.2.1 hO hS S.2.2.2.1 (S.2.2.2.2 (.fieldLink RJ0 15 "java/lang/String" "coder" "B") (List.mem_of_getElem? (i := 2) rfl)) (fun _ h => h) dJ0_coder_7d493_7 ?_
  refine lv_goto (tgt := 14) S.1 S.2.1 dJ0_coder_7d493_10 (by decide) ?_
  exact hret 14 ls _ _ 0 () dJ0_coder_7d493_14 rfl rfl hH hS
set_option maxHeartbeats 4000000 in
set_option maxRecDepth 100000 in
theorem kS_isLatin1 (l : Launch) (X : XT) (i : Nat) (hi : i < 11) : Ci l yJ0_isLatin1_aae02 wsJ0_isLatin1_aae02 (rmD 1) X [.ref (X.2.2.1 i)] [] (fun (z : Int) (_ : Unit) => z = 1) (fun _ => []) := by
  refine Ci.ofW (cc := cJ0_isLatin1_aae02) (maxL := 1) (by decide) rfl (Nat.le_of_ble_eq_true rfl) ?_
  intro p_ e_ s_ m_ below meth c_ A Q_ S hA hAM hH hS hret ls hl
  have hl : lv_has ls 1 [(0, .ref (X.2.2.1 i))] := hl
  have hZ : va_Z "java/lang/String" "COMPACT_STRINGS" "Z" (.int (iI 1)) A s_ s_.heap := by rw [← iI_1]; exact hAM.2.2.2.2.1
  have hO : va_OF "java/lang/String" "coder" "B" (.int (iI 0)) (X.2.2.1 i) A s_ s_.heap := by rw [← iI_0]; exact (hAM.2.2.1.1 i hi).2.1
  refine va_gets S.1 S.2.1 hZ hS S.2.2.2.1 (S.2.2.2.2 (.fieldLink RJ0 38 "java/lang/String" "COMPACT_STRINGS" "Z") (List.mem_of_getElem? (i := 1) rfl)) (fun _ h => h) dJ0_isLatin1_aae02_0 ?_
  refine zv_if_eq (tgt := 17) S dJ0_isLatin1_aae02_3 (by decide) (by decide) (fun h => absurd h (by decide)) (fun _ => ?_)
  refine lv_aload_n S.1 S.2.1 dJ0_isLatin1_aae02_6 rfl (lv_at hl 0 rfl) ?_
  refine vk_getf S.1 S.2.1 hO hS S.2.2.2.1 (S.2.2.2.2 (.fieldLink RJ0 15 "java/lang/String" "coder" "B") (List.mem_of_getElem? (i := 2) rfl)) (fun _ h => h) dJ0_isLatin1_aae02_7 ?_
  refine zv_if_ne (tgt := 17) S dJ0_isLatin1_aae02_10 (by decide) (by decide) (fun h => absurd rfl h) (fun _ => ?_)
  refine lv_iconst (v := iI 1) S.1 S.2.1 dJ0_isLatin1_aae02_13 (by decide) ?_
  refine lv_goto (tgt := 18) S.1 S.2.1 dJ0_isLatin1_aae02_14 (by decide) ?_
  exact hret 18 ls _ _ 1 () dJ0_isLatin1_aae02_18 rfl rfl hH hS
set_option maxHeartbeats 4000000 in
set_option maxRecDepth 100000 in
theorem kS_length (l : Launch) (X : XT) (i : Nat) (hi : i < 11) : Ci l yJ0_length_8abf5 wsJ0_length_8abf5 (rmD 2) X [.ref (X.2.2.1 i)] [] (fun (z : Int) (_ : Unit) => z = ((lnJ i : Nat) : Int)) (fun _ => []) := by
  refine Ci.ofW (cc := cJ0_length_8abf5) (maxL := 1) (by decide) rfl (Nat.le_of_ble_eq_true rfl) ?_
  intro p_ e_ s_ m_ below meth c_ A Q_ S hA hAM hH hS hret ls hl
  have hl : lv_has ls 1 [(0, .ref (X.2.2.1 i))] := hl
  have hL := lnJ_ok i hi
  refine lv_aload_n S.1 S.2.1 dJ0_length_8abf5_0 rfl (lv_at hl 0 rfl) ?_
  refine vk_getf S.1 S.2.1 (hAM.2.2.1.1 i hi).2.2.1 hS S.2.2.2.1 (S.2.2.2.2 (.fieldLink RJ0 9 "java/lang/String" "value" "[B") (List.mem_of_getElem? (i := 1) rfl)) (fun _ h => h) dJ0_length_8abf5_1 ?_
  refine va_tlen (v := iI ((lnJ i : Nat) : Int)) S.1 S.2.1 (hAM.2.2.1.1 i hi).2.2.2 hS (iI_nat _).symm dJ0_length_8abf5_4 ?_
  refine lv_aload_n S.1 S.2.1 dJ0_length_8abf5_5 rfl (lv_at hl 0 rfl) ?_
  refine zc_Ti (n := 0) (As := []) (rest := [.int (iI ((lnJ i : Nat) : Int))]) S hAM hA (kS_coder l X i hi) rfl gJ0_length_8abf5_J0_coder_7d493 (by decide +kernel) ⟨Nat.le_of_ble_eq_true rfl, Nat.le_of_ble_eq_true rfl⟩ hH hS [] rfl 0 rfl (List.Perm.refl _) (vk_recv hAM.2.2.1 hi hS) rfl hl.1 rfl (Nat.le_of_ble_eq_true rfl) dJ0_length_8abf5_6 ⟨Nat.le_of_ble_eq_true rfl, Nat.le_of_ble_eq_true rfl⟩ (fun z _ H locs hp hH hS => ?_)
  obtain rfl := hp
  refine zv_ishr (z := ((lnJ i : Nat) : Int)) S dJ0_length_8abf5_9 ?_ ?_
  · have h := iI_shr0 (lnJ i) 0 (by omega) (by omega)
    rw [Nat.pow_zero, Nat.div_one] at h
    exact h
  exact hret 10 ls _ _ ((lnJ i : Nat) : Int) () dJ0_length_8abf5_10 rfl rfl hH hS
set_option maxHeartbeats 4000000 in
set_option maxRecDepth 100000 in
theorem kS_pre (l : Launch) (X : XT) (k n : Nat) (hk : k < n) (hn : n < 1000) (fv : Value) (hfv : fv = .null ∨ ∃ t, fv = .ref t) : Ci l yJ3_checkIndex_8e157 wsJ3_checkIndex_8e157 (rmD 1) X [.int (iI ((k : Nat) : Int)), .int (iI ((n : Nat) : Int)), fv] [] (fun (z : Int) (_ : Unit) => z = ((k : Nat) : Int)) (fun _ => []) := by
  refine Ci.ofW (cc := cJ3_checkIndex_8e157) (maxL := 3) (by decide) rfl (by rcases hfv with rfl | ⟨t, rfl⟩ <;> exact (Nat.le_of_ble_eq_true rfl)) ?_
  intro p_ e_ s_ m_ below meth c_ A Q_ S hA hAM hH hS hret ls hl
  have hl : lv_has ls 3 [(0, .int (iI ((k : Nat) : Int))), (1, .int (iI ((n : Nat) : Int)))] := lv_sub hl [0, 1] (by rcases hfv with rfl | ⟨t, rfl⟩ <;> rfl)
  refine lv_iload_n S.1 S.2.1 dJ3_checkIndex_8e157_0 rfl (lv_at hl 0 rfl) ?_
  refine zv_if_lt (tgt := 9) S dJ3_checkIndex_8e157_1 (by decide) (by omega) (fun h => absurd h (by omega)) (fun _ => ?_)
  refine lv_iload_n S.1 S.2.1 dJ3_checkIndex_8e157_4 rfl (lv_at hl 0 rfl) ?_
  refine lv_iload_n S.1 S.2.1 dJ3_checkIndex_8e157_5 rfl (lv_at hl 1 rfl) ?_
  refine zv_icmp_lt (tgt := 16) S dJ3_checkIndex_8e157_6 (by decide) (by omega) (by omega) (fun _ => ?_) (fun h => absurd (show ((k : Nat) : Int) < ((n : Nat) : Int) by omega) h)
  refine lv_iload_n S.1 S.2.1 dJ3_checkIndex_8e157_16 rfl (lv_at hl 0 rfl) ?_
  exact hret 17 ls _ _ ((k : Nat) : Int) () dJ3_checkIndex_8e157_17 rfl rfl hH hS
set_option maxHeartbeats 4000000 in
set_option maxRecDepth 100000 in
theorem kS_check (l : Launch) (X : XT) (k n : Nat) (hk : k < n) (hn : n < 1000) : Cv l yJ0_checkIndex_df160 wsJ0_checkIndex_df160 (rmD 2) X [.int (iI ((k : Nat) : Int)), .int (iI ((n : Nat) : Int))] [] (fun (_ : Unit) => True) (fun _ => []) := by
  refine Cv.ofW (cc := cJ0_checkIndex_df160) (maxL := 2) (by decide) rfl (Nat.le_of_ble_eq_true rfl) ?_
  intro p_ e_ s_ m_ below meth c_ A Q_ S hA hAM hH hS hmn hret ls hl
  have hl : lv_has ls 2 [(0, .int (iI ((k : Nat) : Int))), (1, .int (iI ((n : Nat) : Int)))] := hl
  refine lv_iload_n S.1 S.2.1 dJ0_checkIndex_df160_0 rfl (lv_at hl 0 rfl) ?_
  refine lv_iload_n S.1 S.2.1 dJ0_checkIndex_df160_1 rfl (lv_at hl 1 rfl) ?_
  rcases hAM.2.2.2.2.2 with hZ | ⟨t, hZ⟩
  · refine va_gets S.1 S.2.1 hZ hS S.2.2.2.1 (S.2.2.2.2 (.fieldLink RJ0 1053 "jdk/internal/util/Preconditions" "SIOOBE_FORMATTER" "Ljava/util/function/BiFunction;") (List.mem_of_getElem? (i := 1) rfl)) (fun _ h => h) dJ0_checkIndex_df160_2 ?_
    refine zc_Si (n := 3) (As := [.int (iI ((k : Nat) : Int)), .int (iI ((n : Nat) : Int)), .null]) (rest := []) S hAM hA (kS_pre l X k n hk hn .null (Or.inl rfl)) rfl gJ0_checkIndex_df160_J3_checkIndex_8e157 (by decide +kernel) ⟨Nat.le_of_ble_eq_true rfl, Nat.le_of_ble_eq_true rfl⟩ hH hS [] rfl 0 rfl (List.Perm.refl _) rfl hl.1 rfl (Nat.le_of_ble_eq_true rfl) dJ0_checkIndex_df160_5 ⟨Nat.le_of_ble_eq_true rfl, Nat.le_of_ble_eq_true rfl⟩ (fun z _ H locs hp hH hS => ?_)
    refine lv_pop S.1 S.2.1 dJ0_checkIndex_df160_8 rfl ?_
    exact hret 9 ls _ _ () dJ0_checkIndex_df160_9 trivial hH hS
  · refine va_gets S.1 S.2.1 hZ hS S.2.2.2.1 (S.2.2.2.2 (.fieldLink RJ0 1053 "jdk/internal/util/Preconditions" "SIOOBE_FORMATTER" "Ljava/util/function/BiFunction;") (List.mem_of_getElem? (i := 1) rfl)) (fun _ h => h) dJ0_checkIndex_df160_2 ?_
    refine zc_Si (n := 3) (As := [.int (iI ((k : Nat) : Int)), .int (iI ((n : Nat) : Int)), (.ref t)]) (rest := []) S hAM hA (kS_pre l X k n hk hn (.ref t) (Or.inr ⟨t, rfl⟩)) rfl gJ0_checkIndex_df160_J3_checkIndex_8e157 (by decide +kernel) ⟨Nat.le_of_ble_eq_true rfl, Nat.le_of_ble_eq_true rfl⟩ hH hS [] rfl 0 rfl (List.Perm.refl _) rfl hl.1 rfl (Nat.le_of_ble_eq_true rfl) dJ0_checkIndex_df160_5 ⟨Nat.le_of_ble_eq_true rfl, Nat.le_of_ble_eq_true rfl⟩ (fun z _ H locs hp hH hS => ?_)
    refine lv_pop S.1 S.2.1 dJ0_checkIndex_df160_8 rfl ?_
    exact hret 9 ls _ _ () dJ0_checkIndex_df160_9 trivial hH hS
set_option maxHeartbeats 4000000 in
set_option maxRecDepth 100000 in
theorem kS_latAt (l : Launch) (X : XT) (i k : Nat) (hi : i < 11) (hk : k < lnJ i) : Ci l yJ1_charAt_3b067 wsJ1_charAt_3b067 (rmD 3) X [.ref (X.2.2.2 i), .int (iI ((k : Nat) : Int))] [] (fun (z : Int) (_ : Unit) => z = ((chJ i k : Nat) : Int)) (fun _ => []) := by
  refine Ci.ofW (cc := cJ1_charAt_3b067) (maxL := 2) (by decide) rfl (Nat.le_of_ble_eq_true rfl) ?_
  intro p_ e_ s_ m_ below meth c_ A Q_ S hA hAM hH hS hret ls hl
  have hl : lv_has ls 2 [(0, .ref (X.2.2.2 i)), (1, .int (iI ((k : Nat) : Int)))] := hl
  have hL := lnJ_ok i hi
  have hc := chJ_ok i hi k hk
  refine lv_iload_n S.1 S.2.1 dJ1_charAt_3b067_0 rfl (lv_at hl 1 rfl) ?_
  refine lv_aload_n S.1 S.2.1 dJ1_charAt_3b067_1 rfl (lv_at hl 0 rfl) ?_
  refine va_tlen (v := iI ((lnJ i : Nat) : Int)) S.1 S.2.1 (hAM.2.2.1.1 i hi).2.2.2 hS (iI_nat _).symm dJ1_charAt_3b067_2 ?_
  refine zc_Sv (n := 2) (As := [.int (iI ((k : Nat) : Int)), .int (iI ((lnJ i : Nat) : Int))]) (rest := []) S hAM hA (kS_check l X k (lnJ i) hk (by omega)) rfl gJ1_charAt_3b067_J0_checkIndex_df160 (by decide +kernel) ⟨Nat.le_of_ble_eq_true rfl, Nat.le_of_ble_eq_true rfl⟩ hH hS [] rfl 0 rfl (List.Perm.refl _) rfl hl.1 rfl (Nat.le_of_ble_eq_true rfl) dJ1_charAt_3b067_3 ⟨Nat.le_of_ble_eq_true rfl, Nat.le_of_ble_eq_true rfl⟩ (fun _ H locs hp hH hS => ?_)
  refine lv_aload_n S.1 S.2.1 dJ1_charAt_3b067_6 rfl (lv_at hl 0 rfl) ?_
  refine lv_iload_n S.1 S.2.1 dJ1_charAt_3b067_7 rfl (lv_at hl 1 rfl) ?_
  refine va_tb (v := .int (iI ((chJ i k : Nat) : Int))) S.1 S.2.1 (hAM.2.2.1.1 i hi).2.2.2 hS (iI_in hk (by show lnJ i < 2147483648; omega)) (by show Value.int _ = _; rw [iI_clamp (by omega), hc.1]) dJ1_charAt_3b067_8 ?_
  refine lv_sipush (v := iI ((255 : Nat) : Int)) S.1 S.2.1 dJ1_charAt_3b067_9 (by decide) ?_
  refine zv_iand (z := ((chJ i k : Nat) : Int)) S dJ1_charAt_3b067_12 (by rw [iI_and, and255 _ (by omega)]) ?_
  refine lv_i2c (v := iI ((chJ i k : Nat) : Int)) S.1 S.2.1 dJ1_charAt_3b067_13 (i2c256 _ (by omega)) ?_
  exact hret 14 ls _ _ ((chJ i k : Nat) : Int) () dJ1_charAt_3b067_14 (nar_c (by omega)) rfl hH hS
set_option maxHeartbeats 4000000 in
set_option maxRecDepth 100000 in
theorem kS_charAt (l : Launch) (X : XT) (i k : Nat) (hi : i < 11) (hk : k < lnJ i) : Ci l yJ0_charAt_5068e wsJ0_charAt_5068e (rmD 4) X [.ref (X.2.2.1 i), .int (iI ((k : Nat) : Int))] [] (fun (z : Int) (_ : Unit) => z = ((chJ i k : Nat) : Int)) (fun _ => []) := by
  refine Ci.ofW (cc := cJ0_charAt_5068e) (maxL := 2) (by decide) rfl (Nat.le_of_ble_eq_true rfl) ?_
  intro p_ e_ s_ m_ below meth c_ A Q_ S hA hAM hH hS hret ls hl
  have hl : lv_has ls 2 [(0, .ref (X.2.2.1 i)), (1, .int (iI ((k : Nat) : Int)))] := hl
  have hc := chJ_ok i hi k hk
  refine lv_aload_n S.1 S.2.1 dJ0_charAt_5068e_0 rfl (lv_at hl 0 rfl) ?_
  refine zc_Ti (n := 0) (As := []) (rest := []) S hAM hA (kS_isLatin1 l X i hi) rfl gJ0_charAt_5068e_J0_isLatin1_aae02 (by decide +kernel) ⟨Nat.le_of_ble_eq_true rfl, Nat.le_of_ble_eq_true rfl⟩ hH hS [] rfl 0 rfl (List.Perm.refl _) (vk_recv hAM.2.2.1 hi hS) rfl hl.1 rfl (Nat.le_of_ble_eq_true rfl) dJ0_charAt_5068e_1 ⟨Nat.le_of_ble_eq_true rfl, Nat.le_of_ble_eq_true rfl⟩ (fun z _ H locs hp hH hS => ?_)
  obtain rfl := hp
  refine zv_if_eq (tgt := 16) S dJ0_charAt_5068e_4 (by decide) (by decide) (fun h => absurd h (by decide)) (fun _ => ?_)
  refine lv_aload_n S.1 S.2.1 dJ0_charAt_5068e_7 rfl (lv_at hl 0 rfl) ?_
  refine vk_getf S.1 S.2.1 (hAM.2.2.1.1 i hi).2.2.1 hS S.2.2.2.1 (S.2.2.2.2 (.fieldLink RJ0 9 "java/lang/String" "value" "[B") (List.mem_of_getElem? (i := 1) rfl)) (fun _ h => h) dJ0_charAt_5068e_8 ?_
  refine lv_iload_n S.1 S.2.1 dJ0_charAt_5068e_11 rfl (lv_at hl 1 rfl) ?_
  refine zc_Si (n := 2) (As := [.ref (X.2.2.2 i), .int (iI ((k : Nat) : Int))]) (rest := []) S hAM hA (kS_latAt l X i k hi hk) rfl gJ0_charAt_5068e_J1_charAt_3b067 (by decide +kernel) ⟨Nat.le_of_ble_eq_true rfl, Nat.le_of_ble_eq_true rfl⟩ hH hS [] rfl 0 rfl (List.Perm.refl _) rfl hl.1 rfl (Nat.le_of_ble_eq_true rfl) dJ0_charAt_5068e_12 ⟨Nat.le_of_ble_eq_true rfl, Nat.le_of_ble_eq_true rfl⟩ (fun z _ H locs hp hH hS => ?_)
  obtain rfl := hp
  exact hret 15 ls _ _ ((chJ i k : Nat) : Int) () dJ0_charAt_5068e_15 (nar_c (by omega)) rfl hH hS
