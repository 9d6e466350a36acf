/-! ===== Integer.bitCount of a small number; castore ===== -/
section ZB
variable {p : Program} {l : Launch} {e : Env} {R : Room} {s : State} {m : MethodId} {args : Array Value} {below : List Frame} {meth : Method} {c : Code} {H : Heap} {locs : List Loc} {cells slots : Nat} {Q : State → Prop}
variable {cc : ByteArray} {pc nL : Nat} {ls : Array Slot} {rest : List Value} {X : XT} {A : Nat → Prop} {Ts : List Cond} {own : String}
theorem nar_char {z : Nat} (hz : z < 65536) : vp_nar .char (iI (z : Int)) = iI (z : Int) := by
  unfold vp_nar
  rw [nar_c hz]
theorem zv_cast {w w2 : va_W} {a n : Nat} {g : Nat → Int} {i : Int} {z : Nat} (S : CallFix p m c cc nL s args Ts own) (hAM : AM X A s) (hH : Hold X A w H) (hS : va_S A s.heap H locs) (q0 : Nat) (he : w[q0]? = some (ca X a n g)) (k : Nat) (hk : i = (k : Int)) (hlt : k < n) (hn : n < 2147483648) (hz : z < 65536) (hw : w.set q0 (ca X a n (uI g k (z : Int))) = w2) (hdg : decode cc pc = .ok (.castore, 1))
    (kk : ∀ (H1 : Heap) (locs1 : List Loc), Hold X A w2 H1 → va_S A s.heap H1 locs1 → W p l e R s m args below meth c H1 locs1 cells slots Q (F0 m (pc + 1) ls rest)) : W p l e R s m args below meth c H locs cells slots Q (F0 m pc ls (.int (iI (z : Int)) :: .int (iI i) :: .ref a :: rest)) := by
  subst hk; subst hw
  refine va_cast S.1 S.2.1 hAM.1 hH.1 hH.2 hS q0 1 he rfl (iI_in hlt hn) hdg (fun H1 locs1 h1 h2 h3 => ?_)
  rw [iI_clamp (by omega), nar_char hz, zA_upd] at h1 h2
  exact kk H1 locs1 ⟨h1, h2⟩ h3
end ZB
def us32 (x : Int32) (k : Int32) : Int32 := (x.toUInt32 >>> (k.toUInt32 &&& Int32.toUInt32 31)).toInt32
def bc1 (x : Int32) : Int32 := x - (us32 x 1 &&& 1431655765)
def bc2 (x : Int32) : Int32 := (x &&& 858993459) + (us32 x 2 &&& 858993459)
def bc3 (x : Int32) : Int32 := (x + us32 x 4) &&& 252645135
def bc4 (x : Int32) : Int32 := x + us32 x 8
def bc5 (x : Int32) : Int32 := x + us32 x 16
theorem bc_all : ∀ n : Nat, n < 256 → bc5 (bc4 (bc3 (bc2 (bc1 (iI (n : Int)))))) &&& 63 = iI ((pop n : Nat) : Int) := by decide +kernel
set_option maxHeartbeats 4000000 in
set_option maxRecDepth 100000 in
theorem kJ_bitCount (l : Launch) (X : XT) (n0 : Nat) (hn : n0 < 256) : Ci l yJ6_bitCount_0f7a4 wsJ6_bitCount_0f7a4 (rmD 1) X [.int (iI ((n0 : Nat) : Int))] [] (fun (z : Int) (_ : Unit) => z = ((pop n0 : Nat) : Int)) (fun _ => []) := by
  refine Ci.ofW (cc := cJ6_bitCount_0f7a4) (maxL := 1) (by decide) rfl (Nat.le_of_ble_eq_true rfl) ?_
  intro p_ e_ s_ m_ below meth c_ A Q_ S hA hAM hH hS hret ls hl
  have hl : lv_has ls 1 [(0, .int (iI ((n0 : Nat) : Int)))] := hl
  have hb := bc_all n0 hn
  obtain ⟨x0, hx0⟩ : ∃ x0, x0 = iI ((n0 : Nat) : Int) := ⟨_, rfl⟩
  rw [← hx0] at hl hb
  refine lv_iload_n S.1 S.2.1 dJ6_bitCount_0f7a4_0 rfl (lv_at hl 0 rfl) ?_
  refine lv_iload_n S.1 S.2.1 dJ6_bitCount_0f7a4_1 rfl (lv_at hl 0 rfl) ?_
  refine lv_iconst (v := 1) S.1 S.2.1 dJ6_bitCount_0f7a4_2 (by decide) ?_
  refine lv_iushr (v := us32 x0 1) S.1 S.2.1 dJ6_bitCount_0f7a4_3 rfl ?_
  refine lv_ldcw (v := 1431655765) S.1 S.2.1 S.2.2.2.1 (S.2.2.2.2 (.constant RJ6 265 1431655765) (List.mem_of_getElem? (i := 1) rfl)) dJ6_bitCount_0f7a4_4 ?_
  refine lv_iand S.1 S.2.1 dJ6_bitCount_0f7a4_7 ?_
  refine lv_isub S.1 S.2.1 dJ6_bitCount_0f7a4_8 ?_
  refine lv_topi (fun x1 ex1 => ?_)
  refine lv_istore_n (lv' := [(0, .int x1)]) S.1 S.2.1 dJ6_bitCount_0f7a4_9 rfl hl (by decide) rfl (fun ls hl => ?_)
  rw [show bc1 x0 = x1 from ex1.symm] at hb
  refine lv_iload_n S.1 S.2.1 dJ6_bitCount_0f7a4_10 rfl (lv_at hl 0 rfl) ?_
  refine lv_ldcw (v := 858993459) S.1 S.2.1 S.2.2.2.1 (S.2.2.2.2 (.constant RJ6 266 858993459) (List.mem_of_getElem? (i := 2) rfl)) dJ6_bitCount_0f7a4_11 ?_
  refine lv_iand S.1 S.2.1 dJ6_bitCount_0f7a4_14 ?_
  refine lv_iload_n S.1 S.2.1 dJ6_bitCount_0f7a4_15 rfl (lv_at hl 0 rfl) ?_
  refine lv_iconst (v := 2) S.1 S.2.1 dJ6_bitCount_0f7a4_16 (by decide) ?_
  refine lv_iushr (v := us32 x1 2) S.1 S.2.1 dJ6_bitCount_0f7a4_17 rfl ?_
  refine lv_ldcw (v := 858993459) S.1 S.2.1 S.2.2.2.1 (S.2.2.2.2 (.constant RJ6 266 858993459) (List.mem_of_getElem? (i := 2) rfl)) dJ6_bitCount_0f7a4_18 ?_
  refine lv_iand S.1 S.2.1 dJ6_bitCount_0f7a4_21 ?_
  refine lv_iadd S.1 S.2.1 dJ6_bitCount_0f7a4_22 ?_
  refine lv_topi (fun x2 ex2 => ?_)
  refine lv_istore_n (lv' := [(0, .int x2)]) S.1 S.2.1 dJ6_bitCount_0f7a4_23 rfl hl (by decide) rfl (fun ls hl => ?_)
  rw [show bc2 x1 = x2 from ex2.symm] at hb
  refine lv_iload_n S.1 S.2.1 dJ6_bitCount_0f7a4_24 rfl (lv_at hl 0 rfl) ?_
  refine lv_iload_n S.1 S.2.1 dJ6_bitCount_0f7a4_25 rfl (lv_at hl 0 rfl) ?_
  refine lv_iconst (v := 4) S.1 S.2.1 dJ6_bitCount_0f7a4_26 (by decide) ?_
  refine lv_iushr (v := us32 x2 4) S.1 S.2.1 dJ6_bitCount_0f7a4_27 rfl ?_
  refine lv_iadd S.1 S.2.1 dJ6_bitCount_0f7a4_28 ?_
  refine lv_ldcw (v := 252645135) S.1 S.2.1 S.2.2.2.1 (S.2.2.2.2 (.constant RJ6 267 252645135) (List.mem_of_getElem? (i := 3) rfl)) dJ6_bitCount_0f7a4_29 ?_
  refine lv_iand S.1 S.2.1 dJ6_bitCount_0f7a4_32 ?_
  refine lv_topi (fun x3 ex3 => ?_)
  refine lv_istore_n (lv' := [(0, .int x3)]) S.1 S.2.1 dJ6_bitCount_0f7a4_33 rfl hl (by decide) rfl (fun ls hl => ?_)
  rw [show bc3 x2 = x3 from ex3.symm] at hb
  refine lv_iload_n S.1 S.2.1 dJ6_bitCount_0f7a4_34 rfl (lv_at hl 0 rfl) ?_
  refine lv_iload_n S.1 S.2.1 dJ6_bitCount_0f7a4_35 rfl (lv_at hl 0 rfl) ?_
  refine lv_bipush (v := 8) S.1 S.2.1 dJ6_bitCount_0f7a4_36 (by decide) ?_
  refine lv_iushr (v := us32 x3 8) S.1 S.2.1 dJ6_bitCount_0f7a4_38 rfl ?_
  refine lv_iadd S.1 S.2.1 dJ6_bitCount_0f7a4_39 ?_
  refine lv_topi (fun x4 ex4 => ?_)
  refine lv_istore_n (lv' := [(0, .int x4)]) S.1 S.2.1 dJ6_bitCount_0f7a4_40 rfl hl (by decide) rfl (fun ls hl => ?_)
  rw [show bc4 x3 = x4 from ex4.symm] at hb
  refine lv_iload_n S.1 S.2.1 dJ6_bitCount_0f7a4_41 rfl (lv_at hl 0 rfl) ?_
  refine lv_iload_n S.1 S.2.1 dJ6_bitCount_0f7a4_42 rfl (lv_at hl 0 rfl) ?_
  refine lv_bipush (v := 16) S.1 S.2.1 dJ6_bitCount_0f7a4_43 (by decide) ?_
  refine lv_iushr (v := us32 x4 16) S.1 S.2.1 dJ6_bitCount_0f7a4_45 rfl ?_
  refine lv_iadd S.1 S.2.1 dJ6_bitCount_0f7a4_46 ?_
  refine lv_topi (fun x5 ex5 => ?_)
  refine lv_istore_n (lv' := [(0, .int x5)]) S.1 S.2.1 dJ6_bitCount_0f7a4_47 rfl hl (by decide) rfl (fun ls hl => ?_)
  rw [show bc5 x4 = x5 from ex5.symm] at hb
  refine lv_iload_n S.1 S.2.1 dJ6_bitCount_0f7a4_48 rfl (lv_at hl 0 rfl) ?_
  refine lv_bipush (v := 63) S.1 S.2.1 dJ6_bitCount_0f7a4_49 (by decide) ?_
  refine lv_iand S.1 S.2.1 dJ6_bitCount_0f7a4_51 ?_
  rw [hb]
  exact hret 52 ls _ _ ((pop n0 : Nat) : Int) () dJ6_bitCount_0f7a4_52 rfl rfl hH hS
