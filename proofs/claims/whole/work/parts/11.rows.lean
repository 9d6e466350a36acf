/-! ===== more rows ===== -/
abbrev rmD (d : Nat) : Room := { frames := d, cells := 0, slots := 0, locals := 64 * d }
def lI (z : Int) : Int64 := Int64.ofInt z
theorem lI_i {z : Int} (h : inR z) : (iI z).toInt64 = lI z := Int32.toInt64_ofInt (by rw [show Int32.minValue.toInt = -2147483648 from by decide]; exact h.1) (by rw [show Int32.maxValue.toInt = 2147483647 from by decide]; omega)
theorem lI_toInt {z : Int} (h : inR z) : (lI z).toInt = z := Int64.toInt_ofInt_of_le (by omega) (by omega)
def cmpI (a b : Int) : Int := if a < b then -1 else if a = b then 0 else 1
theorem cmpI_eq {a b : Int} (ha : inR a) (hb : inR b) : lg_cmp (lI a) (lI b) = iI (cmpI a b) := by
  unfold lg_cmp cmpI
  have e1 : (lI a > lI b) ↔ b < a := by rw [gt_iff_lt, Int64.lt_iff_toInt_lt, lI_toInt ha, lI_toInt hb]
  have e2 : (lI a = lI b) ↔ a = b := by rw [← Int64.toInt_inj, lI_toInt ha, lI_toInt hb]
  by_cases h1 : b < a
  · rw [if_pos (e1.mpr h1), if_neg (by omega), if_neg (by omega)]
    decide
  · rw [if_neg (fun z => h1 (e1.mp z))]
    by_cases h2 : a = b
    · rw [if_pos (e2.mpr h2), if_neg (by omega), if_pos h2]
      decide
    · rw [if_neg (fun z => h2 (e2.mp z)), if_pos (by omega)]
      decide
section ZW
variable {p : Program} {l : Launch} {e : Env} {R : Room} {s : State} {m : MethodId} {args : Array Value} {below : List Frame} {meth : Method} {c : Code} {H : Heap} {locs : List Loc} {cells slots : Nat} {Q : State → Prop}
variable {cc : ByteArray} {pc nL : Nat} {ls : Array Slot} {rest : List Value} {X : XT} {A : Nat → Prop} {Ts : List Cond} {own : String}
theorem zv_top {z z2 : Int} (hz : z = z2) (k : W p l e R s m args below meth c H locs cells slots Q (F0 m pc ls (.int (iI z2) :: rest))) : W p l e R s m args below meth c H locs cells slots Q (F0 m pc ls (.int (iI z) :: rest)) := hz ▸ k
theorem zv_lcmp {a b : Int} (S : CallFix p m c cc nL s args Ts own) (ha : inR a) (hb : inR b) (hdg : decode cc pc = .ok (.lcmp, 1)) (k : W p l e R s m args below meth c H locs cells slots Q (F0 m (pc + 1) ls (.int (iI (cmpI a b)) :: rest))) : W p l e R s m args below meth c H locs cells slots Q (F0 m pc ls (.long (lI b) :: .long (lI a) :: rest)) := by
  refine W.lcmp S.1 S.2.1 hdg ?_
  rw [cmpI_eq ha hb]
  exact k
theorem zv_const {idx : Nat} {n : Int32} {z : Int} (S : CallFix p m c cc nL s args Ts own) (hm : Cond.constant own idx n ∈ Ts) (hn : n = iI z) : (Cond.constant own idx (iI z)).before args s = true := hn ▸ S.2.2.2.2 _ hm
theorem zv_constL {idx : Nat} {n : Int64} {z : Int} (S : CallFix p m c cc nL s args Ts own) (hm : Cond.constantLong own idx n ∈ Ts) (hn : n = lI z) : (Cond.constantLong own idx (lI z)).before args s = true := hn ▸ S.2.2.2.2 _ hm
theorem zv_mmax {index : Nat} {a b z : Int} (S : CallFix p m c cc nL s args Ts own) (hls : ls.size = nL) (w1 : Cond.methodLink own index Lib.Math.max.name ∈ Ts) (w2 : Cond.static Lib.Math.max.name ∈ Ts) (w3 : Cond.initialized "java/lang/Math" ∈ Ts) (w4 : Cond.code Lib.Math.max.name Lib.Math.max.code 2 (some .int) ∈ Ts) (ha : inR a) (hb : inR b) (hz : max a b = z) (hf : 1 ≤ R.frames) (hl : (rest.map fun v => v.category).sum + 13 ≤ R.locals) (hc : cells ≤ R.cells) (hs : slots ≤ R.slots) (hdg : decode cc pc = .ok (.invokestatic index, 3))
    (k : W p l e R s m args below meth c H locs cells slots Q (F0 m (pc + 3) ls (.int (iI z) :: rest))) : W p l e R s m args below meth c H locs cells slots Q (F0 m pc ls (.int (iI b) :: .int (iI a) :: rest)) := by
  refine va_mmax S.1 S.2.1 (S.2.2.1.trans hls.symm) S.2.2.2.1 (S.2.2.2.2 _ w1) (S.2.2.2.2 _ w2) (S.2.2.2.2 _ w3) (S.2.2.2.2 _ w4) hf hl hc hs hdg ?_
  have e : (if iI a < iI b then iI b else iI a) = iI z := by
    subst hz
    by_cases h : a < b
    · rw [if_pos ((iI_lt ha hb).mpr h), show max a b = b by omega]
    · rw [if_neg (fun q => h ((iI_lt ha hb).mp q)), show max a b = a by omega]
  rw [e]
  exact k
theorem zv_mmin {index : Nat} {a b z : Int} (S : CallFix p m c cc nL s args Ts own) (hls : ls.size = nL) (w1 : Cond.methodLink own index Lib.Math.min.name ∈ Ts) (w2 : Cond.static Lib.Math.min.name ∈ Ts) (w3 : Cond.initialized "java/lang/Math" ∈ Ts) (w4 : Cond.code Lib.Math.min.name Lib.Math.min.code 2 (some .int) ∈ Ts) (ha : inR a) (hb : inR b) (hz : min a b = z) (hf : 1 ≤ R.frames) (hl : (rest.map fun v => v.category).sum + 13 ≤ R.locals) (hc : cells ≤ R.cells) (hs : slots ≤ R.slots) (hdg : decode cc pc = .ok (.invokestatic index, 3))
    (k : W p l e R s m args below meth c H locs cells slots Q (F0 m (pc + 3) ls (.int (iI z) :: rest))) : W p l e R s m args below meth c H locs cells slots Q (F0 m pc ls (.int (iI b) :: .int (iI a) :: rest)) := by
  refine va_mmin S.1 S.2.1 (S.2.2.1.trans hls.symm) S.2.2.2.1 (S.2.2.2.2 _ w1) (S.2.2.2.2 _ w2) (S.2.2.2.2 _ w3) (S.2.2.2.2 _ w4) hf hl hc hs hdg ?_
  have e : (if iI b < iI a then iI b else iI a) = iI z := by
    subst hz
    by_cases h : b < a
    · rw [if_pos ((iI_lt hb ha).mpr h), show min a b = b by omega]
    · rw [if_neg (fun q => h ((iI_lt hb ha).mp q)), show min a b = a by omega]
  rw [e]
  exact k
end ZW
/-! ===== bits of small numbers ===== -/
theorem iI_or (a b : Nat) : iI (a : Int) ||| iI (b : Int) = iI ((a ||| b : Nat) : Int) := by
  rw [iI_nat, iI_nat, iI_nat]
  apply Int32.toBitVec.inj
  show BitVec.ofNat 32 a ||| BitVec.ofNat 32 b = BitVec.ofNat 32 (a ||| b)
  apply BitVec.eq_of_toNat_eq
  simp [Nat.or_mod_two_pow]
theorem iI_and (a b : Nat) : iI (a : Int) &&& iI (b : Int) = iI ((a &&& b : Nat) : Int) := by
  rw [iI_nat, iI_nat, iI_nat]
  apply Int32.toBitVec.inj
  show BitVec.ofNat 32 a &&& BitVec.ofNat 32 b = BitVec.ofNat 32 (a &&& b)
  apply BitVec.eq_of_toNat_eq
  simp [Nat.and_mod_two_pow]
theorem iI_shl1 : ∀ r : Nat, r < 31 → iI ((1 : Nat) : Int) <<< (iI (r : Int) &&& 31) = iI ((2 ^ r : Nat) : Int) := by decide +kernel
theorem iI_shr0 : ∀ (a r : Nat), a < 2147483648 → r < 31 → iI (a : Int) >>> (iI (r : Int) &&& 31) = iI ((a / 2 ^ r : Nat) : Int) := by
  intro a r ha hr
  rw [iI_nat, iI_nat, iI_nat]
  exact pk_shrN (by omega) _ r (by
    have h : ∀ r : Nat, r < 31 → ((nI r &&& 31).toBitVec.smod 32).toNat = r := by decide +kernel
    exact h r hr)
/-! ===== the reference's world ===== -/
abbrev aW (X : XT) (q n : Nat) (g : Nat → Int) : va_W := [ia X q n g]
abbrev cW (X : XT) (q n : Nat) (g : Nat → Int) : va_W := [ca X q n g]
abbrev mO (h : Nat) (Q : Nat → Nat) (km ln sp rs : Int) : va_W := [(h, .inr (6, [.ref (Q 0), .ref (Q 1), .ref (Q 2), .int (iI km), .ref (Q 3), .int (iI ln), .int (iI sp), .int (iI rs), .ref (Q 4), .ref (Q 5)]))]
theorem cmpI_R (a b : Int) : inR (cmpI a b) := by
  unfold cmpI
  split
  · omega
  · split <;> omega
theorem cmpI_lt {a b : Int} : cmpI a b < 0 ↔ a < b := by
  unfold cmpI
  split
  · omega
  · split <;> omega
theorem cmpI_gt {a b : Int} : 0 < cmpI a b ↔ b < a := by
  unfold cmpI
  split
  · omega
  · split <;> omega
