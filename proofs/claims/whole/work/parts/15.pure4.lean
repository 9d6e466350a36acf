theorem tr_hit {M : Nat → Nat} {r K c a : Nat} {rec : (Nat → Int) → Option (Nat → Int)} {g g' : Nat → Int} (h : a + (c + 1) = K) (hm : mhI g (M r) ((a : Nat) : Int) r ≠ 0) (hs : rec (uI g r ((a : Nat) : Int)) = some g') : trF M r K rec g (c + 1) = some g' := by
  have e : K - (c + 1) = a := by omega
  rw [trF, e, if_pos hm, hs]
theorem tr_no {M : Nat → Nat} {r K c a : Nat} {rec : (Nat → Int) → Option (Nat → Int)} {g : Nat → Int} (h : a + (c + 1) = K) (hm : mhI g (M r) ((a : Nat) : Int) r = 0) : trF M r K rec g (c + 1) = trF M r K rec g c := by
  have e : K - (c + 1) = a := by omega
  rw [trF, e, if_neg (fun z => z hm)]
theorem tr_back {M : Nat → Nat} {r K c a : Nat} {rec : (Nat → Int) → Option (Nat → Int)} {g : Nat → Int} (h : a + (c + 1) = K) (hm : mhI g (M r) ((a : Nat) : Int) r ≠ 0) (hs : rec (uI g r ((a : Nat) : Int)) = none) : trF M r K rec g (c + 1) = trF M r K rec g c := by
  have e : K - (c + 1) = a := by omega
  rw [trF, e, if_pos hm, hs]
theorem srch_eq {M : Nat → Nat} {n K r d : Nat} {g : Nat → Int} (h : r + d = n) (hd : 1 ≤ d) : srch M n K d g = trF M r K (srch M n K (d - 1)) g K := by
  obtain ⟨d, rfl⟩ : ∃ d', d = d' + 1 := ⟨d - 1, by omega⟩
  have e : n - (d + 1) = r := by omega
  rw [srch, e]
  rfl
theorem fc_eq {M : Nat → Nat} {n K : Nat} (h : 1 ≤ n) : fc M n K = trF M 0 K (srch M n K (n - 1)) (fun _ => 0) K := srch_eq (by omega) h
