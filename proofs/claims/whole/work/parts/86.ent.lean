/-! ===== the law's entry ===== -/
def tmJ (i : Nat) : Term := match i with
  | 0 => .string "RoleDoublingPlanner" 49
  | 1 => .string "RoleDoublingPlanner" 55
  | 2 => .string "RoleDoublingPlanner" 57
  | 3 => .string "RoleDoublingPlanner" 59
  | 4 => .string "RoleDoublingPlanner" 61
  | 5 => .string "RoleDoublingPlanner$PlayText" 57
  | 6 => .string "RoleDoublingPlanner$PlayText" 66
  | 7 => .string "RoleDoublingPlanner$PlayText" 71
  | 8 => .string "RoleDoublingPlanner$PlayText" 105
  | 9 => .string "RoleDoublingPlanner$PlayText" 107
  | _ => .string "RoleDoublingPlanner$PlayText" 109
theorem arrOf {s : State} {c : ClassId} {k : Class} {comp : ClassId} {ty : FieldType} (h1 : s.vm.classes[c]? = some k) (h2 : k.kind = .array comp ty) : ArrOfT s c ty := fun n z => ⟨fun k h => (by cases h), k, h1, comp, h2⟩
theorem ent_K {s : State} {b : Nat} (hts : ∀ w ∈ lw_tbl, w.before #[Value.ref b] s = true) : ∃ (D : va_G) (T : Nat → ClassId), va_K D vwCl [(T 0, .int), (T 1, .char), (T 2, .object "RoleDoublingPlanner$Play"), (T 3, .array .int)] s := by
  obtain ⟨c0, i0, k0⟩ := u_known (C := RX0) (T := TX0) (N := 3) (n := 3) hts inX0 (hts _ (by decide +kernel))
  obtain ⟨c1, i1, k1⟩ := u_known (C := RX1) (T := TX1) (N := 2) (n := 2) hts inX1 (hts _ (by decide +kernel))
  obtain ⟨c2, i2, k2⟩ := u_known (C := RX2) (T := TX2) (N := 12) (n := 12) hts inX2 (hts _ (by decide +kernel))
  obtain ⟨c3, i3, k3⟩ := u_known (C := RX3) (T := TX3) (N := 7) (n := 7) hts inX3 (hts _ (by decide +kernel))
  obtain ⟨c4, i4, k4⟩ := u_known (C := RX4) (T := TX4) (N := 2) (n := 2) hts inX4 (hts _ (by decide +kernel))
  obtain ⟨c5, i5, k5⟩ := u_known (C := RX5) (T := TX5) (N := 6) (n := 6) hts inX5 (hts _ (by decide +kernel))
  obtain ⟨c6, i6, k6⟩ := u_known (C := RX6) (T := TX6) (N := 10) (n := 10) hts inX6 (hts _ (by decide +kernel))
  obtain ⟨a0, g0, p0, f0, x0, y0⟩ := Cond.arrayClass_spec (type := .int) (hts _ (by decide +kernel))
  obtain ⟨a1, g1, p1, f1, x1, y1⟩ := Cond.arrayClass_spec (type := .char) (hts _ (by decide +kernel))
  obtain ⟨p2, a2, g2, e2, -, x2, y2, f2⟩ := Cond.arrayOver_spec (n := "RoleDoublingPlanner$Play") (hts _ (by decide +kernel))
  obtain ⟨p3, a3, g3, e3, -, x3, y3, f3⟩ := Jvm.Stand.arrayOver_specB (t := .int) (hts _ (by decide +kernel))
  refine ⟨(fun i => match i with | 0 => c0 | 1 => c1 | 2 => c2 | 3 => c3 | 4 => c4 | 5 => c5 | _ => c6, fun i => match i with | 0 => i0 | 1 => i1 | 2 => i2 | 3 => i3 | 4 => i4 | 5 => i5 | _ => i6), fun i => match i with | 0 => a0 | 1 => a1 | 2 => a2 | _ => a3, fun c q hq => ?_, fun k q hk => ?_⟩
  · have hl : c < 7 := (List.getElem?_eq_some_iff.mp hq).1
    rcases (show c = 0 ∨ c = 1 ∨ c = 2 ∨ c = 3 ∨ c = 4 ∨ c = 5 ∨ c = 6 by omega) with rfl | rfl | rfl | rfl | rfl | rfl | rfl
    · cases hq; exact k0
    · cases hq; exact k1
    · cases hq; exact k2
    · cases hq; exact k3
    · cases hq; exact k4
    · cases hq; exact k5
    · cases hq; exact k6
  · have hl : k < 4 := (List.getElem?_eq_some_iff.mp hk).1
    rcases (show k = 0 ∨ k = 1 ∨ k = 2 ∨ k = 3 by omega) with rfl | rfl | rfl | rfl
    · cases hk; exact ⟨arrOf x0 y0, f0⟩
    · cases hk; exact ⟨arrOf x1 y1, f1⟩
    · cases hk; exact ⟨arrOf x2 y2, g2, p2, x2, y2, e2, f2⟩
    · cases hk; exact ⟨arrOf x3 y3, f3⟩
theorem ent_NW {s : State} {b : Nat} (hts : ∀ w ∈ lw_tbl, w.before #[Value.ref b] s = true) : NW s := ⟨va_Nw.of rfl (hts _ (by decide +kernel)), va_Nw.of rfl (hts _ (by decide +kernel)), va_Nw.of rfl (hts _ (by decide +kernel)), va_Nw.of rfl (hts _ (by decide +kernel)), va_Nw.of rfl (hts _ (by decide +kernel)), va_Nw.of rfl (hts _ (by decide +kernel)), va_AO.of (hts _ (by decide +kernel)), Jvm.Stand.arrayOver_alikeB (Vm.Alike.refl s.vm) (hts (Cond.arrayOver (.array .int)) (by decide +kernel))⟩
theorem ent_e : ∀ i, i < 11 → (Cond.exactly (tmJ i) "java/lang/String" ∈ flatC (Jvm.Cond.and given_1 narrow_1) ∧ Cond.eq (.field (tmJ i) "java/lang/String" "coder" "B") (.int 0) ∈ flatC (Jvm.Cond.and given_1 narrow_1) ∧ Cond.arrayOf (.field (tmJ i) "java/lang/String" "value" "[B") .byte ∈ flatC (Jvm.Cond.and given_1 narrow_1) ∧ Cond.eq (.length (.field (tmJ i) "java/lang/String" "value" "[B")) (.int (Int32.ofNat (lenJ.getD i 0))) ∈ flatC (Jvm.Cond.and given_1 narrow_1)) := by decide +kernel
theorem ent_n : ∀ i, i < 11 → ∀ j, j < 11 → i ≠ j → (Cond.not (Cond.eq (tmJ i) (tmJ j)) ∈ flatC (Jvm.Cond.and given_1 narrow_1) ∨ Cond.not (Cond.eq (tmJ j) (tmJ i)) ∈ flatC (Jvm.Cond.and given_1 narrow_1)) := by decide +kernel
theorem ent_b_0_0 : ∀ j, j < 12 → Cond.eq (.elem (.field (tmJ 0) "java/lang/String" "value" "[B") (.int (Int32.ofNat (0 + j)))) (.int ((bytJ.getD 0 []).getD (0 + j) 0)) ∈ flatC (Jvm.Cond.and given_1 narrow_1) := by decide +kernel
theorem ent_b_0_1 : ∀ j, j < 12 → Cond.eq (.elem (.field (tmJ 0) "java/lang/String" "value" "[B") (.int (Int32.ofNat (12 + j)))) (.int ((bytJ.getD 0 []).getD (12 + j) 0)) ∈ flatC (Jvm.Cond.and given_1 narrow_1) := by decide +kernel
theorem ent_b_0_2 : ∀ j, j < 3 → Cond.eq (.elem (.field (tmJ 0) "java/lang/String" "value" "[B") (.int (Int32.ofNat (24 + j)))) (.int ((bytJ.getD 0 []).getD (24 + j) 0)) ∈ flatC (Jvm.Cond.and given_1 narrow_1) := by decide +kernel
theorem ent_b_0 : ∀ j, j < 27 → Cond.eq (.elem (.field (tmJ 0) "java/lang/String" "value" "[B") (.int (Int32.ofNat j))) (.int ((bytJ.getD 0 []).getD j 0)) ∈ flatC (Jvm.Cond.and given_1 narrow_1) := by
  intro j hj
  by_cases c0 : j < 12
  · have h := ent_b_0_0 (j - 0) (by omega); rw [show 0 + (j - 0) = j by omega] at h; exact h
  by_cases c1 : j < 24
  · have h := ent_b_0_1 (j - 12) (by omega); rw [show 12 + (j - 12) = j by omega] at h; exact h
  have h := ent_b_0_2 (j - 24) (by omega); rw [show 24 + (j - 24) = j by omega] at h; exact h
theorem ent_b_1_0 : ∀ j, j < 12 → Cond.eq (.elem (.field (tmJ 1) "java/lang/String" "value" "[B") (.int (Int32.ofNat (0 + j)))) (.int ((bytJ.getD 1 []).getD (0 + j) 0)) ∈ flatC (Jvm.Cond.and given_1 narrow_1) := by decide +kernel
theorem ent_b_1_1 : ∀ j, j < 12 → Cond.eq (.elem (.field (tmJ 1) "java/lang/String" "value" "[B") (.int (Int32.ofNat (12 + j)))) (.int ((bytJ.getD 1 []).getD (12 + j) 0)) ∈ flatC (Jvm.Cond.and given_1 narrow_1) := by decide +kernel
theorem ent_b_1_2 : ∀ j, j < 12 → Cond.eq (.elem (.field (tmJ 1) "java/lang/String" "value" "[B") (.int (Int32.ofNat (24 + j)))) (.int ((bytJ.getD 1 []).getD (24 + j) 0)) ∈ flatC (Jvm.Cond.and given_1 narrow_1) := by decide +kernel
theorem ent_b_1_3 : ∀ j, j < 12 → Cond.eq (.elem (.field (tmJ 1) "java/lang/String" "value" "[B") (.int (Int32.ofNat (36 + j)))) (.int ((bytJ.getD 1 []).getD (36 + j) 0)) ∈ flatC (Jvm.Cond.and given_1 narrow_1) := by decide +kernel
theorem ent_b_1_4 : ∀ j, j < 12 → Cond.eq (.elem (.field (tmJ 1) "java/lang/String" "value" "[B") (.int (Int32.ofNat (48 + j)))) (.int ((bytJ.getD 1 []).getD (48 + j) 0)) ∈ flatC (Jvm.Cond.and given_1 narrow_1) := by decide +kernel
theorem ent_b_1_5 : ∀ j, j < 7 → Cond.eq (.elem (.field (tmJ 1) "java/lang/String" "value" "[B") (.int (Int32.ofNat (60 + j)))) (.int ((bytJ.getD 1 []).getD (60 + j) 0)) ∈ flatC (Jvm.Cond.and given_1 narrow_1) := by decide +kernel
theorem ent_b_1 : ∀ j, j < 67 → Cond.eq (.elem (.field (tmJ 1) "java/lang/String" "value" "[B") (.int (Int32.ofNat j))) (.int ((bytJ.getD 1 []).getD j 0)) ∈ flatC (Jvm.Cond.and given_1 narrow_1) := by
  intro j hj
  by_cases c0 : j < 12
  · have h := ent_b_1_0 (j - 0) (by omega); rw [show 0 + (j - 0) = j by omega] at h; exact h
  by_cases c1 : j < 24
  · have h := ent_b_1_1 (j - 12) (by omega); rw [show 12 + (j - 12) = j by omega] at h; exact h
  by_cases c2 : j < 36
  · have h := ent_b_1_2 (j - 24) (by omega); rw [show 24 + (j - 24) = j by omega] at h; exact h
  by_cases c3 : j < 48
  · have h := ent_b_1_3 (j - 36) (by omega); rw [show 36 + (j - 36) = j by omega] at h; exact h
  by_cases c4 : j < 60
  · have h := ent_b_1_4 (j - 48) (by omega); rw [show 48 + (j - 48) = j by omega] at h; exact h
  have h := ent_b_1_5 (j - 60) (by omega); rw [show 60 + (j - 60) = j by omega] at h; exact h
theorem ent_b_2_0 : ∀ j, j < 12 → Cond.eq (.elem (.field (tmJ 2) "java/lang/String" "value" "[B") (.int (Int32.ofNat (0 + j)))) (.int ((bytJ.getD 2 []).getD (0 + j) 0)) ∈ flatC (Jvm.Cond.and given_1 narrow_1) := by decide +kernel
theorem ent_b_2_1 : ∀ j, j < 12 → Cond.eq (.elem (.field (tmJ 2) "java/lang/String" "value" "[B") (.int (Int32.ofNat (12 + j)))) (.int ((bytJ.getD 2 []).getD (12 + j) 0)) ∈ flatC (Jvm.Cond.and given_1 narrow_1) := by decide +kernel
theorem ent_b_2_2 : ∀ j, j < 12 → Cond.eq (.elem (.field (tmJ 2) "java/lang/String" "value" "[B") (.int (Int32.ofNat (24 + j)))) (.int ((bytJ.getD 2 []).getD (24 + j) 0)) ∈ flatC (Jvm.Cond.and given_1 narrow_1) := by decide +kernel
theorem ent_b_2_3 : ∀ j, j < 10 → Cond.eq (.elem (.field (tmJ 2) "java/lang/String" "value" "[B") (.int (Int32.ofNat (36 + j)))) (.int ((bytJ.getD 2 []).getD (36 + j) 0)) ∈ flatC (Jvm.Cond.and given_1 narrow_1) := by decide +kernel
theorem ent_b_2 : ∀ j, j < 46 → Cond.eq (.elem (.field (tmJ 2) "java/lang/String" "value" "[B") (.int (Int32.ofNat j))) (.int ((bytJ.getD 2 []).getD j 0)) ∈ flatC (Jvm.Cond.and given_1 narrow_1) := by
  intro j hj
  by_cases c0 : j < 12
  · have h := ent_b_2_0 (j - 0) (by omega); rw [show 0 + (j - 0) = j by omega] at h; exact h
  by_cases c1 : j < 24
  · have h := ent_b_2_1 (j - 12) (by omega); rw [show 12 + (j - 12) = j by omega] at h; exact h
  by_cases c2 : j < 36
  · have h := ent_b_2_2 (j - 24) (by omega); rw [show 24 + (j - 24) = j by omega] at h; exact h
  have h := ent_b_2_3 (j - 36) (by omega); rw [show 36 + (j - 36) = j by omega] at h; exact h
theorem ent_b_3_0 : ∀ j, j < 12 → Cond.eq (.elem (.field (tmJ 3) "java/lang/String" "value" "[B") (.int (Int32.ofNat (0 + j)))) (.int ((bytJ.getD 3 []).getD (0 + j) 0)) ∈ flatC (Jvm.Cond.and given_1 narrow_1) := by decide +kernel
theorem ent_b_3_1 : ∀ j, j < 12 → Cond.eq (.elem (.field (tmJ 3) "java/lang/String" "value" "[B") (.int (Int32.ofNat (12 + j)))) (.int ((bytJ.getD 3 []).getD (12 + j) 0)) ∈ flatC (Jvm.Cond.and given_1 narrow_1) := by decide +kernel
theorem ent_b_3_2 : ∀ j, j < 12 → Cond.eq (.elem (.field (tmJ 3) "java/lang/String" "value" "[B") (.int (Int32.ofNat (24 + j)))) (.int ((bytJ.getD 3 []).getD (24 + j) 0)) ∈ flatC (Jvm.Cond.and given_1 narrow_1) := by decide +kernel
theorem ent_b_3_3 : ∀ j, j < 9 → Cond.eq (.elem (.field (tmJ 3) "java/lang/String" "value" "[B") (.int (Int32.ofNat (36 + j)))) (.int ((bytJ.getD 3 []).getD (36 + j) 0)) ∈ flatC (Jvm.Cond.and given_1 narrow_1) := by decide +kernel
theorem ent_b_3 : ∀ j, j < 45 → Cond.eq (.elem (.field (tmJ 3) "java/lang/String" "value" "[B") (.int (Int32.ofNat j))) (.int ((bytJ.getD 3 []).getD j 0)) ∈ flatC (Jvm.Cond.and given_1 narrow_1) := by
  intro j hj
  by_cases c0 : j < 12
  · have h := ent_b_3_0 (j - 0) (by omega); rw [show 0 + (j - 0) = j by omega] at h; exact h
  by_cases c1 : j < 24
  · have h := ent_b_3_1 (j - 12) (by omega); rw [show 12 + (j - 12) = j by omega] at h; exact h
  by_cases c2 : j < 36
  · have h := ent_b_3_2 (j - 24) (by omega); rw [show 24 + (j - 24) = j by omega] at h; exact h
  have h := ent_b_3_3 (j - 36) (by omega); rw [show 36 + (j - 36) = j by omega] at h; exact h
theorem ent_b_4_0 : ∀ j, j < 12 → Cond.eq (.elem (.field (tmJ 4) "java/lang/String" "value" "[B") (.int (Int32.ofNat (0 + j)))) (.int ((bytJ.getD 4 []).getD (0 + j) 0)) ∈ flatC (Jvm.Cond.and given_1 narrow_1) := by decide +kernel
theorem ent_b_4_1 : ∀ j, j < 12 → Cond.eq (.elem (.field (tmJ 4) "java/lang/String" "value" "[B") (.int (Int32.ofNat (12 + j)))) (.int ((bytJ.getD 4 []).getD (12 + j) 0)) ∈ flatC (Jvm.Cond.and given_1 narrow_1) := by decide +kernel
theorem ent_b_4_2 : ∀ j, j < 12 → Cond.eq (.elem (.field (tmJ 4) "java/lang/String" "value" "[B") (.int (Int32.ofNat (24 + j)))) (.int ((bytJ.getD 4 []).getD (24 + j) 0)) ∈ flatC (Jvm.Cond.and given_1 narrow_1) := by decide +kernel
theorem ent_b_4_3 : ∀ j, j < 11 → Cond.eq (.elem (.field (tmJ 4) "java/lang/String" "value" "[B") (.int (Int32.ofNat (36 + j)))) (.int ((bytJ.getD 4 []).getD (36 + j) 0)) ∈ flatC (Jvm.Cond.and given_1 narrow_1) := by decide +kernel
theorem ent_b_4 : ∀ j, j < 47 → Cond.eq (.elem (.field (tmJ 4) "java/lang/String" "value" "[B") (.int (Int32.ofNat j))) (.int ((bytJ.getD 4 []).getD j 0)) ∈ flatC (Jvm.Cond.and given_1 narrow_1) := by
  intro j hj
  by_cases c0 : j < 12
  · have h := ent_b_4_0 (j - 0) (by omega); rw [show 0 + (j - 0) = j by omega] at h; exact h
  by_cases c1 : j < 24
  · have h := ent_b_4_1 (j - 12) (by omega); rw [show 12 + (j - 12) = j by omega] at h; exact h
  by_cases c2 : j < 36
  · have h := ent_b_4_2 (j - 24) (by omega); rw [show 24 + (j - 24) = j by omega] at h; exact h
  have h := ent_b_4_3 (j - 36) (by omega); rw [show 36 + (j - 36) = j by omega] at h; exact h
theorem ent_b_5_0 : ∀ j, j < 5 → Cond.eq (.elem (.field (tmJ 5) "java/lang/String" "value" "[B") (.int (Int32.ofNat (0 + j)))) (.int ((bytJ.getD 5 []).getD (0 + j) 0)) ∈ flatC (Jvm.Cond.and given_1 narrow_1) := by decide +kernel
theorem ent_b_5 : ∀ j, j < 5 → Cond.eq (.elem (.field (tmJ 5) "java/lang/String" "value" "[B") (.int (Int32.ofNat j))) (.int ((bytJ.getD 5 []).getD j 0)) ∈ flatC (Jvm.Cond.and given_1 narrow_1) := by
  intro j hj
  have h := ent_b_5_0 (j - 0) (by omega); rw [show 0 + (j - 0) = j by omega] at h; exact h
theorem ent_b_6_0 : ∀ j, j < 4 → Cond.eq (.elem (.field (tmJ 6) "java/lang/String" "value" "[B") (.int (Int32.ofNat (0 + j)))) (.int ((bytJ.getD 6 []).getD (0 + j) 0)) ∈ flatC (Jvm.Cond.and given_1 narrow_1) := by decide +kernel
theorem ent_b_6 : ∀ j, j < 4 → Cond.eq (.elem (.field (tmJ 6) "java/lang/String" "value" "[B") (.int (Int32.ofNat j))) (.int ((bytJ.getD 6 []).getD j 0)) ∈ flatC (Jvm.Cond.and given_1 narrow_1) := by
  intro j hj
  have h := ent_b_6_0 (j - 0) (by omega); rw [show 0 + (j - 0) = j by omega] at h; exact h
theorem ent_b_7_0 : ∀ j, j < 5 → Cond.eq (.elem (.field (tmJ 7) "java/lang/String" "value" "[B") (.int (Int32.ofNat (0 + j)))) (.int ((bytJ.getD 7 []).getD (0 + j) 0)) ∈ flatC (Jvm.Cond.and given_1 narrow_1) := by decide +kernel
theorem ent_b_7 : ∀ j, j < 5 → Cond.eq (.elem (.field (tmJ 7) "java/lang/String" "value" "[B") (.int (Int32.ofNat j))) (.int ((bytJ.getD 7 []).getD j 0)) ∈ flatC (Jvm.Cond.and given_1 narrow_1) := by
  intro j hj
  have h := ent_b_7_0 (j - 0) (by omega); rw [show 0 + (j - 0) = j by omega] at h; exact h
theorem ent_b_8_0 : ∀ j, j < 3 → Cond.eq (.elem (.field (tmJ 8) "java/lang/String" "value" "[B") (.int (Int32.ofNat (0 + j)))) (.int ((bytJ.getD 8 []).getD (0 + j) 0)) ∈ flatC (Jvm.Cond.and given_1 narrow_1) := by decide +kernel
theorem ent_b_8 : ∀ j, j < 3 → Cond.eq (.elem (.field (tmJ 8) "java/lang/String" "value" "[B") (.int (Int32.ofNat j))) (.int ((bytJ.getD 8 []).getD j 0)) ∈ flatC (Jvm.Cond.and given_1 narrow_1) := by
  intro j hj
  have h := ent_b_8_0 (j - 0) (by omega); rw [show 0 + (j - 0) = j by omega] at h; exact h
theorem ent_b_9_0 : ∀ j, j < 4 → Cond.eq (.elem (.field (tmJ 9) "java/lang/String" "value" "[B") (.int (Int32.ofNat (0 + j)))) (.int ((bytJ.getD 9 []).getD (0 + j) 0)) ∈ flatC (Jvm.Cond.and given_1 narrow_1) := by decide +kernel
theorem ent_b_9 : ∀ j, j < 4 → Cond.eq (.elem (.field (tmJ 9) "java/lang/String" "value" "[B") (.int (Int32.ofNat j))) (.int ((bytJ.getD 9 []).getD j 0)) ∈ flatC (Jvm.Cond.and given_1 narrow_1) := by
  intro j hj
  have h := ent_b_9_0 (j - 0) (by omega); rw [show 0 + (j - 0) = j by omega] at h; exact h
theorem ent_b_10_0 : ∀ j, j < 5 → Cond.eq (.elem (.field (tmJ 10) "java/lang/String" "value" "[B") (.int (Int32.ofNat (0 + j)))) (.int ((bytJ.getD 10 []).getD (0 + j) 0)) ∈ flatC (Jvm.Cond.and given_1 narrow_1) := by decide +kernel
theorem ent_b_10 : ∀ j, j < 5 → Cond.eq (.elem (.field (tmJ 10) "java/lang/String" "value" "[B") (.int (Int32.ofNat j))) (.int ((bytJ.getD 10 []).getD j 0)) ∈ flatC (Jvm.Cond.and given_1 narrow_1) := by
  intro j hj
  have h := ent_b_10_0 (j - 0) (by omega); rw [show 0 + (j - 0) = j by omega] at h; exact h
theorem ent_b : ∀ i, i < 11 → ∀ j, j < lenJ.getD i 0 → Cond.eq (.elem (.field (tmJ i) "java/lang/String" "value" "[B") (.int (Int32.ofNat j))) (.int ((bytJ.getD i []).getD j 0)) ∈ flatC (Jvm.Cond.and given_1 narrow_1) := by
  intro i hi
  rcases (show i = 0 ∨ i = 1 ∨ i = 2 ∨ i = 3 ∨ i = 4 ∨ i = 5 ∨ i = 6 ∨ i = 7 ∨ i = 8 ∨ i = 9 ∨ i = 10 by omega) with rfl | rfl | rfl | rfl | rfl | rfl | rfl | rfl | rfl | rfl | rfl
  · exact ent_b_0
  · exact ent_b_1
  · exact ent_b_2
  · exact ent_b_3
  · exact ent_b_4
  · exact ent_b_5
  · exact ent_b_6
  · exact ent_b_7
  · exact ent_b_8
  · exact ent_b_9
  · exact ent_b_10
theorem ent_l : ∀ i, i < 11 → lenJ.getD i 0 < 2 ^ 31 := by decide +kernel
theorem ent_AM {s : State} {b : Nat} (hts : ∀ w ∈ lw_tbl, w.before #[Value.ref b] s = true) (hgv : (Jvm.Cond.and given_1 narrow_1).before #[Value.ref b] s = true) : ∃ X : XT, AM X (fun q => s.heap.size ≤ q) s := by
  have hs := flat_of_before _ hgv
  have hA : ∀ a : Nat, a < s.heap.size → ¬ (fun q => s.heap.size ≤ q) a := fun a h z => by
    have z : s.heap.size ≤ a := z
    omega
  obtain ⟨D, T, hK⟩ := ent_K hts
  obtain ⟨adK, adV, hS, hE⟩ := vk_Sof (args := #[Value.ref b]) (s := s) (N := 11) (tm := tmJ) (len := lenJ) (byt := bytJ) (A := fun q => s.heap.size ≤ q) ent_l (fun i hi => hs _ (ent_e i hi).1) (fun i hi => hs _ (ent_e i hi).2.1) (fun i hi => hs _ (ent_e i hi).2.2.1) (fun i hi => hs _ (ent_e i hi).2.2.2) (fun i hi j hj => hs _ (ent_b i hi j hj)) (fun i j hi hj hij => (ent_n i hi j hj hij).elim (fun z => Or.inl (hs _ z)) (fun z => Or.inr (hs _ z))) hA
  refine ⟨(D, T, adK, adV), hK, ent_NW hts, hS, ?_, va_Zof (hts (.laysStatic "java/lang/String" "COMPACT_STRINGS" "Z") (by decide +kernel)) (hts (.initialized "java/lang/String") (by decide +kernel)) (va_eqt (hs (.eq (.static "java/lang/String" "COMPACT_STRINGS" "Z") (.int 1)) (by decide +kernel))) hA, va_Zqof (hts (.laysStatic "jdk/internal/util/Preconditions" "SIOOBE_FORMATTER" "Ljava/util/function/BiFunction;") (by decide +kernel)) (hts (.initialized "jdk/internal/util/Preconditions") (by decide +kernel)) (hs (.isRef (.static "jdk/internal/util/Preconditions" "SIOOBE_FORMATTER" "Ljava/util/function/BiFunction;")) (by decide +kernel)) hA⟩
  exact ⟨vk_R.of (hts _ (by decide +kernel)) (hE 0 (by decide)), vk_R.of (hts _ (by decide +kernel)) (hE 1 (by decide)), vk_R.of (hts _ (by decide +kernel)) (hE 2 (by decide)), vk_R.of (hts _ (by decide +kernel)) (hE 3 (by decide)), vk_R.of (hts _ (by decide +kernel)) (hE 4 (by decide)), vk_R.of (hts _ (by decide +kernel)) (hE 5 (by decide)), vk_R.of (hts _ (by decide +kernel)) (hE 6 (by decide)), vk_R.of (hts _ (by decide +kernel)) (hE 7 (by decide)), vk_R.of (hts _ (by decide +kernel)) (hE 8 (by decide)), vk_R.of (hts _ (by decide +kernel)) (hE 9 (by decide)), vk_R.of (hts _ (by decide +kernel)) (hE 10 (by decide))⟩
