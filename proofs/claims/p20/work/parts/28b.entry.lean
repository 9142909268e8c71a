theorem z_arr {args : Array Value} {s : State} {ty : FieldType} (h : (Cond.arrayClass ty).before args s = true) : ∃ cA : ClassId, ArrOfT s cA ty ∧ s.vm.findClass ("[" ++ ty.toString) = some cA := by
  obtain ⟨cA, kA, comp, h1, h2, h3⟩ := Cond.arrayClass_spec (args := args) (first := s) (o := none) (s := s) (idx := []) h
  exact ⟨cA, fun n z => ⟨fun k h => (by cases h), kA, h2, comp, h3⟩, h1⟩
theorem zNw_in : ∀ w ∈ zNw, w ∈ lw_tbl := by decide +kernel
theorem zNw_on : ∀ w ∈ zNw, w.onTables = true := by decide +kernel
abbrev zFl : List Cond := flatC (Jvm.Cond.and given_1 narrow_1)
theorem zel0 : ∀ j : Nat, j < 8 → Cond.eq (.elem (.static "BranchPlay" "USUAL" "[I") (.int (Int32.ofNat j))) (.int (([20, 4, 2, 3, 0, 1, -1, 1] : List Int32).getD j 0)) ∈ zFl := by decide +kernel
theorem zel1 : ∀ j : Nat, j < 7 → Cond.eq (.elem (.static "BranchPlay" "LEAST" "[I") (.int (Int32.ofNat j))) (.int (([2, 1, 0, 1, 0, 0, 1] : List Int32).getD j 0)) ∈ zFl := by decide +kernel
theorem zel2 : ∀ j : Nat, j < 7 → Cond.eq (.elem (.static "BranchPlay" "MOST" "[I") (.int (Int32.ofNat j))) (.int (([100, 50, 50, 9, 50, 9, 50] : List Int32).getD j 0)) ∈ zFl := by decide +kernel
theorem zels : ∀ j : Nat, j < 61 → Cond.eq (.elem (.field (.string "BranchPlay$Tape" 26) "java/lang/String" "value" "[B") (.int (Int32.ofNat j))) (.int (zWb.getD j 0)) ∈ zFl := by decide +kernel
set_option maxHeartbeats 4000000 in
set_option maxRecDepth 100000 in
theorem z_entry {b : Nat} {s : State} (hts : ∀ w ∈ lw_tbl, w.before #[Value.ref b] s = true) (hgv : (Jvm.Cond.and given_1 narrow_1).before #[Value.ref b] s = true) : ∃ (D : va_G) (ca : Nat → ClassId) (sa : Nat → Nat), zE D ca sa (fun q : Nat => s.heap.size ≤ q) s s.heap := by
  have hs : ∀ c ∈ zFl, c.before #[Value.ref b] s = true := flat_of_before _ hgv
  have hA : ∀ a : Nat, a < s.heap.size → ¬ (fun q : Nat => s.heap.size ≤ q) a := fun a h => Nat.not_le.mpr h
  obtain ⟨c0, i0, k0⟩ := u_known (C := RX0) (T := TX0) (N := 1) (n := 1) hts inX0 (hts (.instantiable RX0 1) (by decide +kernel))
  obtain ⟨c1, i1, k1⟩ := u_known (C := RX1) (T := TX1) (N := 12) (n := 12) hts inX1 (hts (.instantiable RX1 12) (by decide +kernel))
  obtain ⟨c2, i2, k2⟩ := u_known (C := RX2) (T := TX2) (N := 2) (n := 2) hts inX2 (hts (.instantiable RX2 2) (by decide +kernel))
  obtain ⟨c3, i3, k3⟩ := u_known (C := RX3) (T := TX3) (N := 5) (n := 5) hts inX3 (hts (.instantiable RX3 5) (by decide +kernel))
  obtain ⟨c4, i4, k4⟩ := u_known (C := RX4) (T := TX4) (N := 20) (n := 20) hts inX4 (hts (.instantiable RX4 20) (by decide +kernel))
  obtain ⟨c5, i5, k5⟩ := u_known (C := RX5) (T := TX5) (N := 4) (n := 4) hts inX5 (hts (.instantiable RX5 4) (by decide +kernel))
  obtain ⟨c6, i6, k6⟩ := u_known (C := RX6) (T := TX6) (N := 7) (n := 7) hts inX6 (hts (.instantiable RX6 7) (by decide +kernel))
  obtain ⟨c7, i7, k7⟩ := u_known (C := RX7) (T := TX7) (N := 2) (n := 2) hts inX7 (hts (.instantiable RX7 2) (by decide +kernel))
  obtain ⟨c8, i8, k8⟩ := u_known (C := RX8) (T := TX8) (N := 9) (n := 9) hts inX8 (hts (.instantiable RX8 9) (by decide +kernel))
  obtain ⟨c9, i9, k9⟩ := u_known (C := RX9) (T := TX9) (N := 44) (n := 44) hts inX9 (hts (.instantiable RX9 44) (by decide +kernel))
  obtain ⟨a0, e0, f0⟩ := z_arr (hts (.arrayClass .int) (by decide +kernel))
  obtain ⟨a1, e1, f1⟩ := z_arr (hts (.arrayClass .long) (by decide +kernel))
  obtain ⟨a2, e2, f2⟩ := z_arr (hts (.arrayClass .byte) (by decide +kernel))
  obtain ⟨a3, e3, f3⟩ := z_arr (hts (.arrayClass .boolean) (by decide +kernel))
  obtain ⟨t0, u0, v0⟩ := va_Tof (A := fun q : Nat => s.heap.size ≤ q) (tm := .static "BranchPlay" "USUAL" "[I") (ty := .int) (N := 8) (f := fun j => .int (([20, 4, 2, 3, 0, 1, -1, 1] : List Int32).getD j 0)) (by decide) (hs (.arrayOf (.static "BranchPlay" "USUAL" "[I") .int) (by decide +kernel)) (va_eqt (hs (.eq (.length (.static "BranchPlay" "USUAL" "[I")) (.int (Int32.ofNat 8))) (by decide +kernel))) (fun j hj => va_eqt (hs _ (zel0 j hj))) hA
  have z0 : va_Z RX8 "USUAL" "[I" (.ref t0) (fun q : Nat => s.heap.size ≤ q) s s.heap := va_Zof (hts (.laysStatic RX8 "USUAL" "[I") (by decide +kernel)) (hts (.initialized RX8) (by decide +kernel)) u0 hA
  obtain ⟨t1, u1, v1⟩ := va_Tof (A := fun q : Nat => s.heap.size ≤ q) (tm := .static "BranchPlay" "LEAST" "[I") (ty := .int) (N := 7) (f := fun j => .int (([2, 1, 0, 1, 0, 0, 1] : List Int32).getD j 0)) (by decide) (hs (.arrayOf (.static "BranchPlay" "LEAST" "[I") .int) (by decide +kernel)) (va_eqt (hs (.eq (.length (.static "BranchPlay" "LEAST" "[I")) (.int (Int32.ofNat 7))) (by decide +kernel))) (fun j hj => va_eqt (hs _ (zel1 j hj))) hA
  have z1 : va_Z RX8 "LEAST" "[I" (.ref t1) (fun q : Nat => s.heap.size ≤ q) s s.heap := va_Zof (hts (.laysStatic RX8 "LEAST" "[I") (by decide +kernel)) (hts (.initialized RX8) (by decide +kernel)) u1 hA
  obtain ⟨t2, u2, v2⟩ := va_Tof (A := fun q : Nat => s.heap.size ≤ q) (tm := .static "BranchPlay" "MOST" "[I") (ty := .int) (N := 7) (f := fun j => .int (([100, 50, 50, 9, 50, 9, 50] : List Int32).getD j 0)) (by decide) (hs (.arrayOf (.static "BranchPlay" "MOST" "[I") .int) (by decide +kernel)) (va_eqt (hs (.eq (.length (.static "BranchPlay" "MOST" "[I")) (.int (Int32.ofNat 7))) (by decide +kernel))) (fun j hj => va_eqt (hs _ (zel2 j hj))) hA
  have z2 : va_Z RX8 "MOST" "[I" (.ref t2) (fun q : Nat => s.heap.size ≤ q) s s.heap := va_Zof (hts (.laysStatic RX8 "MOST" "[I") (by decide +kernel)) (hts (.initialized RX8) (by decide +kernel)) u2 hA
  have z3 : va_Z "java/lang/String" "COMPACT_STRINGS" "Z" (.int 1) (fun q : Nat => s.heap.size ≤ q) s s.heap := va_Zof (hts (.laysStatic "java/lang/String" "COMPACT_STRINGS" "Z") (by decide +kernel)) (hts (.initialized "java/lang/String") (by decide +kernel)) (va_eqi (hs (.eq (.static "java/lang/String" "COMPACT_STRINGS" "Z") (.int 1)) (by decide +kernel))) hA
  have z4 : va_Zq "jdk/internal/util/Preconditions" "SIOOBE_FORMATTER" "Ljava/util/function/BiFunction;" (fun q : Nat => s.heap.size ≤ q) s s.heap := va_Zqof (hts (.laysStatic "jdk/internal/util/Preconditions" "SIOOBE_FORMATTER" "Ljava/util/function/BiFunction;") (by decide +kernel)) (hts (.initialized "jdk/internal/util/Preconditions") (by decide +kernel)) (hs (.isRef (.static "jdk/internal/util/Preconditions" "SIOOBE_FORMATTER" "Ljava/util/function/BiFunction;")) (by decide +kernel)) hA
  obtain ⟨aK, aV, w1, w2⟩ := vk_Sof (args := #[Value.ref b]) (s := s) (N := 1) (tm := fun _ => .string "BranchPlay$Tape" 26) (len := [61]) (byt := [zWb]) (A := fun q : Nat => s.heap.size ≤ q) (fun i hi => by (obtain rfl : i = 0 := by omega); decide) (fun i hi => hs (.exactly (.string "BranchPlay$Tape" 26) "java/lang/String") (by decide +kernel)) (fun i hi => hs (.eq (.field (.string "BranchPlay$Tape" 26) "java/lang/String" "coder" "B") (.int 0)) (by decide +kernel))
    (fun i hi => hs (.arrayOf (.field (.string "BranchPlay$Tape" 26) "java/lang/String" "value" "[B") .byte) (by decide +kernel))
    (fun i hi => by
      obtain rfl : i = 0 := by omega
      exact hs (.eq (.length (.field (.string "BranchPlay$Tape" 26) "java/lang/String" "value" "[B")) (.int (Int32.ofNat 61))) (by decide +kernel))
    (fun i hi j hj => by
      obtain rfl : i = 0 := by omega
      exact hs _ (zels j hj))
    (fun i j hi hj h => absurd (show i = j by omega) h) hA
  have w3 : (Term.string "BranchPlay$Tape" 26).eval #[Value.ref b] s none [] s = some (.ref (aK 0)) := w2 0 (by decide)
  have w4 : (Term.string "BranchPlayModel" 129).eval #[Value.ref b] s none [] s = some (.ref (aK 0)) := va_eqR (hs (.eq (.string "BranchPlay$Tape" 26) (.string "BranchPlayModel" 129)) (by decide +kernel)) w3
  have r0 : vk_R RX7 26 zWt (aK 0) s := vk_R.of (hts (.stringRef RX7 26 zWt) (by decide +kernel)) w3
  have r1 : vk_R RX9 129 zWt (aK 0) s := vk_R.of (hts (.stringRef RX9 129 zWt) (by decide +kernel)) w4
  have w5 : vk_S 1 [61] [zWb] (fun _ => aK 0) (fun _ => aV 0) (fun q : Nat => s.heap.size ≤ q) s s.heap := ⟨fun i hi => by
    obtain rfl : i = 0 := by omega
    exact w1.1 0 hi, fun i j hi hj _ => by omega⟩
  refine ⟨(zl c0 [c0, c1, c2, c3, c4, c5, c6, c7, c8, c9], zl i0 [i0, i1, i2, i3, i4, i5, i6, i7, i8, i9]), zl a0 [a0, a1, a2, a3], zl 0 [t0, t1, t2, aK 0, aV 0], ⟨fun c q hq => ?_, fun k q hk => ?_⟩, fun w hw => va_Nw.of (zNw_on w hw) (hts w (zNw_in w hw)), ⟨⟨z0, v0⟩, ⟨z1, v1⟩, ⟨z2, v2⟩, z3, ⟨⟨r0, r1⟩, w5⟩, z4⟩, fun q h => h⟩
  · have hc : c < 10 := (List.getElem?_eq_some_iff.mp hq).1
    rcases (show c = 0 ∨ c = 1 ∨ c = 2 ∨ c = 3 ∨ c = 4 ∨ c = 5 ∨ c = 6 ∨ c = 7 ∨ c = 8 ∨ c = 9 by omega) with rfl | rfl | rfl | rfl | rfl | rfl | rfl | rfl | rfl | rfl
    · have e9 : (RX0, TX0, 1) = q := Option.some.inj hq
      subst e9
      exact k0
    · have e9 : (RX1, TX1, 12) = q := Option.some.inj hq
      subst e9
      exact k1
    · have e9 : (RX2, TX2, 2) = q := Option.some.inj hq
      subst e9
      exact k2
    · have e9 : (RX3, TX3, 5) = q := Option.some.inj hq
      subst e9
      exact k3
    · have e9 : (RX4, TX4, 20) = q := Option.some.inj hq
      subst e9
      exact k4
    · have e9 : (RX5, TX5, 4) = q := Option.some.inj hq
      subst e9
      exact k5
    · have e9 : (RX6, TX6, 7) = q := Option.some.inj hq
      subst e9
      exact k6
    · have e9 : (RX7, TX7, 2) = q := Option.some.inj hq
      subst e9
      exact k7
    · have e9 : (RX8, TX8, 9) = q := Option.some.inj hq
      subst e9
      exact k8
    · have e9 : (RX9, TX9, 44) = q := Option.some.inj hq
      subst e9
      exact k9
  · have hc : k < 4 := (List.getElem?_eq_some_iff.mp hk).1
    rcases (show k = 0 ∨ k = 1 ∨ k = 2 ∨ k = 3 by omega) with rfl | rfl | rfl | rfl
    · have e9 : (a0, FieldType.int) = q := Option.some.inj hk
      subst e9
      exact ⟨e0, f0⟩
    · have e9 : (a1, FieldType.long) = q := Option.some.inj hk
      subst e9
      exact ⟨e1, f1⟩
    · have e9 : (a2, FieldType.byte) = q := Option.some.inj hk
      subst e9
      exact ⟨e2, f2⟩
    · have e9 : (a3, FieldType.boolean) = q := Option.some.inj hk
      subst e9
      exact ⟨e3, f3⟩
