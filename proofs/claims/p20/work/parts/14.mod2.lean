theorem z_bits {x y z : Int32} (e : z = x &&& y) (e2 : y = x - 1) (h : x.toInt ≠ 0) : z.toBitVec.toNat < x.toBitVec.toNat := by
  have hx : x.toBitVec ≠ 0#32 := fun q => h (by
    have : x = 0 := Int32.toBitVec_inj.mp q
    rw [this]; decide)
  have h1 : z.toBitVec.toNat ≤ y.toBitVec.toNat := by
    rw [e, Int32.toBitVec_and, BitVec.toNat_and]; exact Nat.and_le_right
  have h2 : y.toBitVec.toNat < x.toBitVec.toNat := by
    rw [e2, Int32.toBitVec_sub]
    have h3 : (1 : Int32).toBitVec = 1#32 := rfl
    rw [h3]
    have h4 : x.toBitVec.toNat ≠ 0 := fun q => hx (BitVec.eq_of_toNat_eq (by simpa using q))
    have h5 := x.toBitVec.isLt
    rw [BitVec.toNat_sub]
    simp
    omega
  omega

set_option maxHeartbeats 8000000 in
set_option maxRecDepth 100000 in
theorem c_X9_ruleOf (l : Launch) (D : va_G) (ca : Nat → ClassId) (sa : Nat → Nat) (A : Nat → Prop) (rest : va_W) (r0 : Nat → Nat) (fi0 : Nat → Int32) (fl0 : Nat → Int64) (fa0 : Nat → Nat → Int32) (fb0 : Nat → Nat → Int64) (hv0 : Ok_MOD fi0 fa0) (p1 : Int32) (p2 : Int32) (hpre0 : 0 ≤ p1.toInt ∧ p1.toInt ≤ 2) (hpre1 : 0 ≤ p2.toInt ∧ p2.toInt ≤ 7) : Met l yX9_ruleOf wsX9_ruleOf ({ frames := 0, cells := 0, slots := 0, locals := 0 }) (va_Pc [.ref (r0 0), .int p1, .int p2] (zPre D ca sa A (w_MOD ca r0 fi0 fl0 fa0 fb0 (rest)))) (va_Qi (fun (r : Int32) (u : Unit) => ((p2.toInt = 0 → 2 ≤ r.toInt ∧ r.toInt ≤ 100) ∧ (p2.toInt = 6 → r.toInt = -1 ∨ (1 ≤ r.toInt ∧ r.toInt ≤ 50)))) (fun u t => zPost D A (w_MOD ca r0 fi0 fl0 fa0 fb0 (rest)) t) A) 0 0 A := by
  refine Met.ofW (cc := cX9_ruleOf) (maxL := 3) (ret := (some .int)) (by decide) rfl ?_
  intro p e s m args below meth c s₁ B hml hv9
  obtain ⟨rfl, hE, hP, hD⟩ := hv9
  have hx := B.exec
  have hb := B.bytes
  have hr := B.returns
  have hts := atoms_spec (ws := wsX9_ruleOf) B.pre
  have hown : s.vm.findClass RX9 = some m.cls := findClass_of_methodNamed B.named
  have hlocks := B.notSynchronized
  have hK := hE.1
  have hF : CallFix p m c cX9_ruleOf 3 s _ wsX9_ruleOf RX9 := ⟨hx, hb, hml, hown, hts⟩
  have hS : va_S A s.heap s.heap [] := va_S.rf
  have lk17 := hts (.fieldLink RX9 17 "BranchPlayModel" "rules" "[I") (by decide +kernel)
  have inX9 : ∀ w ∈ wsX90, w ∈ wsX9_ruleOf := by decide +kernel
  have lk107 := hts (.fieldLink RX9 107 "BranchPlayModel" "wayOf" "[I") (by decide +kernel)
  obtain ⟨⟨hv0i0, hv0j0⟩, ⟨hv0i1, hv0j1⟩, ⟨hv0i5, hv0j5⟩, ⟨hv0i9, hv0j9⟩, hv0a6, hv0a8, hv0a9, hv0a23, hv0a27, hv0a28, hv0x0, hv0y0⟩ := hv0
  generalize hHe : s.heap = H at hP
  have hS : va_S A s.heap H [] := by rw [← hHe]; exact hS
  have hP : va_P D vwCl (((r0 0), .inr (9, [.ref (r0 1), .int (fi0 0), .int (fi0 1), .int (fi0 2), .int (fi0 3), .int (fi0 4), .int (fi0 5), .int (fi0 6), .int (fi0 7), .int (fi0 8), .ref (r0 2), .int (fi0 9), .ref (r0 3), .ref (r0 4), .ref (r0 5), .ref (r0 6), .ref (r0 7), .ref (r0 8), .ref (r0 9), .ref (r0 10), .ref (r0 11), .ref (r0 12), .ref (r0 13), .ref (r0 14), .ref (r0 15), .ref (r0 16), .ref (r0 17), .ref (r0 18), .ref (r0 19), .ref (r0 20), .ref (r0 21), .ref (r0 22), .ref (r0 23), .ref (r0 24), .ref (r0 25), .ref (r0 26), .ref (r0 27), .ref (r0 28), .ref (r0 29), .ref (r0 30), .ref (r0 31), .ref (r0 32), .int (fi0 10), .ref (r0 33)])) :: ((r0 1), .inl (ca 2, 600, .inl (fa0 0))) :: ((r0 2), .inl (ca 0, 48, .inl (fa0 1))) :: ((r0 3), .inl (ca 0, 60, .inl (fa0 2))) :: ((r0 4), .inl (ca 0, 60, .inl (fa0 3))) :: ((r0 5), .inl (ca 0, 60, .inl (fa0 4))) :: ((r0 6), .inl (ca 0, 60, .inl (fa0 5))) :: ((r0 7), .inl (ca 0, 60, .inl (fa0 6))) :: ((r0 8), .inl (ca 0, 60, .inl (fa0 7))) :: ((r0 9), .inl (ca 0, 180, .inl (fa0 8))) :: ((r0 10), .inl (ca 0, 60, .inl (fa0 9))) :: ((r0 11), .inl (ca 0, 180, .inl (fa0 10))) :: ((r0 12), .inl (ca 0, 180, .inl (fa0 11))) :: ((r0 13), .inl (ca 0, 180, .inl (fa0 12))) :: ((r0 14), .inl (ca 0, 180, .inl (fa0 13))) :: ((r0 15), .inl (ca 0, 180, .inl (fa0 14))) :: ((r0 16), .inl (ca 0, 180, .inl (fa0 15))) :: ((r0 17), .inl (ca 0, 180, .inl (fa0 16))) :: ((r0 18), .inl (ca 0, 180, .inl (fa0 17))) :: ((r0 19), .inl (ca 0, 180, .inl (fa0 18))) :: ((r0 20), .inl (ca 0, 180, .inl (fa0 19))) :: ((r0 21), .inl (ca 0, 3, .inl (fa0 20))) :: ((r0 22), .inl (ca 1, 3, .inr (.inl (fb0 0)))) :: ((r0 23), .inl (ca 1, 3, .inr (.inl (fb0 1)))) :: ((r0 24), .inl (ca 3, 3, .inl (fa0 21))) :: ((r0 25), .inl (ca 0, 3, .inl (fa0 22))) :: ((r0 26), .inl (ca 0, 3, .inl (fa0 23))) :: ((r0 27), .inl (ca 0, 810, .inl (fa0 24))) :: ((r0 28), .inl (ca 3, 810, .inl (fa0 25))) :: ((r0 29), .inl (ca 1, 810, .inr (.inl (fb0 2)))) :: ((r0 30), .inl (ca 0, 810, .inl (fa0 26))) :: ((r0 31), .inl (ca 0, 3, .inl (fa0 27))) :: ((r0 32), .inl (ca 0, 60, .inl (fa0 28))) :: ((r0 33), .inl (ca 0, 4, .inl (fa0 29))) :: rest) H := hP
  have hD : va_D A (((r0 0), .inr (9, [.ref (r0 1), .int (fi0 0), .int (fi0 1), .int (fi0 2), .int (fi0 3), .int (fi0 4), .int (fi0 5), .int (fi0 6), .int (fi0 7), .int (fi0 8), .ref (r0 2), .int (fi0 9), .ref (r0 3), .ref (r0 4), .ref (r0 5), .ref (r0 6), .ref (r0 7), .ref (r0 8), .ref (r0 9), .ref (r0 10), .ref (r0 11), .ref (r0 12), .ref (r0 13), .ref (r0 14), .ref (r0 15), .ref (r0 16), .ref (r0 17), .ref (r0 18), .ref (r0 19), .ref (r0 20), .ref (r0 21), .ref (r0 22), .ref (r0 23), .ref (r0 24), .ref (r0 25), .ref (r0 26), .ref (r0 27), .ref (r0 28), .ref (r0 29), .ref (r0 30), .ref (r0 31), .ref (r0 32), .int (fi0 10), .ref (r0 33)])) :: ((r0 1), .inl (ca 2, 600, .inl (fa0 0))) :: ((r0 2), .inl (ca 0, 48, .inl (fa0 1))) :: ((r0 3), .inl (ca 0, 60, .inl (fa0 2))) :: ((r0 4), .inl (ca 0, 60, .inl (fa0 3))) :: ((r0 5), .inl (ca 0, 60, .inl (fa0 4))) :: ((r0 6), .inl (ca 0, 60, .inl (fa0 5))) :: ((r0 7), .inl (ca 0, 60, .inl (fa0 6))) :: ((r0 8), .inl (ca 0, 60, .inl (fa0 7))) :: ((r0 9), .inl (ca 0, 180, .inl (fa0 8))) :: ((r0 10), .inl (ca 0, 60, .inl (fa0 9))) :: ((r0 11), .inl (ca 0, 180, .inl (fa0 10))) :: ((r0 12), .inl (ca 0, 180, .inl (fa0 11))) :: ((r0 13), .inl (ca 0, 180, .inl (fa0 12))) :: ((r0 14), .inl (ca 0, 180, .inl (fa0 13))) :: ((r0 15), .inl (ca 0, 180, .inl (fa0 14))) :: ((r0 16), .inl (ca 0, 180, .inl (fa0 15))) :: ((r0 17), .inl (ca 0, 180, .inl (fa0 16))) :: ((r0 18), .inl (ca 0, 180, .inl (fa0 17))) :: ((r0 19), .inl (ca 0, 180, .inl (fa0 18))) :: ((r0 20), .inl (ca 0, 180, .inl (fa0 19))) :: ((r0 21), .inl (ca 0, 3, .inl (fa0 20))) :: ((r0 22), .inl (ca 1, 3, .inr (.inl (fb0 0)))) :: ((r0 23), .inl (ca 1, 3, .inr (.inl (fb0 1)))) :: ((r0 24), .inl (ca 3, 3, .inl (fa0 21))) :: ((r0 25), .inl (ca 0, 3, .inl (fa0 22))) :: ((r0 26), .inl (ca 0, 3, .inl (fa0 23))) :: ((r0 27), .inl (ca 0, 810, .inl (fa0 24))) :: ((r0 28), .inl (ca 3, 810, .inl (fa0 25))) :: ((r0 29), .inl (ca 1, 810, .inr (.inl (fb0 2)))) :: ((r0 30), .inl (ca 0, 810, .inl (fa0 26))) :: ((r0 31), .inl (ca 0, 3, .inl (fa0 27))) :: ((r0 32), .inl (ca 0, 60, .inl (fa0 28))) :: ((r0 33), .inl (ca 0, 4, .inl (fa0 29))) :: rest) := hD
  have hl := lv_entry ([.ref (r0 0), .int p1, .int p2]) (n := 3) (Nat.le_of_ble_eq_true rfl)
  rw [lg_entry_eq]
  generalize (lg_sl ([.ref (r0 0), .int p1, .int p2]) ++ List.replicate (3 - (lg_sl ([.ref (r0 0), .int p1, .int p2])).length) Slot.unset).toArray = ls at hl ⊢
  have hl : lv_has ls 3 [(0, .ref (r0 0)), (1, .int p1), (2, .int p2)] := hl
  generalize hQ9 : MQ below _ _ s 0 0 A = Q9
  refine lv_aload_n hx hb dX9_ruleOf_0 rfl (lv_at hl 0 rfl) ?_
  refine va_get (D := D) (ci := 9) (v := .ref (r0 2)) (C := RX9) (T := TX9) (N := 44) hx hb hts inX9 hown hK hP 0 rfl rfl 10 (by decide) lk17 (fun _ h9 => h9) rfl dX9_ruleOf_1 ?_
  refine lv_bipush (v := 8) hx hb dX9_ruleOf_4 (by decide) ?_
  refine lv_aload_n hx hb dX9_ruleOf_6 rfl (lv_at hl 0 rfl) ?_
  refine va_get (D := D) (ci := 9) (v := .ref (r0 31)) (C := RX9) (T := TX9) (N := 44) hx hb hts inX9 hown hK hP 0 rfl rfl 40 (by decide) lk107 (fun _ h9 => h9) rfl dX9_ruleOf_7 ?_
  refine lv_iload_n hx hb dX9_ruleOf_10 rfl (lv_at hl 1 rfl) ?_
  have hi1 : vp_in p1 3 := z_in (i := p1.toInt) rfl (by omega) (by omega)
  refine va_iald hx hb hK hP 31 0 rfl rfl hi1 dX9_ruleOf_11 ?_
  refine lv_topi (fun t2 et2 => ?_)
  have ht2 := z_at hv0a27 et2
  refine lv_imul hx hb dX9_ruleOf_12 ?_
  refine lv_topi (fun t3 et3 => ?_)
  try have ht3 : t3.toInt = 8 * t2.toInt := z_mul et3 (by decide) rfl (by omega -splitDisjunctions) (by omega -splitDisjunctions)
  refine lv_iload_n hx hb dX9_ruleOf_13 rfl (lv_at hl 2 rfl) ?_
  refine lv_iadd hx hb dX9_ruleOf_14 ?_
  refine lv_topi (fun t4 et4 => ?_)
  try have ht4 : t4.toInt = t3.toInt + p2.toInt := z_add et4 rfl rfl (by omega -splitDisjunctions) (by omega -splitDisjunctions)
  have hi5 : vp_in t4 48 := z_in (i := t4.toInt) rfl (by omega) (by omega)
  refine va_iald hx hb hK hP 2 0 rfl rfl hi5 dX9_ruleOf_15 ?_
  refine lv_topi (fun t6 et6 => ?_)
  subst hQ9
  have hq7 : (p2.toInt = 0 → 2 ≤ t6.toInt ∧ t6.toInt ≤ 100) ∧ (p2.toInt = 6 → t6.toInt = -1 ∨ (1 ≤ t6.toInt ∧ t6.toInt ≤ 50)) := by (have q1 : t4.toNatClampNeg = 8 * (fa0 27 p1.toNatClampNeg).toNatClampNeg + p2.toNatClampNeg := by (rw [← et2, z_cl, z_cl, z_cl]; omega)); (have q0 := hv0y0.2 p1.toNatClampNeg (by rw [z_cl]; omega) p2.toNatClampNeg (by rw [z_cl]; omega)); (rw [← q1, ← et6] at q0); exact ⟨fun h => q0.1 (by rw [z_cl]; omega), fun h => q0.2 (by rw [z_cl]; omega)⟩
  exact W.iret (v := t6) hx hb hr (fun t ht hW => ⟨⟨t6, (), rfl, hq7, ⟨by rw [ht]; exact hP, hD⟩⟩, hS.F ht⟩) hS.2.2 dX9_ruleOf_16

set_option maxHeartbeats 8000000 in
set_option maxRecDepth 100000 in
theorem c_X9_hangsIn (l : Launch) (D : va_G) (ca : Nat → ClassId) (sa : Nat → Nat) (A : Nat → Prop) (rest : va_W) (r0 : Nat → Nat) (fi0 : Nat → Int32) (fl0 : Nat → Int64) (fa0 : Nat → Nat → Int32) (fb0 : Nat → Nat → Int64) (hv0 : Ok_MOD fi0 fa0) (p1 : Int32) (p2 : Int64) (hpre0 : 0 ≤ p1.toInt ∧ p1.toInt ≤ 59) : Met l yX9_hangsIn wsX9_hangsIn ({ frames := 1, cells := 0, slots := 0, locals := 22 }) (va_Pc [.ref (r0 0), .int p1, .long p2] (zPre D ca sa A (w_MOD ca r0 fi0 fl0 fa0 fb0 (rest)))) (va_Qi (fun (r : Int32) (u : Unit) => (0 ≤ r.toInt ∧ r.toInt ≤ 1)) (fun u t => zPost D A (w_MOD ca r0 fi0 fl0 fa0 fb0 (rest)) t) A) 0 0 A := by
  refine Met.ofW (cc := cX9_hangsIn) (maxL := 5) (ret := (some .boolean)) (by decide) rfl ?_
  intro p e s m args below meth c s₁ B hml hv9
  obtain ⟨rfl, hE, hP, hD⟩ := hv9
  have hx := B.exec
  have hb := B.bytes
  have hr := B.returns
  have hts := atoms_spec (ws := wsX9_hangsIn) B.pre
  have hown : s.vm.findClass RX9 = some m.cls := findClass_of_methodNamed B.named
  have hlocks := B.notSynchronized
  have hK := hE.1
  have hF : CallFix p m c cX9_hangsIn 5 s _ wsX9_hangsIn RX9 := ⟨hx, hb, hml, hown, hts⟩
  have hS : va_S A s.heap s.heap [] := va_S.rf
  have lk42 := hts (.fieldLink RX9 42 "BranchPlayModel" "hangMany" "[I") (by decide +kernel)
  have inX9 : ∀ w ∈ wsX90, w ∈ wsX9_hangsIn := by decide +kernel
  have lk39 := hts (.fieldLink RX9 39 "BranchPlayModel" "hangs" "[I") (by decide +kernel)
  obtain ⟨⟨hv0i0, hv0j0⟩, ⟨hv0i1, hv0j1⟩, ⟨hv0i5, hv0j5⟩, ⟨hv0i9, hv0j9⟩, hv0a6, hv0a8, hv0a9, hv0a23, hv0a27, hv0a28, hv0x0, hv0y0⟩ := hv0
  generalize hHe : s.heap = H at hP
  have hS : va_S A s.heap H [] := by rw [← hHe]; exact hS
  have hP : va_P D vwCl (((r0 0), .inr (9, [.ref (r0 1), .int (fi0 0), .int (fi0 1), .int (fi0 2), .int (fi0 3), .int (fi0 4), .int (fi0 5), .int (fi0 6), .int (fi0 7), .int (fi0 8), .ref (r0 2), .int (fi0 9), .ref (r0 3), .ref (r0 4), .ref (r0 5), .ref (r0 6), .ref (r0 7), .ref (r0 8), .ref (r0 9), .ref (r0 10), .ref (r0 11), .ref (r0 12), .ref (r0 13), .ref (r0 14), .ref (r0 15), .ref (r0 16), .ref (r0 17), .ref (r0 18), .ref (r0 19), .ref (r0 20), .ref (r0 21), .ref (r0 22), .ref (r0 23), .ref (r0 24), .ref (r0 25), .ref (r0 26), .ref (r0 27), .ref (r0 28), .ref (r0 29), .ref (r0 30), .ref (r0 31), .ref (r0 32), .int (fi0 10), .ref (r0 33)])) :: ((r0 1), .inl (ca 2, 600, .inl (fa0 0))) :: ((r0 2), .inl (ca 0, 48, .inl (fa0 1))) :: ((r0 3), .inl (ca 0, 60, .inl (fa0 2))) :: ((r0 4), .inl (ca 0, 60, .inl (fa0 3))) :: ((r0 5), .inl (ca 0, 60, .inl (fa0 4))) :: ((r0 6), .inl (ca 0, 60, .inl (fa0 5))) :: ((r0 7), .inl (ca 0, 60, .inl (fa0 6))) :: ((r0 8), .inl (ca 0, 60, .inl (fa0 7))) :: ((r0 9), .inl (ca 0, 180, .inl (fa0 8))) :: ((r0 10), .inl (ca 0, 60, .inl (fa0 9))) :: ((r0 11), .inl (ca 0, 180, .inl (fa0 10))) :: ((r0 12), .inl (ca 0, 180, .inl (fa0 11))) :: ((r0 13), .inl (ca 0, 180, .inl (fa0 12))) :: ((r0 14), .inl (ca 0, 180, .inl (fa0 13))) :: ((r0 15), .inl (ca 0, 180, .inl (fa0 14))) :: ((r0 16), .inl (ca 0, 180, .inl (fa0 15))) :: ((r0 17), .inl (ca 0, 180, .inl (fa0 16))) :: ((r0 18), .inl (ca 0, 180, .inl (fa0 17))) :: ((r0 19), .inl (ca 0, 180, .inl (fa0 18))) :: ((r0 20), .inl (ca 0, 180, .inl (fa0 19))) :: ((r0 21), .inl (ca 0, 3, .inl (fa0 20))) :: ((r0 22), .inl (ca 1, 3, .inr (.inl (fb0 0)))) :: ((r0 23), .inl (ca 1, 3, .inr (.inl (fb0 1)))) :: ((r0 24), .inl (ca 3, 3, .inl (fa0 21))) :: ((r0 25), .inl (ca 0, 3, .inl (fa0 22))) :: ((r0 26), .inl (ca 0, 3, .inl (fa0 23))) :: ((r0 27), .inl (ca 0, 810, .inl (fa0 24))) :: ((r0 28), .inl (ca 3, 810, .inl (fa0 25))) :: ((r0 29), .inl (ca 1, 810, .inr (.inl (fb0 2)))) :: ((r0 30), .inl (ca 0, 810, .inl (fa0 26))) :: ((r0 31), .inl (ca 0, 3, .inl (fa0 27))) :: ((r0 32), .inl (ca 0, 60, .inl (fa0 28))) :: ((r0 33), .inl (ca 0, 4, .inl (fa0 29))) :: rest) H := hP
  have hD : va_D A (((r0 0), .inr (9, [.ref (r0 1), .int (fi0 0), .int (fi0 1), .int (fi0 2), .int (fi0 3), .int (fi0 4), .int (fi0 5), .int (fi0 6), .int (fi0 7), .int (fi0 8), .ref (r0 2), .int (fi0 9), .ref (r0 3), .ref (r0 4), .ref (r0 5), .ref (r0 6), .ref (r0 7), .ref (r0 8), .ref (r0 9), .ref (r0 10), .ref (r0 11), .ref (r0 12), .ref (r0 13), .ref (r0 14), .ref (r0 15), .ref (r0 16), .ref (r0 17), .ref (r0 18), .ref (r0 19), .ref (r0 20), .ref (r0 21), .ref (r0 22), .ref (r0 23), .ref (r0 24), .ref (r0 25), .ref (r0 26), .ref (r0 27), .ref (r0 28), .ref (r0 29), .ref (r0 30), .ref (r0 31), .ref (r0 32), .int (fi0 10), .ref (r0 33)])) :: ((r0 1), .inl (ca 2, 600, .inl (fa0 0))) :: ((r0 2), .inl (ca 0, 48, .inl (fa0 1))) :: ((r0 3), .inl (ca 0, 60, .inl (fa0 2))) :: ((r0 4), .inl (ca 0, 60, .inl (fa0 3))) :: ((r0 5), .inl (ca 0, 60, .inl (fa0 4))) :: ((r0 6), .inl (ca 0, 60, .inl (fa0 5))) :: ((r0 7), .inl (ca 0, 60, .inl (fa0 6))) :: ((r0 8), .inl (ca 0, 60, .inl (fa0 7))) :: ((r0 9), .inl (ca 0, 180, .inl (fa0 8))) :: ((r0 10), .inl (ca 0, 60, .inl (fa0 9))) :: ((r0 11), .inl (ca 0, 180, .inl (fa0 10))) :: ((r0 12), .inl (ca 0, 180, .inl (fa0 11))) :: ((r0 13), .inl (ca 0, 180, .inl (fa0 12))) :: ((r0 14), .inl (ca 0, 180, .inl (fa0 13))) :: ((r0 15), .inl (ca 0, 180, .inl (fa0 14))) :: ((r0 16), .inl (ca 0, 180, .inl (fa0 15))) :: ((r0 17), .inl (ca 0, 180, .inl (fa0 16))) :: ((r0 18), .inl (ca 0, 180, .inl (fa0 17))) :: ((r0 19), .inl (ca 0, 180, .inl (fa0 18))) :: ((r0 20), .inl (ca 0, 180, .inl (fa0 19))) :: ((r0 21), .inl (ca 0, 3, .inl (fa0 20))) :: ((r0 22), .inl (ca 1, 3, .inr (.inl (fb0 0)))) :: ((r0 23), .inl (ca 1, 3, .inr (.inl (fb0 1)))) :: ((r0 24), .inl (ca 3, 3, .inl (fa0 21))) :: ((r0 25), .inl (ca 0, 3, .inl (fa0 22))) :: ((r0 26), .inl (ca 0, 3, .inl (fa0 23))) :: ((r0 27), .inl (ca 0, 810, .inl (fa0 24))) :: ((r0 28), .inl (ca 3, 810, .inl (fa0 25))) :: ((r0 29), .inl (ca 1, 810, .inr (.inl (fb0 2)))) :: ((r0 30), .inl (ca 0, 810, .inl (fa0 26))) :: ((r0 31), .inl (ca 0, 3, .inl (fa0 27))) :: ((r0 32), .inl (ca 0, 60, .inl (fa0 28))) :: ((r0 33), .inl (ca 0, 4, .inl (fa0 29))) :: rest) := hD
  have hl := lv_entry ([.ref (r0 0), .int p1, .long p2]) (n := 5) (Nat.le_of_ble_eq_true rfl)
  rw [lg_entry_eq]
  generalize (lg_sl ([.ref (r0 0), .int p1, .long p2]) ++ List.replicate (5 - (lg_sl ([.ref (r0 0), .int p1, .long p2])).length) Slot.unset).toArray = ls at hl ⊢
  have hl : lv_has ls 5 [(0, .ref (r0 0)), (1, .int p1), (2, .long p2)] := hl
  generalize hQ9 : MQ below _ _ s 0 0 A = Q9
  refine lv_iconst (v := 3) hx hb dX9_hangsIn_0 (by decide) ?_
  refine lv_iload_n hx hb dX9_hangsIn_1 rfl (lv_at hl 1 rfl) ?_
  refine lv_imul hx hb dX9_hangsIn_2 ?_
  refine lv_topi (fun t1 et1 => ?_)
  try have ht1 : t1.toInt = 3 * p1.toInt := z_mul et1 (by decide) rfl (by omega -splitDisjunctions) (by omega -splitDisjunctions)
  refine lv_istore (lv' := [(4, .int t1), (0, .ref (r0 0)), (1, .int p1), (2, .long p2)]) hx hb dX9_hangsIn_3 hl (by decide) rfl (fun ls hl => ?_)
  have J5_2 : ∀ (n2 : Nat) (x4_2 : Int32) (H : Heap) (locs : List Loc) (hP : va_P D vwCl (((r0 0), .inr (9, [.ref (r0 1), .int (fi0 0), .int (fi0 1), .int (fi0 2), .int (fi0 3), .int (fi0 4), .int (fi0 5), .int (fi0 6), .int (fi0 7), .int (fi0 8), .ref (r0 2), .int (fi0 9), .ref (r0 3), .ref (r0 4), .ref (r0 5), .ref (r0 6), .ref (r0 7), .ref (r0 8), .ref (r0 9), .ref (r0 10), .ref (r0 11), .ref (r0 12), .ref (r0 13), .ref (r0 14), .ref (r0 15), .ref (r0 16), .ref (r0 17), .ref (r0 18), .ref (r0 19), .ref (r0 20), .ref (r0 21), .ref (r0 22), .ref (r0 23), .ref (r0 24), .ref (r0 25), .ref (r0 26), .ref (r0 27), .ref (r0 28), .ref (r0 29), .ref (r0 30), .ref (r0 31), .ref (r0 32), .int (fi0 10), .ref (r0 33)])) :: ((r0 1), .inl (ca 2, 600, .inl (fa0 0))) :: ((r0 2), .inl (ca 0, 48, .inl (fa0 1))) :: ((r0 3), .inl (ca 0, 60, .inl (fa0 2))) :: ((r0 4), .inl (ca 0, 60, .inl (fa0 3))) :: ((r0 5), .inl (ca 0, 60, .inl (fa0 4))) :: ((r0 6), .inl (ca 0, 60, .inl (fa0 5))) :: ((r0 7), .inl (ca 0, 60, .inl (fa0 6))) :: ((r0 8), .inl (ca 0, 60, .inl (fa0 7))) :: ((r0 9), .inl (ca 0, 180, .inl (fa0 8))) :: ((r0 10), .inl (ca 0, 60, .inl (fa0 9))) :: ((r0 11), .inl (ca 0, 180, .inl (fa0 10))) :: ((r0 12), .inl (ca 0, 180, .inl (fa0 11))) :: ((r0 13), .inl (ca 0, 180, .inl (fa0 12))) :: ((r0 14), .inl (ca 0, 180, .inl (fa0 13))) :: ((r0 15), .inl (ca 0, 180, .inl (fa0 14))) :: ((r0 16), .inl (ca 0, 180, .inl (fa0 15))) :: ((r0 17), .inl (ca 0, 180, .inl (fa0 16))) :: ((r0 18), .inl (ca 0, 180, .inl (fa0 17))) :: ((r0 19), .inl (ca 0, 180, .inl (fa0 18))) :: ((r0 20), .inl (ca 0, 180, .inl (fa0 19))) :: ((r0 21), .inl (ca 0, 3, .inl (fa0 20))) :: ((r0 22), .inl (ca 1, 3, .inr (.inl (fb0 0)))) :: ((r0 23), .inl (ca 1, 3, .inr (.inl (fb0 1)))) :: ((r0 24), .inl (ca 3, 3, .inl (fa0 21))) :: ((r0 25), .inl (ca 0, 3, .inl (fa0 22))) :: ((r0 26), .inl (ca 0, 3, .inl (fa0 23))) :: ((r0 27), .inl (ca 0, 810, .inl (fa0 24))) :: ((r0 28), .inl (ca 3, 810, .inl (fa0 25))) :: ((r0 29), .inl (ca 1, 810, .inr (.inl (fb0 2)))) :: ((r0 30), .inl (ca 0, 810, .inl (fa0 26))) :: ((r0 31), .inl (ca 0, 3, .inl (fa0 27))) :: ((r0 32), .inl (ca 0, 60, .inl (fa0 28))) :: ((r0 33), .inl (ca 0, 4, .inl (fa0 29))) :: rest) H) (hD : va_D A (((r0 0), .inr (9, [.ref (r0 1), .int (fi0 0), .int (fi0 1), .int (fi0 2), .int (fi0 3), .int (fi0 4), .int (fi0 5), .int (fi0 6), .int (fi0 7), .int (fi0 8), .ref (r0 2), .int (fi0 9), .ref (r0 3), .ref (r0 4), .ref (r0 5), .ref (r0 6), .ref (r0 7), .ref (r0 8), .ref (r0 9), .ref (r0 10), .ref (r0 11), .ref (r0 12), .ref (r0 13), .ref (r0 14), .ref (r0 15), .ref (r0 16), .ref (r0 17), .ref (r0 18), .ref (r0 19), .ref (r0 20), .ref (r0 21), .ref (r0 22), .ref (r0 23), .ref (r0 24), .ref (r0 25), .ref (r0 26), .ref (r0 27), .ref (r0 28), .ref (r0 29), .ref (r0 30), .ref (r0 31), .ref (r0 32), .int (fi0 10), .ref (r0 33)])) :: ((r0 1), .inl (ca 2, 600, .inl (fa0 0))) :: ((r0 2), .inl (ca 0, 48, .inl (fa0 1))) :: ((r0 3), .inl (ca 0, 60, .inl (fa0 2))) :: ((r0 4), .inl (ca 0, 60, .inl (fa0 3))) :: ((r0 5), .inl (ca 0, 60, .inl (fa0 4))) :: ((r0 6), .inl (ca 0, 60, .inl (fa0 5))) :: ((r0 7), .inl (ca 0, 60, .inl (fa0 6))) :: ((r0 8), .inl (ca 0, 60, .inl (fa0 7))) :: ((r0 9), .inl (ca 0, 180, .inl (fa0 8))) :: ((r0 10), .inl (ca 0, 60, .inl (fa0 9))) :: ((r0 11), .inl (ca 0, 180, .inl (fa0 10))) :: ((r0 12), .inl (ca 0, 180, .inl (fa0 11))) :: ((r0 13), .inl (ca 0, 180, .inl (fa0 12))) :: ((r0 14), .inl (ca 0, 180, .inl (fa0 13))) :: ((r0 15), .inl (ca 0, 180, .inl (fa0 14))) :: ((r0 16), .inl (ca 0, 180, .inl (fa0 15))) :: ((r0 17), .inl (ca 0, 180, .inl (fa0 16))) :: ((r0 18), .inl (ca 0, 180, .inl (fa0 17))) :: ((r0 19), .inl (ca 0, 180, .inl (fa0 18))) :: ((r0 20), .inl (ca 0, 180, .inl (fa0 19))) :: ((r0 21), .inl (ca 0, 3, .inl (fa0 20))) :: ((r0 22), .inl (ca 1, 3, .inr (.inl (fb0 0)))) :: ((r0 23), .inl (ca 1, 3, .inr (.inl (fb0 1)))) :: ((r0 24), .inl (ca 3, 3, .inl (fa0 21))) :: ((r0 25), .inl (ca 0, 3, .inl (fa0 22))) :: ((r0 26), .inl (ca 0, 3, .inl (fa0 23))) :: ((r0 27), .inl (ca 0, 810, .inl (fa0 24))) :: ((r0 28), .inl (ca 3, 810, .inl (fa0 25))) :: ((r0 29), .inl (ca 1, 810, .inr (.inl (fb0 2)))) :: ((r0 30), .inl (ca 0, 810, .inl (fa0 26))) :: ((r0 31), .inl (ca 0, 3, .inl (fa0 27))) :: ((r0 32), .inl (ca 0, 60, .inl (fa0 28))) :: ((r0 33), .inl (ca 0, 4, .inl (fa0 29))) :: rest)) (hS : va_S A s.heap H locs) (ls : Array Slot) (hl : lv_has ls 5 [(0, .ref (r0 0)), (1, .int p1), (2, .long p2), (4, .int x4_2)]) (hf2_0 : 3 * p1.toInt ≤ x4_2.toInt ∧ x4_2.toInt ≤ 3 * p1.toInt + 3), (3 * p1.toInt + 4 - x4_2.toInt).toNat < n2 → W p l e (headSpec wsX9_hangsIn ({ frames := 1, cells := 0, slots := 0, locals := 22 })).room s m ([.ref (r0 0), .int p1, .long p2] : List Value).toArray below meth c H locs 0 0 Q9 (F0 m 5 ls []) := by
    intro n2
    induction n2 with
    | zero => intro x4_2 H locs hP hD hS ls hl hf2_0 hn9; exact absurd hn9 (Nat.not_lt_zero _)
    | succ n2 ih2 =>
      intro x4_2 H locs hP hD hS ls hl hf2_0 hn9
      refine lv_iload hx hb dX9_hangsIn_5 (lv_at hl 3 rfl) ?_
      refine lv_iconst (v := 3) hx hb dX9_hangsIn_7 (by decide) ?_
      refine lv_iload_n hx hb dX9_hangsIn_8 rfl (lv_at hl 1 rfl) ?_
      refine lv_imul hx hb dX9_hangsIn_9 ?_
      refine lv_topi (fun t3 et3 => ?_)
      try have ht3 : t3.toInt = 3 * p1.toInt := z_mul et3 (by decide) rfl (by omega -splitDisjunctions) (by omega -splitDisjunctions)
      refine lv_aload_n hx hb dX9_hangsIn_10 rfl (lv_at hl 0 rfl) ?_
      refine va_get (D := D) (ci := 9) (v := .ref (r0 10)) (C := RX9) (T := TX9) (N := 44) hx hb hts inX9 hown hK hP 0 rfl rfl 19 (by decide) lk42 (fun _ h9 => h9) rfl dX9_hangsIn_11 ?_
      refine lv_iload_n hx hb dX9_hangsIn_14 rfl (lv_at hl 1 rfl) ?_
      have hi4 : vp_in p1 60 := z_in (i := p1.toInt) rfl (by omega) (by omega)
      refine va_iald hx hb hK hP 10 0 rfl rfl hi4 dX9_hangsIn_15 ?_
      refine lv_topi (fun t5 et5 => ?_)
      have ht5 := z_at hv0a9 et5
      refine lv_iadd hx hb dX9_hangsIn_16 ?_
      refine lv_topi (fun t6 et6 => ?_)
      try have ht6 : t6.toInt = t3.toInt + t5.toInt := z_add et6 rfl rfl (by omega -splitDisjunctions) (by omega -splitDisjunctions)
      refine lv_icmp_ge (tgt := 42) hx hb dX9_hangsIn_17 (by decide) (fun c7 => ?_) (fun c7 => ?_)
      ·
        have c7 := z_le (i := t6.toInt) (j := x4_2.toInt) rfl rfl c7
        refine lv_iconst (v := 1) hx hb dX9_hangsIn_42 (by decide) ?_
        subst hQ9
        refine lv_topi (fun t8 et8 => ?_)
        have ht8 : t8.toInt = 1 := by rw [et8]; decide
        have hq9 : 0 ≤ t8.toInt ∧ t8.toInt ≤ 1 := by omega
        have hz10 : narrow .boolean (.int t8) = .int t8 := z_nz (by constructor <;> omega)
        exact W.zret (v := t8) hx hb hr hz10 (fun t ht hW => ⟨⟨t8, (), rfl, hq9, ⟨by rw [ht]; exact hP, hD⟩⟩, hS.F ht⟩) hS.2.2 dX9_hangsIn_43
      ·
        have c7 := z_nle (i := t6.toInt) (j := x4_2.toInt) rfl rfl c7
        refine lv_lload_n hx hb dX9_hangsIn_20 rfl (lv_at hl 2 rfl) ?_
        refine lv_aload_n hx hb dX9_hangsIn_21 rfl (lv_at hl 0 rfl) ?_
        refine va_get (D := D) (ci := 9) (v := .ref (r0 9)) (C := RX9) (T := TX9) (N := 44) hx hb hts inX9 hown hK hP 0 rfl rfl 18 (by decide) lk39 (fun _ h9 => h9) rfl dX9_hangsIn_22 ?_
        refine lv_iload hx hb dX9_hangsIn_25 (lv_at hl 3 rfl) ?_
        have hi11 : vp_in x4_2 180 := z_in (i := x4_2.toInt) rfl (by omega) (by omega)
        refine va_iald hx hb hK hP 9 0 rfl rfl hi11 dX9_hangsIn_27 ?_
        refine lv_topi (fun t12 et12 => ?_)
        have ht12 := z_at hv0a8 et12
        refine z_iS (As := [.long p2, .int t12]) (rest := []) hF (c_X9_isIn l D ca sa A _ p2 t12) (va_cwS 2 hts gX9_hangsIn_X9_isIn rfl rfl rfl (by decide +kernel) ⟨Nat.le_of_ble_eq_true rfl, Nat.le_of_ble_eq_true rfl⟩) hE hP hD hS rfl hl.1 rfl (Nat.le_of_ble_eq_true rfl) dX9_hangsIn_28 ⟨Nat.zero_le _, Nat.zero_le _⟩ (fun t14 u13 H locs hw15 hP hD hS => ?_)
        have hw15 : (0 ≤ t14.toInt ∧ t14.toInt ≤ 1) := hw15
        have hq16 := hw15
        clear hw15
        refine lv_if_ne (tgt := 36) hx hb dX9_hangsIn_31 (by decide) (fun c17 => ?_) (fun c17 => ?_)
        ·
          have c17 := z_ne (i := t14.toInt) (j := 0) rfl (by decide) c17
          obtain ⟨t18, et18⟩ : ∃ y : Int32, y = x4_2 + 1 := ⟨_, rfl⟩
          try have ht18 : t18.toInt = x4_2.toInt + 1 := z_add et18 rfl (by decide) (by omega -splitDisjunctions) (by omega -splitDisjunctions)
          refine lv_iinc (v := t18) (lv' := [(4, .int t18), (0, .ref (r0 0)), (1, .int p1), (2, .long p2)]) hx hb dX9_hangsIn_36 hl (k := 3) rfl (by rw [et18]; rfl) (by decide) rfl (fun ls hl => ?_)
          refine lv_goto (tgt := 5) hx hb dX9_hangsIn_39 (by decide) ?_
          have hj19 : 3 * p1.toInt ≤ t18.toInt ∧ t18.toInt ≤ 3 * p1.toInt + 3 := by omega
          have hm20 : (3 * p1.toInt + 4 - t18.toInt).toNat < n2 := by omega
          exact ih2 t18 _ _ hP hD hS ls (lv_sub hl [1, 2, 3, 0] rfl) hj19 hm20
        ·
          have c17 := z_eq (i := t14.toInt) (j := 0) rfl (by decide) c17
          refine lv_iconst (v := 0) hx hb dX9_hangsIn_34 (by decide) ?_
          subst hQ9
          refine lv_topi (fun t21 et21 => ?_)
          have ht21 : t21.toInt = 0 := by rw [et21]; decide
          have hq22 : 0 ≤ t21.toInt ∧ t21.toInt ≤ 1 := by omega
          have hz23 : narrow .boolean (.int t21) = .int t21 := z_nz (by constructor <;> omega)
          exact W.zret (v := t21) hx hb hr hz23 (fun t ht hW => ⟨⟨t21, (), rfl, hq22, ⟨by rw [ht]; exact hP, hD⟩⟩, hS.F ht⟩) hS.2.2 dX9_hangsIn_35
  have hj24 : 3 * p1.toInt ≤ t1.toInt ∧ t1.toInt ≤ 3 * p1.toInt + 3 := by omega
  exact J5_2 ((3 * p1.toInt + 4 - t1.toInt).toNat + 1) t1 _ _ hP hD hS ls (lv_sub hl [1, 2, 3, 0] rfl) hj24 (Nat.lt_succ_self _)

set_option maxHeartbeats 8000000 in
set_option maxRecDepth 100000 in
theorem c_X9_hangsMerged (l : Launch) (D : va_G) (ca : Nat → ClassId) (sa : Nat → Nat) (A : Nat → Prop) (rest : va_W) (r0 : Nat → Nat) (fi0 : Nat → Int32) (fl0 : Nat → Int64) (fa0 : Nat → Nat → Int32) (fb0 : Nat → Nat → Int64) (hv0 : Ok_MOD fi0 fa0) (p1 : Int32) (p2 : Int32) (hpre0 : 0 ≤ p1.toInt ∧ p1.toInt ≤ 2) (hpre1 : 0 ≤ p2.toInt ∧ p2.toInt ≤ 59) : Met l yX9_hangsMerged wsX9_hangsMerged ({ frames := 0, cells := 0, slots := 0, locals := 0 }) (va_Pc [.ref (r0 0), .int p1, .int p2] (zPre D ca sa A (w_MOD ca r0 fi0 fl0 fa0 fb0 (rest)))) (va_Qi (fun (r : Int32) (u : Unit) => (0 ≤ r.toInt ∧ r.toInt ≤ 1)) (fun u t => zPost D A (w_MOD ca r0 fi0 fl0 fa0 fb0 (rest)) t) A) 0 0 A := by
  refine Met.ofW (cc := cX9_hangsMerged) (maxL := 4) (ret := (some .boolean)) (by decide) rfl ?_
  intro p e s m args below meth c s₁ B hml hv9
  obtain ⟨rfl, hE, hP, hD⟩ := hv9
  have hx := B.exec
  have hb := B.bytes
  have hr := B.returns
  have hts := atoms_spec (ws := wsX9_hangsMerged) B.pre
  have hown : s.vm.findClass RX9 = some m.cls := findClass_of_methodNamed B.named
  have hlocks := B.notSynchronized
  have hK := hE.1
  have hF : CallFix p m c cX9_hangsMerged 4 s _ wsX9_hangsMerged RX9 := ⟨hx, hb, hml, hown, hts⟩
  have hS : va_S A s.heap s.heap [] := va_S.rf
  have lk42 := hts (.fieldLink RX9 42 "BranchPlayModel" "hangMany" "[I") (by decide +kernel)
  have inX9 : ∀ w ∈ wsX90, w ∈ wsX9_hangsMerged := by decide +kernel
  have lk54 := hts (.fieldLink RX9 54 "BranchPlayModel" "merged" "[I") (by decide +kernel)
  have lk39 := hts (.fieldLink RX9 39 "BranchPlayModel" "hangs" "[I") (by decide +kernel)
  obtain ⟨⟨hv0i0, hv0j0⟩, ⟨hv0i1, hv0j1⟩, ⟨hv0i5, hv0j5⟩, ⟨hv0i9, hv0j9⟩, hv0a6, hv0a8, hv0a9, hv0a23, hv0a27, hv0a28, hv0x0, hv0y0⟩ := hv0
  generalize hHe : s.heap = H at hP
  have hS : va_S A s.heap H [] := by rw [← hHe]; exact hS
  have hP : va_P D vwCl (((r0 0), .inr (9, [.ref (r0 1), .int (fi0 0), .int (fi0 1), .int (fi0 2), .int (fi0 3), .int (fi0 4), .int (fi0 5), .int (fi0 6), .int (fi0 7), .int (fi0 8), .ref (r0 2), .int (fi0 9), .ref (r0 3), .ref (r0 4), .ref (r0 5), .ref (r0 6), .ref (r0 7), .ref (r0 8), .ref (r0 9), .ref (r0 10), .ref (r0 11), .ref (r0 12), .ref (r0 13), .ref (r0 14), .ref (r0 15), .ref (r0 16), .ref (r0 17), .ref (r0 18), .ref (r0 19), .ref (r0 20), .ref (r0 21), .ref (r0 22), .ref (r0 23), .ref (r0 24), .ref (r0 25), .ref (r0 26), .ref (r0 27), .ref (r0 28), .ref (r0 29), .ref (r0 30), .ref (r0 31), .ref (r0 32), .int (fi0 10), .ref (r0 33)])) :: ((r0 1), .inl (ca 2, 600, .inl (fa0 0))) :: ((r0 2), .inl (ca 0, 48, .inl (fa0 1))) :: ((r0 3), .inl (ca 0, 60, .inl (fa0 2))) :: ((r0 4), .inl (ca 0, 60, .inl (fa0 3))) :: ((r0 5), .inl (ca 0, 60, .inl (fa0 4))) :: ((r0 6), .inl (ca 0, 60, .inl (fa0 5))) :: ((r0 7), .inl (ca 0, 60, .inl (fa0 6))) :: ((r0 8), .inl (ca 0, 60, .inl (fa0 7))) :: ((r0 9), .inl (ca 0, 180, .inl (fa0 8))) :: ((r0 10), .inl (ca 0, 60, .inl (fa0 9))) :: ((r0 11), .inl (ca 0, 180, .inl (fa0 10))) :: ((r0 12), .inl (ca 0, 180, .inl (fa0 11))) :: ((r0 13), .inl (ca 0, 180, .inl (fa0 12))) :: ((r0 14), .inl (ca 0, 180, .inl (fa0 13))) :: ((r0 15), .inl (ca 0, 180, .inl (fa0 14))) :: ((r0 16), .inl (ca 0, 180, .inl (fa0 15))) :: ((r0 17), .inl (ca 0, 180, .inl (fa0 16))) :: ((r0 18), .inl (ca 0, 180, .inl (fa0 17))) :: ((r0 19), .inl (ca 0, 180, .inl (fa0 18))) :: ((r0 20), .inl (ca 0, 180, .inl (fa0 19))) :: ((r0 21), .inl (ca 0, 3, .inl (fa0 20))) :: ((r0 22), .inl (ca 1, 3, .inr (.inl (fb0 0)))) :: ((r0 23), .inl (ca 1, 3, .inr (.inl (fb0 1)))) :: ((r0 24), .inl (ca 3, 3, .inl (fa0 21))) :: ((r0 25), .inl (ca 0, 3, .inl (fa0 22))) :: ((r0 26), .inl (ca 0, 3, .inl (fa0 23))) :: ((r0 27), .inl (ca 0, 810, .inl (fa0 24))) :: ((r0 28), .inl (ca 3, 810, .inl (fa0 25))) :: ((r0 29), .inl (ca 1, 810, .inr (.inl (fb0 2)))) :: ((r0 30), .inl (ca 0, 810, .inl (fa0 26))) :: ((r0 31), .inl (ca 0, 3, .inl (fa0 27))) :: ((r0 32), .inl (ca 0, 60, .inl (fa0 28))) :: ((r0 33), .inl (ca 0, 4, .inl (fa0 29))) :: rest) H := hP
  have hD : va_D A (((r0 0), .inr (9, [.ref (r0 1), .int (fi0 0), .int (fi0 1), .int (fi0 2), .int (fi0 3), .int (fi0 4), .int (fi0 5), .int (fi0 6), .int (fi0 7), .int (fi0 8), .ref (r0 2), .int (fi0 9), .ref (r0 3), .ref (r0 4), .ref (r0 5), .ref (r0 6), .ref (r0 7), .ref (r0 8), .ref (r0 9), .ref (r0 10), .ref (r0 11), .ref (r0 12), .ref (r0 13), .ref (r0 14), .ref (r0 15), .ref (r0 16), .ref (r0 17), .ref (r0 18), .ref (r0 19), .ref (r0 20), .ref (r0 21), .ref (r0 22), .ref (r0 23), .ref (r0 24), .ref (r0 25), .ref (r0 26), .ref (r0 27), .ref (r0 28), .ref (r0 29), .ref (r0 30), .ref (r0 31), .ref (r0 32), .int (fi0 10), .ref (r0 33)])) :: ((r0 1), .inl (ca 2, 600, .inl (fa0 0))) :: ((r0 2), .inl (ca 0, 48, .inl (fa0 1))) :: ((r0 3), .inl (ca 0, 60, .inl (fa0 2))) :: ((r0 4), .inl (ca 0, 60, .inl (fa0 3))) :: ((r0 5), .inl (ca 0, 60, .inl (fa0 4))) :: ((r0 6), .inl (ca 0, 60, .inl (fa0 5))) :: ((r0 7), .inl (ca 0, 60, .inl (fa0 6))) :: ((r0 8), .inl (ca 0, 60, .inl (fa0 7))) :: ((r0 9), .inl (ca 0, 180, .inl (fa0 8))) :: ((r0 10), .inl (ca 0, 60, .inl (fa0 9))) :: ((r0 11), .inl (ca 0, 180, .inl (fa0 10))) :: ((r0 12), .inl (ca 0, 180, .inl (fa0 11))) :: ((r0 13), .inl (ca 0, 180, .inl (fa0 12))) :: ((r0 14), .inl (ca 0, 180, .inl (fa0 13))) :: ((r0 15), .inl (ca 0, 180, .inl (fa0 14))) :: ((r0 16), .inl (ca 0, 180, .inl (fa0 15))) :: ((r0 17), .inl (ca 0, 180, .inl (fa0 16))) :: ((r0 18), .inl (ca 0, 180, .inl (fa0 17))) :: ((r0 19), .inl (ca 0, 180, .inl (fa0 18))) :: ((r0 20), .inl (ca 0, 180, .inl (fa0 19))) :: ((r0 21), .inl (ca 0, 3, .inl (fa0 20))) :: ((r0 22), .inl (ca 1, 3, .inr (.inl (fb0 0)))) :: ((r0 23), .inl (ca 1, 3, .inr (.inl (fb0 1)))) :: ((r0 24), .inl (ca 3, 3, .inl (fa0 21))) :: ((r0 25), .inl (ca 0, 3, .inl (fa0 22))) :: ((r0 26), .inl (ca 0, 3, .inl (fa0 23))) :: ((r0 27), .inl (ca 0, 810, .inl (fa0 24))) :: ((r0 28), .inl (ca 3, 810, .inl (fa0 25))) :: ((r0 29), .inl (ca 1, 810, .inr (.inl (fb0 2)))) :: ((r0 30), .inl (ca 0, 810, .inl (fa0 26))) :: ((r0 31), .inl (ca 0, 3, .inl (fa0 27))) :: ((r0 32), .inl (ca 0, 60, .inl (fa0 28))) :: ((r0 33), .inl (ca 0, 4, .inl (fa0 29))) :: rest) := hD
  have hl := lv_entry ([.ref (r0 0), .int p1, .int p2]) (n := 4) (Nat.le_of_ble_eq_true rfl)
  rw [lg_entry_eq]
  generalize (lg_sl ([.ref (r0 0), .int p1, .int p2]) ++ List.replicate (4 - (lg_sl ([.ref (r0 0), .int p1, .int p2])).length) Slot.unset).toArray = ls at hl ⊢
  have hl : lv_has ls 4 [(0, .ref (r0 0)), (1, .int p1), (2, .int p2)] := hl
  generalize hQ9 : MQ below _ _ s 0 0 A = Q9
  refine lv_iconst (v := 3) hx hb dX9_hangsMerged_0 (by decide) ?_
  refine lv_iload_n hx hb dX9_hangsMerged_1 rfl (lv_at hl 2 rfl) ?_
  refine lv_imul hx hb dX9_hangsMerged_2 ?_
  refine lv_topi (fun t1 et1 => ?_)
  try have ht1 : t1.toInt = 3 * p2.toInt := z_mul et1 (by decide) rfl (by omega -splitDisjunctions) (by omega -splitDisjunctions)
  refine lv_istore_n (lv' := [(3, .int t1), (0, .ref (r0 0)), (1, .int p1), (2, .int p2)]) hx hb dX9_hangsMerged_3 rfl hl (by decide) rfl (fun ls hl => ?_)
  have J4_2 : ∀ (n2 : Nat) (x3_2 : Int32) (ls : Array Slot) (hl : lv_has ls 4 [(0, .ref (r0 0)), (1, .int p1), (2, .int p2), (3, .int x3_2)]) (hf2_0 : 3 * p2.toInt ≤ x3_2.toInt ∧ x3_2.toInt ≤ 3 * p2.toInt + 3), (3 * p2.toInt + 4 - x3_2.toInt).toNat < n2 → W p l e (headSpec wsX9_hangsMerged ({ frames := 0, cells := 0, slots := 0, locals := 0 })).room s m ([.ref (r0 0), .int p1, .int p2] : List Value).toArray below meth c H [] 0 0 Q9 (F0 m 4 ls []) := by
    intro n2
    induction n2 with
    | zero => intro x3_2 ls hl hf2_0 hn9; exact absurd hn9 (Nat.not_lt_zero _)
    | succ n2 ih2 =>
      intro x3_2 ls hl hf2_0 hn9
      refine lv_iload_n hx hb dX9_hangsMerged_4 rfl (lv_at hl 3 rfl) ?_
      refine lv_iconst (v := 3) hx hb dX9_hangsMerged_5 (by decide) ?_
      refine lv_iload_n hx hb dX9_hangsMerged_6 rfl (lv_at hl 2 rfl) ?_
      refine lv_imul hx hb dX9_hangsMerged_7 ?_
      refine lv_topi (fun t3 et3 => ?_)
      try have ht3 : t3.toInt = 3 * p2.toInt := z_mul et3 (by decide) rfl (by omega -splitDisjunctions) (by omega -splitDisjunctions)
      refine lv_aload_n hx hb dX9_hangsMerged_8 rfl (lv_at hl 0 rfl) ?_
      refine va_get (D := D) (ci := 9) (v := .ref (r0 10)) (C := RX9) (T := TX9) (N := 44) hx hb hts inX9 hown hK hP 0 rfl rfl 19 (by decide) lk42 (fun _ h9 => h9) rfl dX9_hangsMerged_9 ?_
      refine lv_iload_n hx hb dX9_hangsMerged_12 rfl (lv_at hl 2 rfl) ?_
      have hi4 : vp_in p2 60 := z_in (i := p2.toInt) rfl (by omega) (by omega)
      refine va_iald hx hb hK hP 10 0 rfl rfl hi4 dX9_hangsMerged_13 ?_
      refine lv_topi (fun t5 et5 => ?_)
      have ht5 := z_at hv0a9 et5
      refine lv_iadd hx hb dX9_hangsMerged_14 ?_
      refine lv_topi (fun t6 et6 => ?_)
      try have ht6 : t6.toInt = t3.toInt + t5.toInt := z_add et6 rfl rfl (by omega -splitDisjunctions) (by omega -splitDisjunctions)
      refine lv_icmp_ge (tgt := 46) hx hb dX9_hangsMerged_15 (by decide) (fun c7 => ?_) (fun c7 => ?_)
      ·
        have c7 := z_le (i := t6.toInt) (j := x3_2.toInt) rfl rfl c7
        refine lv_iconst (v := 1) hx hb dX9_hangsMerged_46 (by decide) ?_
        subst hQ9
        refine lv_topi (fun t8 et8 => ?_)
        have ht8 : t8.toInt = 1 := by rw [et8]; decide
        have hq9 : 0 ≤ t8.toInt ∧ t8.toInt ≤ 1 := by omega
        have hz10 : narrow .boolean (.int t8) = .int t8 := z_nz (by constructor <;> omega)
        exact W.zret (v := t8) hx hb hr hz10 (fun t ht hW => ⟨⟨t8, (), rfl, hq9, ⟨by rw [ht]; exact hP, hD⟩⟩, hS.F ht⟩) hS.2.2 dX9_hangsMerged_47
      ·
        have c7 := z_nle (i := t6.toInt) (j := x3_2.toInt) rfl rfl c7
        refine lv_aload_n hx hb dX9_hangsMerged_18 rfl (lv_at hl 0 rfl) ?_
        refine va_get (D := D) (ci := 9) (v := .ref (r0 14)) (C := RX9) (T := TX9) (N := 44) hx hb hts inX9 hown hK hP 0 rfl rfl 23 (by decide) lk54 (fun _ h9 => h9) rfl dX9_hangsMerged_19 ?_
        refine lv_bipush (v := 60) hx hb dX9_hangsMerged_22 (by decide) ?_
        refine lv_iload_n hx hb dX9_hangsMerged_24 rfl (lv_at hl 1 rfl) ?_
        refine lv_imul hx hb dX9_hangsMerged_25 ?_
        refine lv_topi (fun t11 et11 => ?_)
        try have ht11 : t11.toInt = 60 * p1.toInt := z_mul et11 (by decide) rfl (by omega -splitDisjunctions) (by omega -splitDisjunctions)
        refine lv_aload_n hx hb dX9_hangsMerged_26 rfl (lv_at hl 0 rfl) ?_
        refine va_get (D := D) (ci := 9) (v := .ref (r0 9)) (C := RX9) (T := TX9) (N := 44) hx hb hts inX9 hown hK hP 0 rfl rfl 18 (by decide) lk39 (fun _ h9 => h9) rfl dX9_hangsMerged_27 ?_
        refine lv_iload_n hx hb dX9_hangsMerged_30 rfl (lv_at hl 3 rfl) ?_
        have hi12 : vp_in x3_2 180 := z_in (i := x3_2.toInt) rfl (by omega) (by omega)
        refine va_iald hx hb hK hP 9 0 rfl rfl hi12 dX9_hangsMerged_31 ?_
        refine lv_topi (fun t13 et13 => ?_)
        have ht13 := z_at hv0a8 et13
        refine lv_iadd hx hb dX9_hangsMerged_32 ?_
        refine lv_topi (fun t14 et14 => ?_)
        try have ht14 : t14.toInt = t11.toInt + t13.toInt := z_add et14 rfl rfl (by omega -splitDisjunctions) (by omega -splitDisjunctions)
        have hi15 : vp_in t14 180 := z_in (i := t14.toInt) rfl (by omega) (by omega)
        refine va_iald hx hb hK hP 14 0 rfl rfl hi15 dX9_hangsMerged_33 ?_
        refine lv_topi (fun t16 et16 => ?_)
        refine lv_iconst (v := (-1)) hx hb dX9_hangsMerged_34 (by decide) ?_
        refine lv_icmp_ne (tgt := 40) hx hb dX9_hangsMerged_35 (by decide) (fun c17 => ?_) (fun c17 => ?_)
        ·
          have c17 := z_ne (i := t16.toInt) (j := (-1)) rfl (by decide) c17
          obtain ⟨t18, et18⟩ : ∃ y : Int32, y = x3_2 + 1 := ⟨_, rfl⟩
          try have ht18 : t18.toInt = x3_2.toInt + 1 := z_add et18 rfl (by decide) (by omega -splitDisjunctions) (by omega -splitDisjunctions)
          refine lv_iinc (v := t18) (lv' := [(3, .int t18), (0, .ref (r0 0)), (1, .int p1), (2, .int p2)]) hx hb dX9_hangsMerged_40 hl (k := 3) rfl (by rw [et18]; rfl) (by decide) rfl (fun ls hl => ?_)
          refine lv_goto (tgt := 4) hx hb dX9_hangsMerged_43 (by decide) ?_
          have hj19 : 3 * p2.toInt ≤ t18.toInt ∧ t18.toInt ≤ 3 * p2.toInt + 3 := by omega
          have hm20 : (3 * p2.toInt + 4 - t18.toInt).toNat < n2 := by omega
          exact ih2 t18 ls (lv_sub hl [1, 2, 3, 0] rfl) hj19 hm20
        ·
          have c17 := z_eq (i := t16.toInt) (j := (-1)) rfl (by decide) c17
          refine lv_iconst (v := 0) hx hb dX9_hangsMerged_38 (by decide) ?_
          subst hQ9
          refine lv_topi (fun t21 et21 => ?_)
          have ht21 : t21.toInt = 0 := by rw [et21]; decide
          have hq22 : 0 ≤ t21.toInt ∧ t21.toInt ≤ 1 := by omega
          have hz23 : narrow .boolean (.int t21) = .int t21 := z_nz (by constructor <;> omega)
          exact W.zret (v := t21) hx hb hr hz23 (fun t ht hW => ⟨⟨t21, (), rfl, hq22, ⟨by rw [ht]; exact hP, hD⟩⟩, hS.F ht⟩) hS.2.2 dX9_hangsMerged_39
  have hj24 : 3 * p2.toInt ≤ t1.toInt ∧ t1.toInt ≤ 3 * p2.toInt + 3 := by omega
  exact J4_2 ((3 * p2.toInt + 4 - t1.toInt).toNat + 1) t1 ls (lv_sub hl [1, 2, 3, 0] rfl) hj24 (Nat.lt_succ_self _)

set_option maxHeartbeats 8000000 in
set_option maxRecDepth 100000 in
theorem c_X9_isBorn (l : Launch) (D : va_G) (ca : Nat → ClassId) (sa : Nat → Nat) (A : Nat → Prop) (rest : va_W) (r0 : Nat → Nat) (fi0 : Nat → Int32) (fl0 : Nat → Int64) (fa0 : Nat → Nat → Int32) (fb0 : Nat → Nat → Int64) (hv0 : Ok_MOD fi0 fa0) (p1 : Int32) (p2 : Int32) (p3 : Int32) (hpre0 : 0 ≤ p1.toInt ∧ p1.toInt ≤ 2) (hpre1 : 0 ≤ p2.toInt ∧ p2.toInt ≤ 59) : Met l yX9_isBorn wsX9_isBorn ({ frames := 0, cells := 0, slots := 0, locals := 0 }) (va_Pc [.ref (r0 0), .int p1, .int p2, .int p3] (zPre D ca sa A (w_MOD ca r0 fi0 fl0 fa0 fb0 (rest)))) (va_Qv (fun (u : zS) => Ok_MOD (zx [] fi0 u.1) (zx [10, 11, 12] fa0 u.2.2.1)) (fun u t => zPost D A (w_MOD ca r0 (zx [] fi0 u.1) (zx [] fl0 u.2.1) (zx [10, 11, 12] fa0 u.2.2.1) (zx [] fb0 u.2.2.2) (rest)) t) A) 0 0 A := by
  refine Met.ofW (cc := cX9_isBorn) (maxL := 5) (ret := none) (by decide) rfl ?_
  intro p e s m args below meth c s₁ B hml hv9
  obtain ⟨rfl, hE, hP, hD⟩ := hv9
  have hx := B.exec
  have hb := B.bytes
  have hr := B.returns
  have hts := atoms_spec (ws := wsX9_isBorn) B.pre
  have hown : s.vm.findClass RX9 = some m.cls := findClass_of_methodNamed B.named
  have hlocks := B.notSynchronized
  have hK := hE.1
  have hF : CallFix p m c cX9_isBorn 5 s _ wsX9_isBorn RX9 := ⟨hx, hb, hml, hown, hts⟩
  have hS : va_S A s.heap s.heap [] := va_S.rf
  have lk45 := hts (.fieldLink RX9 45 "BranchPlayModel" "born" "[I") (by decide +kernel)
  have inX9 : ∀ w ∈ wsX90, w ∈ wsX9_isBorn := by decide +kernel
  have lk48 := hts (.fieldLink RX9 48 "BranchPlayModel" "ready" "[I") (by decide +kernel)
  have lk27 := hts (.fieldLink RX9 27 "BranchPlayModel" "sizes" "[I") (by decide +kernel)
  have lk51 := hts (.fieldLink RX9 51 "BranchPlayModel" "base" "[I") (by decide +kernel)
  have lk75 := hts (.fieldLink RX9 75 "BranchPlayModel" "merges" "[I") (by decide +kernel)
  obtain ⟨⟨hv0i0, hv0j0⟩, ⟨hv0i1, hv0j1⟩, ⟨hv0i5, hv0j5⟩, ⟨hv0i9, hv0j9⟩, hv0a6, hv0a8, hv0a9, hv0a23, hv0a27, hv0a28, hv0x0, hv0y0⟩ := hv0
  generalize hHe : s.heap = H at hP
  have hS : va_S A s.heap H [] := by rw [← hHe]; exact hS
  have hP : va_P D vwCl (((r0 0), .inr (9, [.ref (r0 1), .int (fi0 0), .int (fi0 1), .int (fi0 2), .int (fi0 3), .int (fi0 4), .int (fi0 5), .int (fi0 6), .int (fi0 7), .int (fi0 8), .ref (r0 2), .int (fi0 9), .ref (r0 3), .ref (r0 4), .ref (r0 5), .ref (r0 6), .ref (r0 7), .ref (r0 8), .ref (r0 9), .ref (r0 10), .ref (r0 11), .ref (r0 12), .ref (r0 13), .ref (r0 14), .ref (r0 15), .ref (r0 16), .ref (r0 17), .ref (r0 18), .ref (r0 19), .ref (r0 20), .ref (r0 21), .ref (r0 22), .ref (r0 23), .ref (r0 24), .ref (r0 25), .ref (r0 26), .ref (r0 27), .ref (r0 28), .ref (r0 29), .ref (r0 30), .ref (r0 31), .ref (r0 32), .int (fi0 10), .ref (r0 33)])) :: ((r0 1), .inl (ca 2, 600, .inl (fa0 0))) :: ((r0 2), .inl (ca 0, 48, .inl (fa0 1))) :: ((r0 3), .inl (ca 0, 60, .inl (fa0 2))) :: ((r0 4), .inl (ca 0, 60, .inl (fa0 3))) :: ((r0 5), .inl (ca 0, 60, .inl (fa0 4))) :: ((r0 6), .inl (ca 0, 60, .inl (fa0 5))) :: ((r0 7), .inl (ca 0, 60, .inl (fa0 6))) :: ((r0 8), .inl (ca 0, 60, .inl (fa0 7))) :: ((r0 9), .inl (ca 0, 180, .inl (fa0 8))) :: ((r0 10), .inl (ca 0, 60, .inl (fa0 9))) :: ((r0 11), .inl (ca 0, 180, .inl (fa0 10))) :: ((r0 12), .inl (ca 0, 180, .inl (fa0 11))) :: ((r0 13), .inl (ca 0, 180, .inl (fa0 12))) :: ((r0 14), .inl (ca 0, 180, .inl (fa0 13))) :: ((r0 15), .inl (ca 0, 180, .inl (fa0 14))) :: ((r0 16), .inl (ca 0, 180, .inl (fa0 15))) :: ((r0 17), .inl (ca 0, 180, .inl (fa0 16))) :: ((r0 18), .inl (ca 0, 180, .inl (fa0 17))) :: ((r0 19), .inl (ca 0, 180, .inl (fa0 18))) :: ((r0 20), .inl (ca 0, 180, .inl (fa0 19))) :: ((r0 21), .inl (ca 0, 3, .inl (fa0 20))) :: ((r0 22), .inl (ca 1, 3, .inr (.inl (fb0 0)))) :: ((r0 23), .inl (ca 1, 3, .inr (.inl (fb0 1)))) :: ((r0 24), .inl (ca 3, 3, .inl (fa0 21))) :: ((r0 25), .inl (ca 0, 3, .inl (fa0 22))) :: ((r0 26), .inl (ca 0, 3, .inl (fa0 23))) :: ((r0 27), .inl (ca 0, 810, .inl (fa0 24))) :: ((r0 28), .inl (ca 3, 810, .inl (fa0 25))) :: ((r0 29), .inl (ca 1, 810, .inr (.inl (fb0 2)))) :: ((r0 30), .inl (ca 0, 810, .inl (fa0 26))) :: ((r0 31), .inl (ca 0, 3, .inl (fa0 27))) :: ((r0 32), .inl (ca 0, 60, .inl (fa0 28))) :: ((r0 33), .inl (ca 0, 4, .inl (fa0 29))) :: rest) H := hP
  have hD : va_D A (((r0 0), .inr (9, [.ref (r0 1), .int (fi0 0), .int (fi0 1), .int (fi0 2), .int (fi0 3), .int (fi0 4), .int (fi0 5), .int (fi0 6), .int (fi0 7), .int (fi0 8), .ref (r0 2), .int (fi0 9), .ref (r0 3), .ref (r0 4), .ref (r0 5), .ref (r0 6), .ref (r0 7), .ref (r0 8), .ref (r0 9), .ref (r0 10), .ref (r0 11), .ref (r0 12), .ref (r0 13), .ref (r0 14), .ref (r0 15), .ref (r0 16), .ref (r0 17), .ref (r0 18), .ref (r0 19), .ref (r0 20), .ref (r0 21), .ref (r0 22), .ref (r0 23), .ref (r0 24), .ref (r0 25), .ref (r0 26), .ref (r0 27), .ref (r0 28), .ref (r0 29), .ref (r0 30), .ref (r0 31), .ref (r0 32), .int (fi0 10), .ref (r0 33)])) :: ((r0 1), .inl (ca 2, 600, .inl (fa0 0))) :: ((r0 2), .inl (ca 0, 48, .inl (fa0 1))) :: ((r0 3), .inl (ca 0, 60, .inl (fa0 2))) :: ((r0 4), .inl (ca 0, 60, .inl (fa0 3))) :: ((r0 5), .inl (ca 0, 60, .inl (fa0 4))) :: ((r0 6), .inl (ca 0, 60, .inl (fa0 5))) :: ((r0 7), .inl (ca 0, 60, .inl (fa0 6))) :: ((r0 8), .inl (ca 0, 60, .inl (fa0 7))) :: ((r0 9), .inl (ca 0, 180, .inl (fa0 8))) :: ((r0 10), .inl (ca 0, 60, .inl (fa0 9))) :: ((r0 11), .inl (ca 0, 180, .inl (fa0 10))) :: ((r0 12), .inl (ca 0, 180, .inl (fa0 11))) :: ((r0 13), .inl (ca 0, 180, .inl (fa0 12))) :: ((r0 14), .inl (ca 0, 180, .inl (fa0 13))) :: ((r0 15), .inl (ca 0, 180, .inl (fa0 14))) :: ((r0 16), .inl (ca 0, 180, .inl (fa0 15))) :: ((r0 17), .inl (ca 0, 180, .inl (fa0 16))) :: ((r0 18), .inl (ca 0, 180, .inl (fa0 17))) :: ((r0 19), .inl (ca 0, 180, .inl (fa0 18))) :: ((r0 20), .inl (ca 0, 180, .inl (fa0 19))) :: ((r0 21), .inl (ca 0, 3, .inl (fa0 20))) :: ((r0 22), .inl (ca 1, 3, .inr (.inl (fb0 0)))) :: ((r0 23), .inl (ca 1, 3, .inr (.inl (fb0 1)))) :: ((r0 24), .inl (ca 3, 3, .inl (fa0 21))) :: ((r0 25), .inl (ca 0, 3, .inl (fa0 22))) :: ((r0 26), .inl (ca 0, 3, .inl (fa0 23))) :: ((r0 27), .inl (ca 0, 810, .inl (fa0 24))) :: ((r0 28), .inl (ca 3, 810, .inl (fa0 25))) :: ((r0 29), .inl (ca 1, 810, .inr (.inl (fb0 2)))) :: ((r0 30), .inl (ca 0, 810, .inl (fa0 26))) :: ((r0 31), .inl (ca 0, 3, .inl (fa0 27))) :: ((r0 32), .inl (ca 0, 60, .inl (fa0 28))) :: ((r0 33), .inl (ca 0, 4, .inl (fa0 29))) :: rest) := hD
  have hl := lv_entry ([.ref (r0 0), .int p1, .int p2, .int p3]) (n := 5) (Nat.le_of_ble_eq_true rfl)
  rw [lg_entry_eq]
  generalize (lg_sl ([.ref (r0 0), .int p1, .int p2, .int p3]) ++ List.replicate (5 - (lg_sl ([.ref (r0 0), .int p1, .int p2, .int p3])).length) Slot.unset).toArray = ls at hl ⊢
  have hl : lv_has ls 5 [(0, .ref (r0 0)), (1, .int p1), (2, .int p2), (3, .int p3)] := hl
  generalize hQ9 : MQ below _ _ s 0 0 A = Q9
  refine lv_bipush (v := 60) hx hb dX9_isBorn_0 (by decide) ?_
  refine lv_iload_n hx hb dX9_isBorn_2 rfl (lv_at hl 1 rfl) ?_
  refine lv_imul hx hb dX9_isBorn_3 ?_
  refine lv_topi (fun t1 et1 => ?_)
  try have ht1 : t1.toInt = 60 * p1.toInt := z_mul et1 (by decide) rfl (by omega -splitDisjunctions) (by omega -splitDisjunctions)
  refine lv_iload_n hx hb dX9_isBorn_4 rfl (lv_at hl 2 rfl) ?_
  refine lv_iadd hx hb dX9_isBorn_5 ?_
  refine lv_topi (fun t2 et2 => ?_)
  try have ht2 : t2.toInt = t1.toInt + p2.toInt := z_add et2 rfl rfl (by omega -splitDisjunctions) (by omega -splitDisjunctions)
  refine lv_istore (lv' := [(4, .int t2), (0, .ref (r0 0)), (1, .int p1), (2, .int p2), (3, .int p3)]) hx hb dX9_isBorn_6 hl (by decide) rfl (fun ls hl => ?_)
  refine lv_aload_n hx hb dX9_isBorn_8 rfl (lv_at hl 1 rfl) ?_
  refine va_get (D := D) (ci := 9) (v := .ref (r0 11)) (C := RX9) (T := TX9) (N := 44) hx hb hts inX9 hown hK hP 0 rfl rfl 20 (by decide) lk45 (fun _ h9 => h9) rfl dX9_isBorn_9 ?_
  refine lv_iload hx hb dX9_isBorn_12 (lv_at hl 0 rfl) ?_
  refine lv_iload_n hx hb dX9_isBorn_14 rfl (lv_at hl 4 rfl) ?_
  have hi3 : vp_in t2 180 := z_in (i := t2.toInt) rfl (by omega) (by omega)
  refine va_iast hx hb hK hP hD hS 11 0 rfl rfl hi3 dX9_isBorn_15 (fun H locs hP hD hS => ?_)
  generalize eg4 : upd (fa0 10) t2.toNatClampNeg p3 = g4 at hP hD
  have hP : va_P D vwCl (((r0 0), .inr (9, [.ref (r0 1), .int (fi0 0), .int (fi0 1), .int (fi0 2), .int (fi0 3), .int (fi0 4), .int (fi0 5), .int (fi0 6), .int (fi0 7), .int (fi0 8), .ref (r0 2), .int (fi0 9), .ref (r0 3), .ref (r0 4), .ref (r0 5), .ref (r0 6), .ref (r0 7), .ref (r0 8), .ref (r0 9), .ref (r0 10), .ref (r0 11), .ref (r0 12), .ref (r0 13), .ref (r0 14), .ref (r0 15), .ref (r0 16), .ref (r0 17), .ref (r0 18), .ref (r0 19), .ref (r0 20), .ref (r0 21), .ref (r0 22), .ref (r0 23), .ref (r0 24), .ref (r0 25), .ref (r0 26), .ref (r0 27), .ref (r0 28), .ref (r0 29), .ref (r0 30), .ref (r0 31), .ref (r0 32), .int (fi0 10), .ref (r0 33)])) :: ((r0 1), .inl (ca 2, 600, .inl (fa0 0))) :: ((r0 2), .inl (ca 0, 48, .inl (fa0 1))) :: ((r0 3), .inl (ca 0, 60, .inl (fa0 2))) :: ((r0 4), .inl (ca 0, 60, .inl (fa0 3))) :: ((r0 5), .inl (ca 0, 60, .inl (fa0 4))) :: ((r0 6), .inl (ca 0, 60, .inl (fa0 5))) :: ((r0 7), .inl (ca 0, 60, .inl (fa0 6))) :: ((r0 8), .inl (ca 0, 60, .inl (fa0 7))) :: ((r0 9), .inl (ca 0, 180, .inl (fa0 8))) :: ((r0 10), .inl (ca 0, 60, .inl (fa0 9))) :: ((r0 11), .inl (ca 0, 180, .inl g4)) :: ((r0 12), .inl (ca 0, 180, .inl (fa0 11))) :: ((r0 13), .inl (ca 0, 180, .inl (fa0 12))) :: ((r0 14), .inl (ca 0, 180, .inl (fa0 13))) :: ((r0 15), .inl (ca 0, 180, .inl (fa0 14))) :: ((r0 16), .inl (ca 0, 180, .inl (fa0 15))) :: ((r0 17), .inl (ca 0, 180, .inl (fa0 16))) :: ((r0 18), .inl (ca 0, 180, .inl (fa0 17))) :: ((r0 19), .inl (ca 0, 180, .inl (fa0 18))) :: ((r0 20), .inl (ca 0, 180, .inl (fa0 19))) :: ((r0 21), .inl (ca 0, 3, .inl (fa0 20))) :: ((r0 22), .inl (ca 1, 3, .inr (.inl (fb0 0)))) :: ((r0 23), .inl (ca 1, 3, .inr (.inl (fb0 1)))) :: ((r0 24), .inl (ca 3, 3, .inl (fa0 21))) :: ((r0 25), .inl (ca 0, 3, .inl (fa0 22))) :: ((r0 26), .inl (ca 0, 3, .inl (fa0 23))) :: ((r0 27), .inl (ca 0, 810, .inl (fa0 24))) :: ((r0 28), .inl (ca 3, 810, .inl (fa0 25))) :: ((r0 29), .inl (ca 1, 810, .inr (.inl (fb0 2)))) :: ((r0 30), .inl (ca 0, 810, .inl (fa0 26))) :: ((r0 31), .inl (ca 0, 3, .inl (fa0 27))) :: ((r0 32), .inl (ca 0, 60, .inl (fa0 28))) :: ((r0 33), .inl (ca 0, 4, .inl (fa0 29))) :: rest) H := hP
  have hD : va_D A (((r0 0), .inr (9, [.ref (r0 1), .int (fi0 0), .int (fi0 1), .int (fi0 2), .int (fi0 3), .int (fi0 4), .int (fi0 5), .int (fi0 6), .int (fi0 7), .int (fi0 8), .ref (r0 2), .int (fi0 9), .ref (r0 3), .ref (r0 4), .ref (r0 5), .ref (r0 6), .ref (r0 7), .ref (r0 8), .ref (r0 9), .ref (r0 10), .ref (r0 11), .ref (r0 12), .ref (r0 13), .ref (r0 14), .ref (r0 15), .ref (r0 16), .ref (r0 17), .ref (r0 18), .ref (r0 19), .ref (r0 20), .ref (r0 21), .ref (r0 22), .ref (r0 23), .ref (r0 24), .ref (r0 25), .ref (r0 26), .ref (r0 27), .ref (r0 28), .ref (r0 29), .ref (r0 30), .ref (r0 31), .ref (r0 32), .int (fi0 10), .ref (r0 33)])) :: ((r0 1), .inl (ca 2, 600, .inl (fa0 0))) :: ((r0 2), .inl (ca 0, 48, .inl (fa0 1))) :: ((r0 3), .inl (ca 0, 60, .inl (fa0 2))) :: ((r0 4), .inl (ca 0, 60, .inl (fa0 3))) :: ((r0 5), .inl (ca 0, 60, .inl (fa0 4))) :: ((r0 6), .inl (ca 0, 60, .inl (fa0 5))) :: ((r0 7), .inl (ca 0, 60, .inl (fa0 6))) :: ((r0 8), .inl (ca 0, 60, .inl (fa0 7))) :: ((r0 9), .inl (ca 0, 180, .inl (fa0 8))) :: ((r0 10), .inl (ca 0, 60, .inl (fa0 9))) :: ((r0 11), .inl (ca 0, 180, .inl g4)) :: ((r0 12), .inl (ca 0, 180, .inl (fa0 11))) :: ((r0 13), .inl (ca 0, 180, .inl (fa0 12))) :: ((r0 14), .inl (ca 0, 180, .inl (fa0 13))) :: ((r0 15), .inl (ca 0, 180, .inl (fa0 14))) :: ((r0 16), .inl (ca 0, 180, .inl (fa0 15))) :: ((r0 17), .inl (ca 0, 180, .inl (fa0 16))) :: ((r0 18), .inl (ca 0, 180, .inl (fa0 17))) :: ((r0 19), .inl (ca 0, 180, .inl (fa0 18))) :: ((r0 20), .inl (ca 0, 180, .inl (fa0 19))) :: ((r0 21), .inl (ca 0, 3, .inl (fa0 20))) :: ((r0 22), .inl (ca 1, 3, .inr (.inl (fb0 0)))) :: ((r0 23), .inl (ca 1, 3, .inr (.inl (fb0 1)))) :: ((r0 24), .inl (ca 3, 3, .inl (fa0 21))) :: ((r0 25), .inl (ca 0, 3, .inl (fa0 22))) :: ((r0 26), .inl (ca 0, 3, .inl (fa0 23))) :: ((r0 27), .inl (ca 0, 810, .inl (fa0 24))) :: ((r0 28), .inl (ca 3, 810, .inl (fa0 25))) :: ((r0 29), .inl (ca 1, 810, .inr (.inl (fb0 2)))) :: ((r0 30), .inl (ca 0, 810, .inl (fa0 26))) :: ((r0 31), .inl (ca 0, 3, .inl (fa0 27))) :: ((r0 32), .inl (ca 0, 60, .inl (fa0 28))) :: ((r0 33), .inl (ca 0, 4, .inl (fa0 29))) :: rest) := hD
  refine lv_aload_n hx hb dX9_isBorn_16 rfl (lv_at hl 1 rfl) ?_
  refine va_get (D := D) (ci := 9) (v := .ref (r0 12)) (C := RX9) (T := TX9) (N := 44) hx hb hts inX9 hown hK hP 0 rfl rfl 21 (by decide) lk48 (fun _ h9 => h9) rfl dX9_isBorn_17 ?_
  refine lv_iload hx hb dX9_isBorn_20 (lv_at hl 0 rfl) ?_
  refine lv_iload_n hx hb dX9_isBorn_22 rfl (lv_at hl 4 rfl) ?_
  refine lv_aload_n hx hb dX9_isBorn_23 rfl (lv_at hl 1 rfl) ?_
  refine va_get (D := D) (ci := 9) (v := .ref (r0 5)) (C := RX9) (T := TX9) (N := 44) hx hb hts inX9 hown hK hP 0 rfl rfl 14 (by decide) lk27 (fun _ h9 => h9) rfl dX9_isBorn_24 ?_
  refine lv_iload_n hx hb dX9_isBorn_27 rfl (lv_at hl 3 rfl) ?_
  have hi5 : vp_in p2 60 := z_in (i := p2.toInt) rfl (by omega) (by omega)
  refine va_iald hx hb hK hP 5 0 rfl rfl hi5 dX9_isBorn_28 ?_
  refine lv_topi (fun t6 et6 => ?_)
  refine lv_iadd hx hb dX9_isBorn_29 ?_
  refine lv_topi (fun t7 et7 => ?_)
  try have ht7 : t7.toInt = p3.toInt + t6.toInt := z_add et7 rfl rfl (by omega -splitDisjunctions) (by omega -splitDisjunctions)
  have hi8 : vp_in t2 180 := z_in (i := t2.toInt) rfl (by omega) (by omega)
  refine va_iast hx hb hK hP hD hS 12 0 rfl rfl hi8 dX9_isBorn_30 (fun H locs hP hD hS => ?_)
  generalize eg9 : upd (fa0 11) t2.toNatClampNeg t7 = g9 at hP hD
  have hP : va_P D vwCl (((r0 0), .inr (9, [.ref (r0 1), .int (fi0 0), .int (fi0 1), .int (fi0 2), .int (fi0 3), .int (fi0 4), .int (fi0 5), .int (fi0 6), .int (fi0 7), .int (fi0 8), .ref (r0 2), .int (fi0 9), .ref (r0 3), .ref (r0 4), .ref (r0 5), .ref (r0 6), .ref (r0 7), .ref (r0 8), .ref (r0 9), .ref (r0 10), .ref (r0 11), .ref (r0 12), .ref (r0 13), .ref (r0 14), .ref (r0 15), .ref (r0 16), .ref (r0 17), .ref (r0 18), .ref (r0 19), .ref (r0 20), .ref (r0 21), .ref (r0 22), .ref (r0 23), .ref (r0 24), .ref (r0 25), .ref (r0 26), .ref (r0 27), .ref (r0 28), .ref (r0 29), .ref (r0 30), .ref (r0 31), .ref (r0 32), .int (fi0 10), .ref (r0 33)])) :: ((r0 1), .inl (ca 2, 600, .inl (fa0 0))) :: ((r0 2), .inl (ca 0, 48, .inl (fa0 1))) :: ((r0 3), .inl (ca 0, 60, .inl (fa0 2))) :: ((r0 4), .inl (ca 0, 60, .inl (fa0 3))) :: ((r0 5), .inl (ca 0, 60, .inl (fa0 4))) :: ((r0 6), .inl (ca 0, 60, .inl (fa0 5))) :: ((r0 7), .inl (ca 0, 60, .inl (fa0 6))) :: ((r0 8), .inl (ca 0, 60, .inl (fa0 7))) :: ((r0 9), .inl (ca 0, 180, .inl (fa0 8))) :: ((r0 10), .inl (ca 0, 60, .inl (fa0 9))) :: ((r0 11), .inl (ca 0, 180, .inl g4)) :: ((r0 12), .inl (ca 0, 180, .inl g9)) :: ((r0 13), .inl (ca 0, 180, .inl (fa0 12))) :: ((r0 14), .inl (ca 0, 180, .inl (fa0 13))) :: ((r0 15), .inl (ca 0, 180, .inl (fa0 14))) :: ((r0 16), .inl (ca 0, 180, .inl (fa0 15))) :: ((r0 17), .inl (ca 0, 180, .inl (fa0 16))) :: ((r0 18), .inl (ca 0, 180, .inl (fa0 17))) :: ((r0 19), .inl (ca 0, 180, .inl (fa0 18))) :: ((r0 20), .inl (ca 0, 180, .inl (fa0 19))) :: ((r0 21), .inl (ca 0, 3, .inl (fa0 20))) :: ((r0 22), .inl (ca 1, 3, .inr (.inl (fb0 0)))) :: ((r0 23), .inl (ca 1, 3, .inr (.inl (fb0 1)))) :: ((r0 24), .inl (ca 3, 3, .inl (fa0 21))) :: ((r0 25), .inl (ca 0, 3, .inl (fa0 22))) :: ((r0 26), .inl (ca 0, 3, .inl (fa0 23))) :: ((r0 27), .inl (ca 0, 810, .inl (fa0 24))) :: ((r0 28), .inl (ca 3, 810, .inl (fa0 25))) :: ((r0 29), .inl (ca 1, 810, .inr (.inl (fb0 2)))) :: ((r0 30), .inl (ca 0, 810, .inl (fa0 26))) :: ((r0 31), .inl (ca 0, 3, .inl (fa0 27))) :: ((r0 32), .inl (ca 0, 60, .inl (fa0 28))) :: ((r0 33), .inl (ca 0, 4, .inl (fa0 29))) :: rest) H := hP
  have hD : va_D A (((r0 0), .inr (9, [.ref (r0 1), .int (fi0 0), .int (fi0 1), .int (fi0 2), .int (fi0 3), .int (fi0 4), .int (fi0 5), .int (fi0 6), .int (fi0 7), .int (fi0 8), .ref (r0 2), .int (fi0 9), .ref (r0 3), .ref (r0 4), .ref (r0 5), .ref (r0 6), .ref (r0 7), .ref (r0 8), .ref (r0 9), .ref (r0 10), .ref (r0 11), .ref (r0 12), .ref (r0 13), .ref (r0 14), .ref (r0 15), .ref (r0 16), .ref (r0 17), .ref (r0 18), .ref (r0 19), .ref (r0 20), .ref (r0 21), .ref (r0 22), .ref (r0 23), .ref (r0 24), .ref (r0 25), .ref (r0 26), .ref (r0 27), .ref (r0 28), .ref (r0 29), .ref (r0 30), .ref (r0 31), .ref (r0 32), .int (fi0 10), .ref (r0 33)])) :: ((r0 1), .inl (ca 2, 600, .inl (fa0 0))) :: ((r0 2), .inl (ca 0, 48, .inl (fa0 1))) :: ((r0 3), .inl (ca 0, 60, .inl (fa0 2))) :: ((r0 4), .inl (ca 0, 60, .inl (fa0 3))) :: ((r0 5), .inl (ca 0, 60, .inl (fa0 4))) :: ((r0 6), .inl (ca 0, 60, .inl (fa0 5))) :: ((r0 7), .inl (ca 0, 60, .inl (fa0 6))) :: ((r0 8), .inl (ca 0, 60, .inl (fa0 7))) :: ((r0 9), .inl (ca 0, 180, .inl (fa0 8))) :: ((r0 10), .inl (ca 0, 60, .inl (fa0 9))) :: ((r0 11), .inl (ca 0, 180, .inl g4)) :: ((r0 12), .inl (ca 0, 180, .inl g9)) :: ((r0 13), .inl (ca 0, 180, .inl (fa0 12))) :: ((r0 14), .inl (ca 0, 180, .inl (fa0 13))) :: ((r0 15), .inl (ca 0, 180, .inl (fa0 14))) :: ((r0 16), .inl (ca 0, 180, .inl (fa0 15))) :: ((r0 17), .inl (ca 0, 180, .inl (fa0 16))) :: ((r0 18), .inl (ca 0, 180, .inl (fa0 17))) :: ((r0 19), .inl (ca 0, 180, .inl (fa0 18))) :: ((r0 20), .inl (ca 0, 180, .inl (fa0 19))) :: ((r0 21), .inl (ca 0, 3, .inl (fa0 20))) :: ((r0 22), .inl (ca 1, 3, .inr (.inl (fb0 0)))) :: ((r0 23), .inl (ca 1, 3, .inr (.inl (fb0 1)))) :: ((r0 24), .inl (ca 3, 3, .inl (fa0 21))) :: ((r0 25), .inl (ca 0, 3, .inl (fa0 22))) :: ((r0 26), .inl (ca 0, 3, .inl (fa0 23))) :: ((r0 27), .inl (ca 0, 810, .inl (fa0 24))) :: ((r0 28), .inl (ca 3, 810, .inl (fa0 25))) :: ((r0 29), .inl (ca 1, 810, .inr (.inl (fb0 2)))) :: ((r0 30), .inl (ca 0, 810, .inl (fa0 26))) :: ((r0 31), .inl (ca 0, 3, .inl (fa0 27))) :: ((r0 32), .inl (ca 0, 60, .inl (fa0 28))) :: ((r0 33), .inl (ca 0, 4, .inl (fa0 29))) :: rest) := hD
  refine lv_aload_n hx hb dX9_isBorn_31 rfl (lv_at hl 1 rfl) ?_
  refine va_get (D := D) (ci := 9) (v := .ref (r0 13)) (C := RX9) (T := TX9) (N := 44) hx hb hts inX9 hown hK hP 0 rfl rfl 22 (by decide) lk51 (fun _ h9 => h9) rfl dX9_isBorn_32 ?_
  refine lv_iload hx hb dX9_isBorn_35 (lv_at hl 0 rfl) ?_
  refine lv_aload_n hx hb dX9_isBorn_37 rfl (lv_at hl 1 rfl) ?_
  refine va_get (D := D) (ci := 9) (v := .ref (r0 21)) (C := RX9) (T := TX9) (N := 44) hx hb hts inX9 hown hK hP 0 rfl rfl 30 (by decide) lk75 (fun _ h9 => h9) rfl dX9_isBorn_38 ?_
  refine lv_iload_n hx hb dX9_isBorn_41 rfl (lv_at hl 2 rfl) ?_
  have hi10 : vp_in p1 3 := z_in (i := p1.toInt) rfl (by omega) (by omega)
  refine va_iald hx hb hK hP 21 0 rfl rfl hi10 dX9_isBorn_42 ?_
  refine lv_topi (fun t11 et11 => ?_)
  have hi12 : vp_in t2 180 := z_in (i := t2.toInt) rfl (by omega) (by omega)
  refine va_iast hx hb hK hP hD hS 13 0 rfl rfl hi12 dX9_isBorn_43 (fun H locs hP hD hS => ?_)
  generalize eg13 : upd (fa0 12) t2.toNatClampNeg t11 = g13 at hP hD
  have hP : va_P D vwCl (((r0 0), .inr (9, [.ref (r0 1), .int (fi0 0), .int (fi0 1), .int (fi0 2), .int (fi0 3), .int (fi0 4), .int (fi0 5), .int (fi0 6), .int (fi0 7), .int (fi0 8), .ref (r0 2), .int (fi0 9), .ref (r0 3), .ref (r0 4), .ref (r0 5), .ref (r0 6), .ref (r0 7), .ref (r0 8), .ref (r0 9), .ref (r0 10), .ref (r0 11), .ref (r0 12), .ref (r0 13), .ref (r0 14), .ref (r0 15), .ref (r0 16), .ref (r0 17), .ref (r0 18), .ref (r0 19), .ref (r0 20), .ref (r0 21), .ref (r0 22), .ref (r0 23), .ref (r0 24), .ref (r0 25), .ref (r0 26), .ref (r0 27), .ref (r0 28), .ref (r0 29), .ref (r0 30), .ref (r0 31), .ref (r0 32), .int (fi0 10), .ref (r0 33)])) :: ((r0 1), .inl (ca 2, 600, .inl (fa0 0))) :: ((r0 2), .inl (ca 0, 48, .inl (fa0 1))) :: ((r0 3), .inl (ca 0, 60, .inl (fa0 2))) :: ((r0 4), .inl (ca 0, 60, .inl (fa0 3))) :: ((r0 5), .inl (ca 0, 60, .inl (fa0 4))) :: ((r0 6), .inl (ca 0, 60, .inl (fa0 5))) :: ((r0 7), .inl (ca 0, 60, .inl (fa0 6))) :: ((r0 8), .inl (ca 0, 60, .inl (fa0 7))) :: ((r0 9), .inl (ca 0, 180, .inl (fa0 8))) :: ((r0 10), .inl (ca 0, 60, .inl (fa0 9))) :: ((r0 11), .inl (ca 0, 180, .inl g4)) :: ((r0 12), .inl (ca 0, 180, .inl g9)) :: ((r0 13), .inl (ca 0, 180, .inl g13)) :: ((r0 14), .inl (ca 0, 180, .inl (fa0 13))) :: ((r0 15), .inl (ca 0, 180, .inl (fa0 14))) :: ((r0 16), .inl (ca 0, 180, .inl (fa0 15))) :: ((r0 17), .inl (ca 0, 180, .inl (fa0 16))) :: ((r0 18), .inl (ca 0, 180, .inl (fa0 17))) :: ((r0 19), .inl (ca 0, 180, .inl (fa0 18))) :: ((r0 20), .inl (ca 0, 180, .inl (fa0 19))) :: ((r0 21), .inl (ca 0, 3, .inl (fa0 20))) :: ((r0 22), .inl (ca 1, 3, .inr (.inl (fb0 0)))) :: ((r0 23), .inl (ca 1, 3, .inr (.inl (fb0 1)))) :: ((r0 24), .inl (ca 3, 3, .inl (fa0 21))) :: ((r0 25), .inl (ca 0, 3, .inl (fa0 22))) :: ((r0 26), .inl (ca 0, 3, .inl (fa0 23))) :: ((r0 27), .inl (ca 0, 810, .inl (fa0 24))) :: ((r0 28), .inl (ca 3, 810, .inl (fa0 25))) :: ((r0 29), .inl (ca 1, 810, .inr (.inl (fb0 2)))) :: ((r0 30), .inl (ca 0, 810, .inl (fa0 26))) :: ((r0 31), .inl (ca 0, 3, .inl (fa0 27))) :: ((r0 32), .inl (ca 0, 60, .inl (fa0 28))) :: ((r0 33), .inl (ca 0, 4, .inl (fa0 29))) :: rest) H := hP
  have hD : va_D A (((r0 0), .inr (9, [.ref (r0 1), .int (fi0 0), .int (fi0 1), .int (fi0 2), .int (fi0 3), .int (fi0 4), .int (fi0 5), .int (fi0 6), .int (fi0 7), .int (fi0 8), .ref (r0 2), .int (fi0 9), .ref (r0 3), .ref (r0 4), .ref (r0 5), .ref (r0 6), .ref (r0 7), .ref (r0 8), .ref (r0 9), .ref (r0 10), .ref (r0 11), .ref (r0 12), .ref (r0 13), .ref (r0 14), .ref (r0 15), .ref (r0 16), .ref (r0 17), .ref (r0 18), .ref (r0 19), .ref (r0 20), .ref (r0 21), .ref (r0 22), .ref (r0 23), .ref (r0 24), .ref (r0 25), .ref (r0 26), .ref (r0 27), .ref (r0 28), .ref (r0 29), .ref (r0 30), .ref (r0 31), .ref (r0 32), .int (fi0 10), .ref (r0 33)])) :: ((r0 1), .inl (ca 2, 600, .inl (fa0 0))) :: ((r0 2), .inl (ca 0, 48, .inl (fa0 1))) :: ((r0 3), .inl (ca 0, 60, .inl (fa0 2))) :: ((r0 4), .inl (ca 0, 60, .inl (fa0 3))) :: ((r0 5), .inl (ca 0, 60, .inl (fa0 4))) :: ((r0 6), .inl (ca 0, 60, .inl (fa0 5))) :: ((r0 7), .inl (ca 0, 60, .inl (fa0 6))) :: ((r0 8), .inl (ca 0, 60, .inl (fa0 7))) :: ((r0 9), .inl (ca 0, 180, .inl (fa0 8))) :: ((r0 10), .inl (ca 0, 60, .inl (fa0 9))) :: ((r0 11), .inl (ca 0, 180, .inl g4)) :: ((r0 12), .inl (ca 0, 180, .inl g9)) :: ((r0 13), .inl (ca 0, 180, .inl g13)) :: ((r0 14), .inl (ca 0, 180, .inl (fa0 13))) :: ((r0 15), .inl (ca 0, 180, .inl (fa0 14))) :: ((r0 16), .inl (ca 0, 180, .inl (fa0 15))) :: ((r0 17), .inl (ca 0, 180, .inl (fa0 16))) :: ((r0 18), .inl (ca 0, 180, .inl (fa0 17))) :: ((r0 19), .inl (ca 0, 180, .inl (fa0 18))) :: ((r0 20), .inl (ca 0, 180, .inl (fa0 19))) :: ((r0 21), .inl (ca 0, 3, .inl (fa0 20))) :: ((r0 22), .inl (ca 1, 3, .inr (.inl (fb0 0)))) :: ((r0 23), .inl (ca 1, 3, .inr (.inl (fb0 1)))) :: ((r0 24), .inl (ca 3, 3, .inl (fa0 21))) :: ((r0 25), .inl (ca 0, 3, .inl (fa0 22))) :: ((r0 26), .inl (ca 0, 3, .inl (fa0 23))) :: ((r0 27), .inl (ca 0, 810, .inl (fa0 24))) :: ((r0 28), .inl (ca 3, 810, .inl (fa0 25))) :: ((r0 29), .inl (ca 1, 810, .inr (.inl (fb0 2)))) :: ((r0 30), .inl (ca 0, 810, .inl (fa0 26))) :: ((r0 31), .inl (ca 0, 3, .inl (fa0 27))) :: ((r0 32), .inl (ca 0, 60, .inl (fa0 28))) :: ((r0 33), .inl (ca 0, 4, .inl (fa0 29))) :: rest) := hD
  subst hQ9
  have ho14 : (0 ≤ (fi0 0).toInt ∧ (fi0 0).toInt ≤ 600) ∧ (0 ≤ (fi0 1).toInt ∧ (fi0 1).toInt ≤ 600) ∧ (0 ≤ (fi0 5).toInt ∧ (fi0 5).toInt ≤ 600) ∧ (0 ≤ (fi0 9).toInt ∧ (fi0 9).toInt ≤ 60) ∧ z_rng (-1) 59 (fa0 6) ∧ z_rng 0 59 (fa0 8) ∧ z_rng 0 3 (fa0 9) ∧ z_rng 0 269 (fa0 23) ∧ z_rng 0 5 (fa0 27) ∧ z_rng 0 59 (fa0 28) ∧ ((fi0 2).toInt = 1 → 0 ≤ (fi0 3).toInt) ∧ zOkR (fa0 1) (fa0 27) := ⟨⟨by omega, by omega⟩, ⟨by omega, by omega⟩, ⟨by omega, by omega⟩, ⟨by omega, by omega⟩, hv0a6, hv0a8, hv0a9, hv0a23, hv0a27, hv0a28, by omega, hv0y0⟩
  exact W.vret hx hb hr (fun t ht hW => ⟨⟨((zl 0 [(fi0 0), (fi0 1), (fi0 2), (fi0 3), (fi0 4), (fi0 5), (fi0 6), (fi0 7), (fi0 8), (fi0 9), (fi0 10)]), (zl 0 []), (zl (fun _ => 0) [(fa0 0), (fa0 1), (fa0 2), (fa0 3), (fa0 4), (fa0 5), (fa0 6), (fa0 7), (fa0 8), (fa0 9), g4, g9, g13, (fa0 13), (fa0 14), (fa0 15), (fa0 16), (fa0 17), (fa0 18), (fa0 19), (fa0 20), (fa0 21), (fa0 22), (fa0 23), (fa0 24), (fa0 25), (fa0 26), (fa0 27), (fa0 28), (fa0 29)]), (zl (fun _ => 0) [(fb0 0), (fb0 1), (fb0 2)])), rfl, ho14, ⟨by rw [ht]; exact hP, hD⟩⟩, hS.F ht⟩) hS.2.2 dX9_isBorn_44

set_option maxHeartbeats 8000000 in
set_option maxRecDepth 100000 in
theorem c_X9_meets (l : Launch) (D : va_G) (ca : Nat → ClassId) (sa : Nat → Nat) (A : Nat → Prop) (rest : va_W) (r0 : Nat → Nat) (fi0 : Nat → Int32) (fl0 : Nat → Int64) (fa0 : Nat → Nat → Int32) (fb0 : Nat → Nat → Int64) (hv0 : Ok_MOD fi0 fa0) (p1 : Int32) (p2 : Int32) (hpre0 : 0 ≤ p1.toInt ∧ p1.toInt ≤ 2) : Met l yX9_meets wsX9_meets ({ frames := 1, cells := 0, slots := 0, locals := 22 }) (va_Pc [.ref (r0 0), .int p1, .int p2] (zPre D ca sa A (w_MOD ca r0 fi0 fl0 fa0 fb0 (rest)))) (va_Qv (fun (u : zS) => Ok_MOD (zx [] fi0 u.1) (zx [16] fa0 u.2.2.1)) (fun u t => zPost D A (w_MOD ca r0 (zx [] fi0 u.1) (zx [] fl0 u.2.1) (zx [16] fa0 u.2.2.1) (zx [] fb0 u.2.2.2) (rest)) t) A) 0 0 A := by
  refine Met.ofW (cc := cX9_meets) (maxL := 5) (ret := none) (by decide) rfl ?_
  intro p e s m args below meth c s₁ B hml hv9
  obtain ⟨rfl, hE, hP, hD⟩ := hv9
  have hx := B.exec
  have hb := B.bytes
  have hr := B.returns
  have hts := atoms_spec (ws := wsX9_meets) B.pre
  have hown : s.vm.findClass RX9 = some m.cls := findClass_of_methodNamed B.named
  have hlocks := B.notSynchronized
  have hK := hE.1
  have hF : CallFix p m c cX9_meets 5 s _ wsX9_meets RX9 := ⟨hx, hb, hml, hown, hts⟩
  have hS : va_S A s.heap s.heap [] := va_S.rf
  have lk192 := hts (.fieldLink RX9 192 "BranchPlayModel" "changes" "I") (by decide +kernel)
  have inX9 : ∀ w ∈ wsX90, w ∈ wsX9_meets := by decide +kernel
  have lk30 := hts (.fieldLink RX9 30 "BranchPlayModel" "breaks" "[I") (by decide +kernel)
  have lk60 := hts (.fieldLink RX9 60 "BranchPlayModel" "out" "[I") (by decide +kernel)
  have lk78 := hts (.fieldLink RX9 78 "BranchPlayModel" "outNow" "[J") (by decide +kernel)
  have lk36 := hts (.fieldLink RX9 36 "BranchPlayModel" "fixedBy" "[I") (by decide +kernel)
  have lk63 := hts (.fieldLink RX9 63 "BranchPlayModel" "met" "[I") (by decide +kernel)
  obtain ⟨⟨hv0i0, hv0j0⟩, ⟨hv0i1, hv0j1⟩, ⟨hv0i5, hv0j5⟩, ⟨hv0i9, hv0j9⟩, hv0a6, hv0a8, hv0a9, hv0a23, hv0a27, hv0a28, hv0x0, hv0y0⟩ := hv0
  generalize hHe : s.heap = H at hP
  have hS : va_S A s.heap H [] := by rw [← hHe]; exact hS
  have hP : va_P D vwCl (((r0 0), .inr (9, [.ref (r0 1), .int (fi0 0), .int (fi0 1), .int (fi0 2), .int (fi0 3), .int (fi0 4), .int (fi0 5), .int (fi0 6), .int (fi0 7), .int (fi0 8), .ref (r0 2), .int (fi0 9), .ref (r0 3), .ref (r0 4), .ref (r0 5), .ref (r0 6), .ref (r0 7), .ref (r0 8), .ref (r0 9), .ref (r0 10), .ref (r0 11), .ref (r0 12), .ref (r0 13), .ref (r0 14), .ref (r0 15), .ref (r0 16), .ref (r0 17), .ref (r0 18), .ref (r0 19), .ref (r0 20), .ref (r0 21), .ref (r0 22), .ref (r0 23), .ref (r0 24), .ref (r0 25), .ref (r0 26), .ref (r0 27), .ref (r0 28), .ref (r0 29), .ref (r0 30), .ref (r0 31), .ref (r0 32), .int (fi0 10), .ref (r0 33)])) :: ((r0 1), .inl (ca 2, 600, .inl (fa0 0))) :: ((r0 2), .inl (ca 0, 48, .inl (fa0 1))) :: ((r0 3), .inl (ca 0, 60, .inl (fa0 2))) :: ((r0 4), .inl (ca 0, 60, .inl (fa0 3))) :: ((r0 5), .inl (ca 0, 60, .inl (fa0 4))) :: ((r0 6), .inl (ca 0, 60, .inl (fa0 5))) :: ((r0 7), .inl (ca 0, 60, .inl (fa0 6))) :: ((r0 8), .inl (ca 0, 60, .inl (fa0 7))) :: ((r0 9), .inl (ca 0, 180, .inl (fa0 8))) :: ((r0 10), .inl (ca 0, 60, .inl (fa0 9))) :: ((r0 11), .inl (ca 0, 180, .inl (fa0 10))) :: ((r0 12), .inl (ca 0, 180, .inl (fa0 11))) :: ((r0 13), .inl (ca 0, 180, .inl (fa0 12))) :: ((r0 14), .inl (ca 0, 180, .inl (fa0 13))) :: ((r0 15), .inl (ca 0, 180, .inl (fa0 14))) :: ((r0 16), .inl (ca 0, 180, .inl (fa0 15))) :: ((r0 17), .inl (ca 0, 180, .inl (fa0 16))) :: ((r0 18), .inl (ca 0, 180, .inl (fa0 17))) :: ((r0 19), .inl (ca 0, 180, .inl (fa0 18))) :: ((r0 20), .inl (ca 0, 180, .inl (fa0 19))) :: ((r0 21), .inl (ca 0, 3, .inl (fa0 20))) :: ((r0 22), .inl (ca 1, 3, .inr (.inl (fb0 0)))) :: ((r0 23), .inl (ca 1, 3, .inr (.inl (fb0 1)))) :: ((r0 24), .inl (ca 3, 3, .inl (fa0 21))) :: ((r0 25), .inl (ca 0, 3, .inl (fa0 22))) :: ((r0 26), .inl (ca 0, 3, .inl (fa0 23))) :: ((r0 27), .inl (ca 0, 810, .inl (fa0 24))) :: ((r0 28), .inl (ca 3, 810, .inl (fa0 25))) :: ((r0 29), .inl (ca 1, 810, .inr (.inl (fb0 2)))) :: ((r0 30), .inl (ca 0, 810, .inl (fa0 26))) :: ((r0 31), .inl (ca 0, 3, .inl (fa0 27))) :: ((r0 32), .inl (ca 0, 60, .inl (fa0 28))) :: ((r0 33), .inl (ca 0, 4, .inl (fa0 29))) :: rest) H := hP
  have hD : va_D A (((r0 0), .inr (9, [.ref (r0 1), .int (fi0 0), .int (fi0 1), .int (fi0 2), .int (fi0 3), .int (fi0 4), .int (fi0 5), .int (fi0 6), .int (fi0 7), .int (fi0 8), .ref (r0 2), .int (fi0 9), .ref (r0 3), .ref (r0 4), .ref (r0 5), .ref (r0 6), .ref (r0 7), .ref (r0 8), .ref (r0 9), .ref (r0 10), .ref (r0 11), .ref (r0 12), .ref (r0 13), .ref (r0 14), .ref (r0 15), .ref (r0 16), .ref (r0 17), .ref (r0 18), .ref (r0 19), .ref (r0 20), .ref (r0 21), .ref (r0 22), .ref (r0 23), .ref (r0 24), .ref (r0 25), .ref (r0 26), .ref (r0 27), .ref (r0 28), .ref (r0 29), .ref (r0 30), .ref (r0 31), .ref (r0 32), .int (fi0 10), .ref (r0 33)])) :: ((r0 1), .inl (ca 2, 600, .inl (fa0 0))) :: ((r0 2), .inl (ca 0, 48, .inl (fa0 1))) :: ((r0 3), .inl (ca 0, 60, .inl (fa0 2))) :: ((r0 4), .inl (ca 0, 60, .inl (fa0 3))) :: ((r0 5), .inl (ca 0, 60, .inl (fa0 4))) :: ((r0 6), .inl (ca 0, 60, .inl (fa0 5))) :: ((r0 7), .inl (ca 0, 60, .inl (fa0 6))) :: ((r0 8), .inl (ca 0, 60, .inl (fa0 7))) :: ((r0 9), .inl (ca 0, 180, .inl (fa0 8))) :: ((r0 10), .inl (ca 0, 60, .inl (fa0 9))) :: ((r0 11), .inl (ca 0, 180, .inl (fa0 10))) :: ((r0 12), .inl (ca 0, 180, .inl (fa0 11))) :: ((r0 13), .inl (ca 0, 180, .inl (fa0 12))) :: ((r0 14), .inl (ca 0, 180, .inl (fa0 13))) :: ((r0 15), .inl (ca 0, 180, .inl (fa0 14))) :: ((r0 16), .inl (ca 0, 180, .inl (fa0 15))) :: ((r0 17), .inl (ca 0, 180, .inl (fa0 16))) :: ((r0 18), .inl (ca 0, 180, .inl (fa0 17))) :: ((r0 19), .inl (ca 0, 180, .inl (fa0 18))) :: ((r0 20), .inl (ca 0, 180, .inl (fa0 19))) :: ((r0 21), .inl (ca 0, 3, .inl (fa0 20))) :: ((r0 22), .inl (ca 1, 3, .inr (.inl (fb0 0)))) :: ((r0 23), .inl (ca 1, 3, .inr (.inl (fb0 1)))) :: ((r0 24), .inl (ca 3, 3, .inl (fa0 21))) :: ((r0 25), .inl (ca 0, 3, .inl (fa0 22))) :: ((r0 26), .inl (ca 0, 3, .inl (fa0 23))) :: ((r0 27), .inl (ca 0, 810, .inl (fa0 24))) :: ((r0 28), .inl (ca 3, 810, .inl (fa0 25))) :: ((r0 29), .inl (ca 1, 810, .inr (.inl (fb0 2)))) :: ((r0 30), .inl (ca 0, 810, .inl (fa0 26))) :: ((r0 31), .inl (ca 0, 3, .inl (fa0 27))) :: ((r0 32), .inl (ca 0, 60, .inl (fa0 28))) :: ((r0 33), .inl (ca 0, 4, .inl (fa0 29))) :: rest) := hD
  have hl := lv_entry ([.ref (r0 0), .int p1, .int p2]) (n := 5) (Nat.le_of_ble_eq_true rfl)
  rw [lg_entry_eq]
  generalize (lg_sl ([.ref (r0 0), .int p1, .int p2]) ++ List.replicate (5 - (lg_sl ([.ref (r0 0), .int p1, .int p2])).length) Slot.unset).toArray = ls at hl ⊢
  have hl : lv_has ls 5 [(0, .ref (r0 0)), (1, .int p1), (2, .int p2)] := hl
  generalize hQ9 : MQ below _ _ s 0 0 A = Q9
  refine lv_iconst (v := 0) hx hb dX9_meets_0 (by decide) ?_
  refine lv_topi (fun t1 et1 => ?_)
  have ht1 : t1.toInt = 0 := by rw [et1]; decide
  refine lv_istore_n (lv' := [(3, .int t1), (0, .ref (r0 0)), (1, .int p1), (2, .int p2)]) hx hb dX9_meets_1 rfl hl (by decide) rfl (fun ls hl => ?_)
  have J2_2 : ∀ (n2 : Nat) (x3_2 : Int32) (gi0_2 : Nat → Int32) (gl0_2 : Nat → Int64) (ga0_2 : Nat → Nat → Int32) (gb0_2 : Nat → Nat → Int64) (H : Heap) (locs : List Loc) (hP : va_P D vwCl (((r0 0), .inr (9, [.ref (r0 1), .int (fi0 0), .int (fi0 1), .int (fi0 2), .int (fi0 3), .int (fi0 4), .int (fi0 5), .int (fi0 6), .int (fi0 7), .int (fi0 8), .ref (r0 2), .int (fi0 9), .ref (r0 3), .ref (r0 4), .ref (r0 5), .ref (r0 6), .ref (r0 7), .ref (r0 8), .ref (r0 9), .ref (r0 10), .ref (r0 11), .ref (r0 12), .ref (r0 13), .ref (r0 14), .ref (r0 15), .ref (r0 16), .ref (r0 17), .ref (r0 18), .ref (r0 19), .ref (r0 20), .ref (r0 21), .ref (r0 22), .ref (r0 23), .ref (r0 24), .ref (r0 25), .ref (r0 26), .ref (r0 27), .ref (r0 28), .ref (r0 29), .ref (r0 30), .ref (r0 31), .ref (r0 32), .int (fi0 10), .ref (r0 33)])) :: ((r0 1), .inl (ca 2, 600, .inl (fa0 0))) :: ((r0 2), .inl (ca 0, 48, .inl (fa0 1))) :: ((r0 3), .inl (ca 0, 60, .inl (fa0 2))) :: ((r0 4), .inl (ca 0, 60, .inl (fa0 3))) :: ((r0 5), .inl (ca 0, 60, .inl (fa0 4))) :: ((r0 6), .inl (ca 0, 60, .inl (fa0 5))) :: ((r0 7), .inl (ca 0, 60, .inl (fa0 6))) :: ((r0 8), .inl (ca 0, 60, .inl (fa0 7))) :: ((r0 9), .inl (ca 0, 180, .inl (fa0 8))) :: ((r0 10), .inl (ca 0, 60, .inl (fa0 9))) :: ((r0 11), .inl (ca 0, 180, .inl (fa0 10))) :: ((r0 12), .inl (ca 0, 180, .inl (fa0 11))) :: ((r0 13), .inl (ca 0, 180, .inl (fa0 12))) :: ((r0 14), .inl (ca 0, 180, .inl (fa0 13))) :: ((r0 15), .inl (ca 0, 180, .inl (fa0 14))) :: ((r0 16), .inl (ca 0, 180, .inl (fa0 15))) :: ((r0 17), .inl (ca 0, 180, .inl (ga0_2 16))) :: ((r0 18), .inl (ca 0, 180, .inl (fa0 17))) :: ((r0 19), .inl (ca 0, 180, .inl (fa0 18))) :: ((r0 20), .inl (ca 0, 180, .inl (fa0 19))) :: ((r0 21), .inl (ca 0, 3, .inl (fa0 20))) :: ((r0 22), .inl (ca 1, 3, .inr (.inl (fb0 0)))) :: ((r0 23), .inl (ca 1, 3, .inr (.inl (fb0 1)))) :: ((r0 24), .inl (ca 3, 3, .inl (fa0 21))) :: ((r0 25), .inl (ca 0, 3, .inl (fa0 22))) :: ((r0 26), .inl (ca 0, 3, .inl (fa0 23))) :: ((r0 27), .inl (ca 0, 810, .inl (fa0 24))) :: ((r0 28), .inl (ca 3, 810, .inl (fa0 25))) :: ((r0 29), .inl (ca 1, 810, .inr (.inl (fb0 2)))) :: ((r0 30), .inl (ca 0, 810, .inl (fa0 26))) :: ((r0 31), .inl (ca 0, 3, .inl (fa0 27))) :: ((r0 32), .inl (ca 0, 60, .inl (fa0 28))) :: ((r0 33), .inl (ca 0, 4, .inl (fa0 29))) :: rest) H) (hD : va_D A (((r0 0), .inr (9, [.ref (r0 1), .int (fi0 0), .int (fi0 1), .int (fi0 2), .int (fi0 3), .int (fi0 4), .int (fi0 5), .int (fi0 6), .int (fi0 7), .int (fi0 8), .ref (r0 2), .int (fi0 9), .ref (r0 3), .ref (r0 4), .ref (r0 5), .ref (r0 6), .ref (r0 7), .ref (r0 8), .ref (r0 9), .ref (r0 10), .ref (r0 11), .ref (r0 12), .ref (r0 13), .ref (r0 14), .ref (r0 15), .ref (r0 16), .ref (r0 17), .ref (r0 18), .ref (r0 19), .ref (r0 20), .ref (r0 21), .ref (r0 22), .ref (r0 23), .ref (r0 24), .ref (r0 25), .ref (r0 26), .ref (r0 27), .ref (r0 28), .ref (r0 29), .ref (r0 30), .ref (r0 31), .ref (r0 32), .int (fi0 10), .ref (r0 33)])) :: ((r0 1), .inl (ca 2, 600, .inl (fa0 0))) :: ((r0 2), .inl (ca 0, 48, .inl (fa0 1))) :: ((r0 3), .inl (ca 0, 60, .inl (fa0 2))) :: ((r0 4), .inl (ca 0, 60, .inl (fa0 3))) :: ((r0 5), .inl (ca 0, 60, .inl (fa0 4))) :: ((r0 6), .inl (ca 0, 60, .inl (fa0 5))) :: ((r0 7), .inl (ca 0, 60, .inl (fa0 6))) :: ((r0 8), .inl (ca 0, 60, .inl (fa0 7))) :: ((r0 9), .inl (ca 0, 180, .inl (fa0 8))) :: ((r0 10), .inl (ca 0, 60, .inl (fa0 9))) :: ((r0 11), .inl (ca 0, 180, .inl (fa0 10))) :: ((r0 12), .inl (ca 0, 180, .inl (fa0 11))) :: ((r0 13), .inl (ca 0, 180, .inl (fa0 12))) :: ((r0 14), .inl (ca 0, 180, .inl (fa0 13))) :: ((r0 15), .inl (ca 0, 180, .inl (fa0 14))) :: ((r0 16), .inl (ca 0, 180, .inl (fa0 15))) :: ((r0 17), .inl (ca 0, 180, .inl (ga0_2 16))) :: ((r0 18), .inl (ca 0, 180, .inl (fa0 17))) :: ((r0 19), .inl (ca 0, 180, .inl (fa0 18))) :: ((r0 20), .inl (ca 0, 180, .inl (fa0 19))) :: ((r0 21), .inl (ca 0, 3, .inl (fa0 20))) :: ((r0 22), .inl (ca 1, 3, .inr (.inl (fb0 0)))) :: ((r0 23), .inl (ca 1, 3, .inr (.inl (fb0 1)))) :: ((r0 24), .inl (ca 3, 3, .inl (fa0 21))) :: ((r0 25), .inl (ca 0, 3, .inl (fa0 22))) :: ((r0 26), .inl (ca 0, 3, .inl (fa0 23))) :: ((r0 27), .inl (ca 0, 810, .inl (fa0 24))) :: ((r0 28), .inl (ca 3, 810, .inl (fa0 25))) :: ((r0 29), .inl (ca 1, 810, .inr (.inl (fb0 2)))) :: ((r0 30), .inl (ca 0, 810, .inl (fa0 26))) :: ((r0 31), .inl (ca 0, 3, .inl (fa0 27))) :: ((r0 32), .inl (ca 0, 60, .inl (fa0 28))) :: ((r0 33), .inl (ca 0, 4, .inl (fa0 29))) :: rest)) (hS : va_S A s.heap H locs) (ls : Array Slot) (hl : lv_has ls 5 [(0, .ref (r0 0)), (1, .int p1), (2, .int p2), (3, .int x3_2)]) (hg0_2 : (0 ≤ (fi0 0).toInt ∧ (fi0 0).toInt ≤ 600) ∧ (0 ≤ (fi0 1).toInt ∧ (fi0 1).toInt ≤ 600) ∧ (0 ≤ (fi0 5).toInt ∧ (fi0 5).toInt ≤ 600) ∧ (0 ≤ (fi0 9).toInt ∧ (fi0 9).toInt ≤ 60) ∧ z_rng (-1) 59 (fa0 6) ∧ z_rng 0 59 (fa0 8) ∧ z_rng 0 3 (fa0 9) ∧ z_rng 0 269 (fa0 23) ∧ z_rng 0 5 (fa0 27) ∧ z_rng 0 59 (fa0 28) ∧ ((fi0 2).toInt = 1 → 0 ≤ (fi0 3).toInt) ∧ zOkR (fa0 1) (fa0 27)) (hf2_0 : 0 ≤ x3_2.toInt ∧ x3_2.toInt ≤ 60), (61 - x3_2.toInt).toNat < n2 → W p l e (headSpec wsX9_meets ({ frames := 1, cells := 0, slots := 0, locals := 22 })).room s m ([.ref (r0 0), .int p1, .int p2] : List Value).toArray below meth c H locs 0 0 Q9 (F0 m 2 ls []) := by
    intro n2
    induction n2 with
    | zero => intro x3_2 gi0_2 gl0_2 ga0_2 gb0_2 H locs hP hD hS ls hl hg0_2 hf2_0 hn9; exact absurd hn9 (Nat.not_lt_zero _)
    | succ n2 ih2 =>
      intro x3_2 gi0_2 gl0_2 ga0_2 gb0_2 H locs hP hD hS ls hl hg0_2 hf2_0 hn9
      obtain ⟨-, -, -, -, -, -, -, -, -, -, -, -⟩ := hg0_2
      refine lv_iload_n hx hb dX9_meets_2 rfl (lv_at hl 3 rfl) ?_
      refine lv_aload_n hx hb dX9_meets_3 rfl (lv_at hl 0 rfl) ?_
      refine va_get (D := D) (ci := 9) (v := .int (fi0 9)) (C := RX9) (T := TX9) (N := 44) hx hb hts inX9 hown hK hP 0 rfl rfl 11 (by decide) lk192 (fun _ h9 => h9) rfl dX9_meets_4 ?_
      refine lv_icmp_ge (tgt := 118) hx hb dX9_meets_7 (by decide) (fun c3 => ?_) (fun c3 => ?_)
      ·
        have c3 := z_le (i := (fi0 9).toInt) (j := x3_2.toInt) rfl rfl c3
        subst hQ9
        have ho4 : (0 ≤ (fi0 0).toInt ∧ (fi0 0).toInt ≤ 600) ∧ (0 ≤ (fi0 1).toInt ∧ (fi0 1).toInt ≤ 600) ∧ (0 ≤ (fi0 5).toInt ∧ (fi0 5).toInt ≤ 600) ∧ (0 ≤ (fi0 9).toInt ∧ (fi0 9).toInt ≤ 60) ∧ z_rng (-1) 59 (fa0 6) ∧ z_rng 0 59 (fa0 8) ∧ z_rng 0 3 (fa0 9) ∧ z_rng 0 269 (fa0 23) ∧ z_rng 0 5 (fa0 27) ∧ z_rng 0 59 (fa0 28) ∧ ((fi0 2).toInt = 1 → 0 ≤ (fi0 3).toInt) ∧ zOkR (fa0 1) (fa0 27) := ⟨⟨by omega, by omega⟩, ⟨by omega, by omega⟩, ⟨by omega, by omega⟩, ⟨by omega, by omega⟩, hv0a6, hv0a8, hv0a9, hv0a23, hv0a27, hv0a28, by omega, hv0y0⟩
        exact W.vret hx hb hr (fun t ht hW => ⟨⟨((zl 0 [(fi0 0), (fi0 1), (fi0 2), (fi0 3), (fi0 4), (fi0 5), (fi0 6), (fi0 7), (fi0 8), (fi0 9), (fi0 10)]), (zl 0 []), (zl (fun _ => 0) [(fa0 0), (fa0 1), (fa0 2), (fa0 3), (fa0 4), (fa0 5), (fa0 6), (fa0 7), (fa0 8), (fa0 9), (fa0 10), (fa0 11), (fa0 12), (fa0 13), (fa0 14), (fa0 15), (ga0_2 16), (fa0 17), (fa0 18), (fa0 19), (fa0 20), (fa0 21), (fa0 22), (fa0 23), (fa0 24), (fa0 25), (fa0 26), (fa0 27), (fa0 28), (fa0 29)]), (zl (fun _ => 0) [(fb0 0), (fb0 1), (fb0 2)])), rfl, ho4, ⟨by rw [ht]; exact hP, hD⟩⟩, hS.F ht⟩) hS.2.2 dX9_meets_118
      ·
        have c3 := z_nle (i := (fi0 9).toInt) (j := x3_2.toInt) rfl rfl c3
        refine lv_bipush (v := 60) hx hb dX9_meets_10 (by decide) ?_
        refine lv_iload_n hx hb dX9_meets_12 rfl (lv_at hl 1 rfl) ?_
        refine lv_imul hx hb dX9_meets_13 ?_
        refine lv_topi (fun t5 et5 => ?_)
        try have ht5 : t5.toInt = 60 * p1.toInt := z_mul et5 (by decide) rfl (by omega -splitDisjunctions) (by omega -splitDisjunctions)
        refine lv_iload_n hx hb dX9_meets_14 rfl (lv_at hl 3 rfl) ?_
        refine lv_iadd hx hb dX9_meets_15 ?_
        refine lv_topi (fun t6 et6 => ?_)
        try have ht6 : t6.toInt = t5.toInt + x3_2.toInt := z_add et6 rfl rfl (by omega -splitDisjunctions) (by omega -splitDisjunctions)
        refine lv_istore (lv' := [(4, .int t6), (0, .ref (r0 0)), (1, .int p1), (2, .int p2), (3, .int x3_2)]) hx hb dX9_meets_16 hl (by decide) rfl (fun ls hl => ?_)
        refine lv_aload_n hx hb dX9_meets_18 rfl (lv_at hl 1 rfl) ?_
        refine va_get (D := D) (ci := 9) (v := .ref (r0 6)) (C := RX9) (T := TX9) (N := 44) hx hb hts inX9 hown hK hP 0 rfl rfl 15 (by decide) lk30 (fun _ h9 => h9) rfl dX9_meets_19 ?_
        refine lv_iload_n hx hb dX9_meets_22 rfl (lv_at hl 4 rfl) ?_
        have hi7 : vp_in x3_2 60 := z_in (i := x3_2.toInt) rfl (by omega) (by omega)
        refine va_iald hx hb hK hP 6 0 rfl rfl hi7 dX9_meets_23 ?_
        refine lv_topi (fun t8 et8 => ?_)
        refine lv_iconst (v := (-1)) hx hb dX9_meets_24 (by decide) ?_
        have J112_9 : ∀ (gi0_9 : Nat → Int32) (gl0_9 : Nat → Int64) (ga0_9 : Nat → Nat → Int32) (gb0_9 : Nat → Nat → Int64) (H : Heap) (locs : List Loc) (hP : va_P D vwCl (((r0 0), .inr (9, [.ref (r0 1), .int (fi0 0), .int (fi0 1), .int (fi0 2), .int (fi0 3), .int (fi0 4), .int (fi0 5), .int (fi0 6), .int (fi0 7), .int (fi0 8), .ref (r0 2), .int (fi0 9), .ref (r0 3), .ref (r0 4), .ref (r0 5), .ref (r0 6), .ref (r0 7), .ref (r0 8), .ref (r0 9), .ref (r0 10), .ref (r0 11), .ref (r0 12), .ref (r0 13), .ref (r0 14), .ref (r0 15), .ref (r0 16), .ref (r0 17), .ref (r0 18), .ref (r0 19), .ref (r0 20), .ref (r0 21), .ref (r0 22), .ref (r0 23), .ref (r0 24), .ref (r0 25), .ref (r0 26), .ref (r0 27), .ref (r0 28), .ref (r0 29), .ref (r0 30), .ref (r0 31), .ref (r0 32), .int (fi0 10), .ref (r0 33)])) :: ((r0 1), .inl (ca 2, 600, .inl (fa0 0))) :: ((r0 2), .inl (ca 0, 48, .inl (fa0 1))) :: ((r0 3), .inl (ca 0, 60, .inl (fa0 2))) :: ((r0 4), .inl (ca 0, 60, .inl (fa0 3))) :: ((r0 5), .inl (ca 0, 60, .inl (fa0 4))) :: ((r0 6), .inl (ca 0, 60, .inl (fa0 5))) :: ((r0 7), .inl (ca 0, 60, .inl (fa0 6))) :: ((r0 8), .inl (ca 0, 60, .inl (fa0 7))) :: ((r0 9), .inl (ca 0, 180, .inl (fa0 8))) :: ((r0 10), .inl (ca 0, 60, .inl (fa0 9))) :: ((r0 11), .inl (ca 0, 180, .inl (fa0 10))) :: ((r0 12), .inl (ca 0, 180, .inl (fa0 11))) :: ((r0 13), .inl (ca 0, 180, .inl (fa0 12))) :: ((r0 14), .inl (ca 0, 180, .inl (fa0 13))) :: ((r0 15), .inl (ca 0, 180, .inl (fa0 14))) :: ((r0 16), .inl (ca 0, 180, .inl (fa0 15))) :: ((r0 17), .inl (ca 0, 180, .inl (ga0_9 16))) :: ((r0 18), .inl (ca 0, 180, .inl (fa0 17))) :: ((r0 19), .inl (ca 0, 180, .inl (fa0 18))) :: ((r0 20), .inl (ca 0, 180, .inl (fa0 19))) :: ((r0 21), .inl (ca 0, 3, .inl (fa0 20))) :: ((r0 22), .inl (ca 1, 3, .inr (.inl (fb0 0)))) :: ((r0 23), .inl (ca 1, 3, .inr (.inl (fb0 1)))) :: ((r0 24), .inl (ca 3, 3, .inl (fa0 21))) :: ((r0 25), .inl (ca 0, 3, .inl (fa0 22))) :: ((r0 26), .inl (ca 0, 3, .inl (fa0 23))) :: ((r0 27), .inl (ca 0, 810, .inl (fa0 24))) :: ((r0 28), .inl (ca 3, 810, .inl (fa0 25))) :: ((r0 29), .inl (ca 1, 810, .inr (.inl (fb0 2)))) :: ((r0 30), .inl (ca 0, 810, .inl (fa0 26))) :: ((r0 31), .inl (ca 0, 3, .inl (fa0 27))) :: ((r0 32), .inl (ca 0, 60, .inl (fa0 28))) :: ((r0 33), .inl (ca 0, 4, .inl (fa0 29))) :: rest) H) (hD : va_D A (((r0 0), .inr (9, [.ref (r0 1), .int (fi0 0), .int (fi0 1), .int (fi0 2), .int (fi0 3), .int (fi0 4), .int (fi0 5), .int (fi0 6), .int (fi0 7), .int (fi0 8), .ref (r0 2), .int (fi0 9), .ref (r0 3), .ref (r0 4), .ref (r0 5), .ref (r0 6), .ref (r0 7), .ref (r0 8), .ref (r0 9), .ref (r0 10), .ref (r0 11), .ref (r0 12), .ref (r0 13), .ref (r0 14), .ref (r0 15), .ref (r0 16), .ref (r0 17), .ref (r0 18), .ref (r0 19), .ref (r0 20), .ref (r0 21), .ref (r0 22), .ref (r0 23), .ref (r0 24), .ref (r0 25), .ref (r0 26), .ref (r0 27), .ref (r0 28), .ref (r0 29), .ref (r0 30), .ref (r0 31), .ref (r0 32), .int (fi0 10), .ref (r0 33)])) :: ((r0 1), .inl (ca 2, 600, .inl (fa0 0))) :: ((r0 2), .inl (ca 0, 48, .inl (fa0 1))) :: ((r0 3), .inl (ca 0, 60, .inl (fa0 2))) :: ((r0 4), .inl (ca 0, 60, .inl (fa0 3))) :: ((r0 5), .inl (ca 0, 60, .inl (fa0 4))) :: ((r0 6), .inl (ca 0, 60, .inl (fa0 5))) :: ((r0 7), .inl (ca 0, 60, .inl (fa0 6))) :: ((r0 8), .inl (ca 0, 60, .inl (fa0 7))) :: ((r0 9), .inl (ca 0, 180, .inl (fa0 8))) :: ((r0 10), .inl (ca 0, 60, .inl (fa0 9))) :: ((r0 11), .inl (ca 0, 180, .inl (fa0 10))) :: ((r0 12), .inl (ca 0, 180, .inl (fa0 11))) :: ((r0 13), .inl (ca 0, 180, .inl (fa0 12))) :: ((r0 14), .inl (ca 0, 180, .inl (fa0 13))) :: ((r0 15), .inl (ca 0, 180, .inl (fa0 14))) :: ((r0 16), .inl (ca 0, 180, .inl (fa0 15))) :: ((r0 17), .inl (ca 0, 180, .inl (ga0_9 16))) :: ((r0 18), .inl (ca 0, 180, .inl (fa0 17))) :: ((r0 19), .inl (ca 0, 180, .inl (fa0 18))) :: ((r0 20), .inl (ca 0, 180, .inl (fa0 19))) :: ((r0 21), .inl (ca 0, 3, .inl (fa0 20))) :: ((r0 22), .inl (ca 1, 3, .inr (.inl (fb0 0)))) :: ((r0 23), .inl (ca 1, 3, .inr (.inl (fb0 1)))) :: ((r0 24), .inl (ca 3, 3, .inl (fa0 21))) :: ((r0 25), .inl (ca 0, 3, .inl (fa0 22))) :: ((r0 26), .inl (ca 0, 3, .inl (fa0 23))) :: ((r0 27), .inl (ca 0, 810, .inl (fa0 24))) :: ((r0 28), .inl (ca 3, 810, .inl (fa0 25))) :: ((r0 29), .inl (ca 1, 810, .inr (.inl (fb0 2)))) :: ((r0 30), .inl (ca 0, 810, .inl (fa0 26))) :: ((r0 31), .inl (ca 0, 3, .inl (fa0 27))) :: ((r0 32), .inl (ca 0, 60, .inl (fa0 28))) :: ((r0 33), .inl (ca 0, 4, .inl (fa0 29))) :: rest)) (hS : va_S A s.heap H locs) (ls : Array Slot) (hl : lv_has ls 5 [(0, .ref (r0 0)), (1, .int p1), (2, .int p2), (3, .int x3_2)]) (hg0_9 : (0 ≤ (fi0 0).toInt ∧ (fi0 0).toInt ≤ 600) ∧ (0 ≤ (fi0 1).toInt ∧ (fi0 1).toInt ≤ 600) ∧ (0 ≤ (fi0 5).toInt ∧ (fi0 5).toInt ≤ 600) ∧ (0 ≤ (fi0 9).toInt ∧ (fi0 9).toInt ≤ 60) ∧ z_rng (-1) 59 (fa0 6) ∧ z_rng 0 59 (fa0 8) ∧ z_rng 0 3 (fa0 9) ∧ z_rng 0 269 (fa0 23) ∧ z_rng 0 5 (fa0 27) ∧ z_rng 0 59 (fa0 28) ∧ ((fi0 2).toInt = 1 → 0 ≤ (fi0 3).toInt) ∧ zOkR (fa0 1) (fa0 27)), W p l e (headSpec wsX9_meets ({ frames := 1, cells := 0, slots := 0, locals := 22 })).room s m ([.ref (r0 0), .int p1, .int p2] : List Value).toArray below meth c H locs 0 0 Q9 (F0 m 112 ls []) := by
          intro gi0_9 gl0_9 ga0_9 gb0_9 H locs hP hD hS ls hl hg0_9
          obtain ⟨-, -, -, -, -, -, -, -, -, -, -, -⟩ := hg0_9
          obtain ⟨t10, et10⟩ : ∃ y : Int32, y = x3_2 + 1 := ⟨_, rfl⟩
          try have ht10 : t10.toInt = x3_2.toInt + 1 := z_add et10 rfl (by decide) (by omega -splitDisjunctions) (by omega -splitDisjunctions)
          refine lv_iinc (v := t10) (lv' := [(3, .int t10), (0, .ref (r0 0)), (1, .int p1), (2, .int p2)]) hx hb dX9_meets_112 hl (k := 3) rfl (by rw [et10]; rfl) (by decide) rfl (fun ls hl => ?_)
          refine lv_goto (tgt := 2) hx hb dX9_meets_115 (by decide) ?_
          have ho11 : (0 ≤ (fi0 0).toInt ∧ (fi0 0).toInt ≤ 600) ∧ (0 ≤ (fi0 1).toInt ∧ (fi0 1).toInt ≤ 600) ∧ (0 ≤ (fi0 5).toInt ∧ (fi0 5).toInt ≤ 600) ∧ (0 ≤ (fi0 9).toInt ∧ (fi0 9).toInt ≤ 60) ∧ z_rng (-1) 59 (fa0 6) ∧ z_rng 0 59 (fa0 8) ∧ z_rng 0 3 (fa0 9) ∧ z_rng 0 269 (fa0 23) ∧ z_rng 0 5 (fa0 27) ∧ z_rng 0 59 (fa0 28) ∧ ((fi0 2).toInt = 1 → 0 ≤ (fi0 3).toInt) ∧ zOkR (fa0 1) (fa0 27) := ⟨⟨by omega, by omega⟩, ⟨by omega, by omega⟩, ⟨by omega, by omega⟩, ⟨by omega, by omega⟩, hv0a6, hv0a8, hv0a9, hv0a23, hv0a27, hv0a28, by omega, hv0y0⟩
          have hj12 : 0 ≤ t10.toInt ∧ t10.toInt ≤ 60 := by omega
          have hm13 : (61 - t10.toInt).toNat < n2 := by omega
          exact ih2 t10 (zl 0 [(fi0 0), (fi0 1), (fi0 2), (fi0 3), (fi0 4), (fi0 5), (fi0 6), (fi0 7), (fi0 8), (fi0 9), (fi0 10)]) (zl 0 []) (zl (fun _ => 0) [(fa0 0), (fa0 1), (fa0 2), (fa0 3), (fa0 4), (fa0 5), (fa0 6), (fa0 7), (fa0 8), (fa0 9), (fa0 10), (fa0 11), (fa0 12), (fa0 13), (fa0 14), (fa0 15), (ga0_9 16), (fa0 17), (fa0 18), (fa0 19), (fa0 20), (fa0 21), (fa0 22), (fa0 23), (fa0 24), (fa0 25), (fa0 26), (fa0 27), (fa0 28), (fa0 29)]) (zl (fun _ => 0) [(fb0 0), (fb0 1), (fb0 2)]) _ _ hP hD hS ls (lv_sub hl [1, 2, 3, 0] rfl) ho11 hj12 hm13
        refine lv_icmp_eq (tgt := 112) hx hb dX9_meets_25 (by decide) (fun c14 => ?_) (fun c14 => ?_)
        ·
          have c14 := z_eq (i := t8.toInt) (j := (-1)) rfl (by decide) c14
          have ho15 : (0 ≤ (fi0 0).toInt ∧ (fi0 0).toInt ≤ 600) ∧ (0 ≤ (fi0 1).toInt ∧ (fi0 1).toInt ≤ 600) ∧ (0 ≤ (fi0 5).toInt ∧ (fi0 5).toInt ≤ 600) ∧ (0 ≤ (fi0 9).toInt ∧ (fi0 9).toInt ≤ 60) ∧ z_rng (-1) 59 (fa0 6) ∧ z_rng 0 59 (fa0 8) ∧ z_rng 0 3 (fa0 9) ∧ z_rng 0 269 (fa0 23) ∧ z_rng 0 5 (fa0 27) ∧ z_rng 0 59 (fa0 28) ∧ ((fi0 2).toInt = 1 → 0 ≤ (fi0 3).toInt) ∧ zOkR (fa0 1) (fa0 27) := ⟨⟨by omega, by omega⟩, ⟨by omega, by omega⟩, ⟨by omega, by omega⟩, ⟨by omega, by omega⟩, hv0a6, hv0a8, hv0a9, hv0a23, hv0a27, hv0a28, by omega, hv0y0⟩
          exact J112_9 (zl 0 [(fi0 0), (fi0 1), (fi0 2), (fi0 3), (fi0 4), (fi0 5), (fi0 6), (fi0 7), (fi0 8), (fi0 9), (fi0 10)]) (zl 0 []) (zl (fun _ => 0) [(fa0 0), (fa0 1), (fa0 2), (fa0 3), (fa0 4), (fa0 5), (fa0 6), (fa0 7), (fa0 8), (fa0 9), (fa0 10), (fa0 11), (fa0 12), (fa0 13), (fa0 14), (fa0 15), (ga0_2 16), (fa0 17), (fa0 18), (fa0 19), (fa0 20), (fa0 21), (fa0 22), (fa0 23), (fa0 24), (fa0 25), (fa0 26), (fa0 27), (fa0 28), (fa0 29)]) (zl (fun _ => 0) [(fb0 0), (fb0 1), (fb0 2)]) _ _ hP hD hS ls (lv_sub hl [1, 2, 3, 4] rfl) ho15
        ·
          have c14 := z_ne (i := t8.toInt) (j := (-1)) rfl (by decide) c14
          refine lv_aload_n hx hb dX9_meets_28 rfl (lv_at hl 1 rfl) ?_
          refine va_get (D := D) (ci := 9) (v := .ref (r0 16)) (C := RX9) (T := TX9) (N := 44) hx hb hts inX9 hown hK hP 0 rfl rfl 25 (by decide) lk60 (fun _ h9 => h9) rfl dX9_meets_29 ?_
          refine lv_iload hx hb dX9_meets_32 (lv_at hl 0 rfl) ?_
          have hi16 : vp_in t6 180 := z_in (i := t6.toInt) rfl (by omega) (by omega)
          refine va_iald hx hb hK hP 16 0 rfl rfl hi16 dX9_meets_34 ?_
          refine lv_topi (fun t17 et17 => ?_)
          refine lv_iconst (v := (-1)) hx hb dX9_meets_35 (by decide) ?_
          refine lv_icmp_eq (tgt := 112) hx hb dX9_meets_36 (by decide) (fun c18 => ?_) (fun c18 => ?_)
          ·
            have c18 := z_eq (i := t17.toInt) (j := (-1)) rfl (by decide) c18
            have ho19 : (0 ≤ (fi0 0).toInt ∧ (fi0 0).toInt ≤ 600) ∧ (0 ≤ (fi0 1).toInt ∧ (fi0 1).toInt ≤ 600) ∧ (0 ≤ (fi0 5).toInt ∧ (fi0 5).toInt ≤ 600) ∧ (0 ≤ (fi0 9).toInt ∧ (fi0 9).toInt ≤ 60) ∧ z_rng (-1) 59 (fa0 6) ∧ z_rng 0 59 (fa0 8) ∧ z_rng 0 3 (fa0 9) ∧ z_rng 0 269 (fa0 23) ∧ z_rng 0 5 (fa0 27) ∧ z_rng 0 59 (fa0 28) ∧ ((fi0 2).toInt = 1 → 0 ≤ (fi0 3).toInt) ∧ zOkR (fa0 1) (fa0 27) := ⟨⟨by omega, by omega⟩, ⟨by omega, by omega⟩, ⟨by omega, by omega⟩, ⟨by omega, by omega⟩, hv0a6, hv0a8, hv0a9, hv0a23, hv0a27, hv0a28, by omega, hv0y0⟩
            exact J112_9 (zl 0 [(fi0 0), (fi0 1), (fi0 2), (fi0 3), (fi0 4), (fi0 5), (fi0 6), (fi0 7), (fi0 8), (fi0 9), (fi0 10)]) (zl 0 []) (zl (fun _ => 0) [(fa0 0), (fa0 1), (fa0 2), (fa0 3), (fa0 4), (fa0 5), (fa0 6), (fa0 7), (fa0 8), (fa0 9), (fa0 10), (fa0 11), (fa0 12), (fa0 13), (fa0 14), (fa0 15), (ga0_2 16), (fa0 17), (fa0 18), (fa0 19), (fa0 20), (fa0 21), (fa0 22), (fa0 23), (fa0 24), (fa0 25), (fa0 26), (fa0 27), (fa0 28), (fa0 29)]) (zl (fun _ => 0) [(fb0 0), (fb0 1), (fb0 2)]) _ _ hP hD hS ls (lv_sub hl [1, 2, 3, 4] rfl) ho19
          ·
            have c18 := z_ne (i := t17.toInt) (j := (-1)) rfl (by decide) c18
            refine lv_aload_n hx hb dX9_meets_39 rfl (lv_at hl 1 rfl) ?_
            refine va_get (D := D) (ci := 9) (v := .ref (r0 16)) (C := RX9) (T := TX9) (N := 44) hx hb hts inX9 hown hK hP 0 rfl rfl 25 (by decide) lk60 (fun _ h9 => h9) rfl dX9_meets_40 ?_
            refine lv_iload hx hb dX9_meets_43 (lv_at hl 0 rfl) ?_
            have hi20 : vp_in t6 180 := z_in (i := t6.toInt) rfl (by omega) (by omega)
            refine va_iald hx hb hK hP 16 0 rfl rfl hi20 dX9_meets_45 ?_
            refine lv_topi (fun t21 et21 => ?_)
            have ht21q : t21.toInt = t17.toInt := by rw [et21, et17]
            refine lv_iload_n hx hb dX9_meets_46 rfl (lv_at hl 3 rfl) ?_
            refine lv_aload_n hx hb dX9_meets_47 rfl (lv_at hl 1 rfl) ?_
            refine va_get (D := D) (ci := 9) (v := .ref (r0 6)) (C := RX9) (T := TX9) (N := 44) hx hb hts inX9 hown hK hP 0 rfl rfl 15 (by decide) lk30 (fun _ h9 => h9) rfl dX9_meets_48 ?_
            refine lv_iload_n hx hb dX9_meets_51 rfl (lv_at hl 4 rfl) ?_
            have hi22 : vp_in x3_2 60 := z_in (i := x3_2.toInt) rfl (by omega) (by omega)
            refine va_iald hx hb hK hP 6 0 rfl rfl hi22 dX9_meets_52 ?_
            refine lv_topi (fun t23 et23 => ?_)
            have ht23q : t23.toInt = t8.toInt := by rw [et23, et8]
            refine lv_isub hx hb dX9_meets_53 ?_
            refine lv_topi (fun t24 et24 => ?_)
            try have ht24 : t24.toInt = p2.toInt - t23.toInt := z_sub et24 rfl rfl (by omega -splitDisjunctions) (by omega -splitDisjunctions)
            refine lv_icmp_ne (tgt := 112) hx hb dX9_meets_54 (by decide) (fun c25 => ?_) (fun c25 => ?_)
            ·
              have c25 := z_ne (i := t21.toInt) (j := t24.toInt) rfl rfl c25
              have ho26 : (0 ≤ (fi0 0).toInt ∧ (fi0 0).toInt ≤ 600) ∧ (0 ≤ (fi0 1).toInt ∧ (fi0 1).toInt ≤ 600) ∧ (0 ≤ (fi0 5).toInt ∧ (fi0 5).toInt ≤ 600) ∧ (0 ≤ (fi0 9).toInt ∧ (fi0 9).toInt ≤ 60) ∧ z_rng (-1) 59 (fa0 6) ∧ z_rng 0 59 (fa0 8) ∧ z_rng 0 3 (fa0 9) ∧ z_rng 0 269 (fa0 23) ∧ z_rng 0 5 (fa0 27) ∧ z_rng 0 59 (fa0 28) ∧ ((fi0 2).toInt = 1 → 0 ≤ (fi0 3).toInt) ∧ zOkR (fa0 1) (fa0 27) := ⟨⟨by omega, by omega⟩, ⟨by omega, by omega⟩, ⟨by omega, by omega⟩, ⟨by omega, by omega⟩, hv0a6, hv0a8, hv0a9, hv0a23, hv0a27, hv0a28, by omega, hv0y0⟩
              exact J112_9 (zl 0 [(fi0 0), (fi0 1), (fi0 2), (fi0 3), (fi0 4), (fi0 5), (fi0 6), (fi0 7), (fi0 8), (fi0 9), (fi0 10)]) (zl 0 []) (zl (fun _ => 0) [(fa0 0), (fa0 1), (fa0 2), (fa0 3), (fa0 4), (fa0 5), (fa0 6), (fa0 7), (fa0 8), (fa0 9), (fa0 10), (fa0 11), (fa0 12), (fa0 13), (fa0 14), (fa0 15), (ga0_2 16), (fa0 17), (fa0 18), (fa0 19), (fa0 20), (fa0 21), (fa0 22), (fa0 23), (fa0 24), (fa0 25), (fa0 26), (fa0 27), (fa0 28), (fa0 29)]) (zl (fun _ => 0) [(fb0 0), (fb0 1), (fb0 2)]) _ _ hP hD hS ls (lv_sub hl [1, 2, 3, 4] rfl) ho26
            ·
              have c25 := z_eq (i := t21.toInt) (j := t24.toInt) rfl rfl c25
              refine lv_aload_n hx hb dX9_meets_57 rfl (lv_at hl 1 rfl) ?_
              refine va_get (D := D) (ci := 9) (v := .ref (r0 22)) (C := RX9) (T := TX9) (N := 44) hx hb hts inX9 hown hK hP 0 rfl rfl 31 (by decide) lk78 (fun _ h9 => h9) rfl dX9_meets_58 ?_
              refine lv_iload_n hx hb dX9_meets_61 rfl (lv_at hl 2 rfl) ?_
              have hi27 : vp_in p1 3 := z_in (i := p1.toInt) rfl (by omega) (by omega)
              refine va_lald hx hb hK hP 22 1 rfl rfl hi27 dX9_meets_62 ?_
              refine lv_topl (fun t28 et28 => ?_)
              refine lv_iload_n hx hb dX9_meets_63 rfl (lv_at hl 4 rfl) ?_
              refine z_iS (As := [.long t28, .int x3_2]) (rest := []) hF (c_X9_isIn l D ca sa A _ t28 x3_2) (va_cwS 2 hts gX9_meets_X9_isIn rfl rfl rfl (by decide +kernel) ⟨Nat.le_of_ble_eq_true rfl, Nat.le_of_ble_eq_true rfl⟩) hE hP hD hS rfl hl.1 rfl (Nat.le_of_ble_eq_true rfl) dX9_meets_64 ⟨Nat.zero_le _, Nat.zero_le _⟩ (fun t30 u29 H locs hw31 hP hD hS => ?_)
              have hw31 : (0 ≤ t30.toInt ∧ t30.toInt ≤ 1) := hw31
              have hq32 := hw31
              clear hw31
              refine lv_if_ne (tgt := 73) hx hb dX9_meets_67 (by decide) (fun c33 => ?_) (fun c33 => ?_)
              ·
                have c33 := z_ne (i := t30.toInt) (j := 0) rfl (by decide) c33
                refine lv_aload_n hx hb dX9_meets_73 rfl (lv_at hl 1 rfl) ?_
                refine va_get (D := D) (ci := 9) (v := .ref (r0 8)) (C := RX9) (T := TX9) (N := 44) hx hb hts inX9 hown hK hP 0 rfl rfl 17 (by decide) lk36 (fun _ h9 => h9) rfl dX9_meets_74 ?_
                refine lv_iload_n hx hb dX9_meets_77 rfl (lv_at hl 4 rfl) ?_
                have hi34 : vp_in x3_2 60 := z_in (i := x3_2.toInt) rfl (by omega) (by omega)
                refine va_iald hx hb hK hP 8 0 rfl rfl hi34 dX9_meets_78 ?_
                refine lv_topi (fun t35 et35 => ?_)
                refine lv_iconst (v := (-1)) hx hb dX9_meets_79 (by decide) ?_
                have J104_36 : ∀ (H : Heap) (locs : List Loc) (hP : va_P D vwCl (((r0 0), .inr (9, [.ref (r0 1), .int (fi0 0), .int (fi0 1), .int (fi0 2), .int (fi0 3), .int (fi0 4), .int (fi0 5), .int (fi0 6), .int (fi0 7), .int (fi0 8), .ref (r0 2), .int (fi0 9), .ref (r0 3), .ref (r0 4), .ref (r0 5), .ref (r0 6), .ref (r0 7), .ref (r0 8), .ref (r0 9), .ref (r0 10), .ref (r0 11), .ref (r0 12), .ref (r0 13), .ref (r0 14), .ref (r0 15), .ref (r0 16), .ref (r0 17), .ref (r0 18), .ref (r0 19), .ref (r0 20), .ref (r0 21), .ref (r0 22), .ref (r0 23), .ref (r0 24), .ref (r0 25), .ref (r0 26), .ref (r0 27), .ref (r0 28), .ref (r0 29), .ref (r0 30), .ref (r0 31), .ref (r0 32), .int (fi0 10), .ref (r0 33)])) :: ((r0 1), .inl (ca 2, 600, .inl (fa0 0))) :: ((r0 2), .inl (ca 0, 48, .inl (fa0 1))) :: ((r0 3), .inl (ca 0, 60, .inl (fa0 2))) :: ((r0 4), .inl (ca 0, 60, .inl (fa0 3))) :: ((r0 5), .inl (ca 0, 60, .inl (fa0 4))) :: ((r0 6), .inl (ca 0, 60, .inl (fa0 5))) :: ((r0 7), .inl (ca 0, 60, .inl (fa0 6))) :: ((r0 8), .inl (ca 0, 60, .inl (fa0 7))) :: ((r0 9), .inl (ca 0, 180, .inl (fa0 8))) :: ((r0 10), .inl (ca 0, 60, .inl (fa0 9))) :: ((r0 11), .inl (ca 0, 180, .inl (fa0 10))) :: ((r0 12), .inl (ca 0, 180, .inl (fa0 11))) :: ((r0 13), .inl (ca 0, 180, .inl (fa0 12))) :: ((r0 14), .inl (ca 0, 180, .inl (fa0 13))) :: ((r0 15), .inl (ca 0, 180, .inl (fa0 14))) :: ((r0 16), .inl (ca 0, 180, .inl (fa0 15))) :: ((r0 17), .inl (ca 0, 180, .inl (ga0_2 16))) :: ((r0 18), .inl (ca 0, 180, .inl (fa0 17))) :: ((r0 19), .inl (ca 0, 180, .inl (fa0 18))) :: ((r0 20), .inl (ca 0, 180, .inl (fa0 19))) :: ((r0 21), .inl (ca 0, 3, .inl (fa0 20))) :: ((r0 22), .inl (ca 1, 3, .inr (.inl (fb0 0)))) :: ((r0 23), .inl (ca 1, 3, .inr (.inl (fb0 1)))) :: ((r0 24), .inl (ca 3, 3, .inl (fa0 21))) :: ((r0 25), .inl (ca 0, 3, .inl (fa0 22))) :: ((r0 26), .inl (ca 0, 3, .inl (fa0 23))) :: ((r0 27), .inl (ca 0, 810, .inl (fa0 24))) :: ((r0 28), .inl (ca 3, 810, .inl (fa0 25))) :: ((r0 29), .inl (ca 1, 810, .inr (.inl (fb0 2)))) :: ((r0 30), .inl (ca 0, 810, .inl (fa0 26))) :: ((r0 31), .inl (ca 0, 3, .inl (fa0 27))) :: ((r0 32), .inl (ca 0, 60, .inl (fa0 28))) :: ((r0 33), .inl (ca 0, 4, .inl (fa0 29))) :: rest) H) (hD : va_D A (((r0 0), .inr (9, [.ref (r0 1), .int (fi0 0), .int (fi0 1), .int (fi0 2), .int (fi0 3), .int (fi0 4), .int (fi0 5), .int (fi0 6), .int (fi0 7), .int (fi0 8), .ref (r0 2), .int (fi0 9), .ref (r0 3), .ref (r0 4), .ref (r0 5), .ref (r0 6), .ref (r0 7), .ref (r0 8), .ref (r0 9), .ref (r0 10), .ref (r0 11), .ref (r0 12), .ref (r0 13), .ref (r0 14), .ref (r0 15), .ref (r0 16), .ref (r0 17), .ref (r0 18), .ref (r0 19), .ref (r0 20), .ref (r0 21), .ref (r0 22), .ref (r0 23), .ref (r0 24), .ref (r0 25), .ref (r0 26), .ref (r0 27), .ref (r0 28), .ref (r0 29), .ref (r0 30), .ref (r0 31), .ref (r0 32), .int (fi0 10), .ref (r0 33)])) :: ((r0 1), .inl (ca 2, 600, .inl (fa0 0))) :: ((r0 2), .inl (ca 0, 48, .inl (fa0 1))) :: ((r0 3), .inl (ca 0, 60, .inl (fa0 2))) :: ((r0 4), .inl (ca 0, 60, .inl (fa0 3))) :: ((r0 5), .inl (ca 0, 60, .inl (fa0 4))) :: ((r0 6), .inl (ca 0, 60, .inl (fa0 5))) :: ((r0 7), .inl (ca 0, 60, .inl (fa0 6))) :: ((r0 8), .inl (ca 0, 60, .inl (fa0 7))) :: ((r0 9), .inl (ca 0, 180, .inl (fa0 8))) :: ((r0 10), .inl (ca 0, 60, .inl (fa0 9))) :: ((r0 11), .inl (ca 0, 180, .inl (fa0 10))) :: ((r0 12), .inl (ca 0, 180, .inl (fa0 11))) :: ((r0 13), .inl (ca 0, 180, .inl (fa0 12))) :: ((r0 14), .inl (ca 0, 180, .inl (fa0 13))) :: ((r0 15), .inl (ca 0, 180, .inl (fa0 14))) :: ((r0 16), .inl (ca 0, 180, .inl (fa0 15))) :: ((r0 17), .inl (ca 0, 180, .inl (ga0_2 16))) :: ((r0 18), .inl (ca 0, 180, .inl (fa0 17))) :: ((r0 19), .inl (ca 0, 180, .inl (fa0 18))) :: ((r0 20), .inl (ca 0, 180, .inl (fa0 19))) :: ((r0 21), .inl (ca 0, 3, .inl (fa0 20))) :: ((r0 22), .inl (ca 1, 3, .inr (.inl (fb0 0)))) :: ((r0 23), .inl (ca 1, 3, .inr (.inl (fb0 1)))) :: ((r0 24), .inl (ca 3, 3, .inl (fa0 21))) :: ((r0 25), .inl (ca 0, 3, .inl (fa0 22))) :: ((r0 26), .inl (ca 0, 3, .inl (fa0 23))) :: ((r0 27), .inl (ca 0, 810, .inl (fa0 24))) :: ((r0 28), .inl (ca 3, 810, .inl (fa0 25))) :: ((r0 29), .inl (ca 1, 810, .inr (.inl (fb0 2)))) :: ((r0 30), .inl (ca 0, 810, .inl (fa0 26))) :: ((r0 31), .inl (ca 0, 3, .inl (fa0 27))) :: ((r0 32), .inl (ca 0, 60, .inl (fa0 28))) :: ((r0 33), .inl (ca 0, 4, .inl (fa0 29))) :: rest)) (hS : va_S A s.heap H locs) (ls : Array Slot) (hl : lv_has ls 5 [(0, .ref (r0 0)), (1, .int p1), (2, .int p2), (3, .int x3_2), (4, .int t6)]), W p l e (headSpec wsX9_meets ({ frames := 1, cells := 0, slots := 0, locals := 22 })).room s m ([.ref (r0 0), .int p1, .int p2] : List Value).toArray below meth c H locs 0 0 Q9 (F0 m 104 ls []) := by
                  intro H locs hP hD hS ls hl
                  refine lv_aload_n hx hb dX9_meets_104 rfl (lv_at hl 0 rfl) ?_
                  refine va_get (D := D) (ci := 9) (v := .ref (r0 17)) (C := RX9) (T := TX9) (N := 44) hx hb hts inX9 hown hK hP 0 rfl rfl 26 (by decide) lk63 (fun _ h9 => h9) rfl dX9_meets_105 ?_
                  refine lv_iload hx hb dX9_meets_108 (lv_at hl 4 rfl) ?_
                  refine lv_iload_n hx hb dX9_meets_110 rfl (lv_at hl 2 rfl) ?_
                  have hi37 : vp_in t6 180 := z_in (i := t6.toInt) rfl (by omega) (by omega)
                  refine va_iast hx hb hK hP hD hS 17 0 rfl rfl hi37 dX9_meets_111 (fun H locs hP hD hS => ?_)
                  generalize eg38 : upd (ga0_2 16) t6.toNatClampNeg p2 = g38 at hP hD
                  have hP : va_P D vwCl (((r0 0), .inr (9, [.ref (r0 1), .int (fi0 0), .int (fi0 1), .int (fi0 2), .int (fi0 3), .int (fi0 4), .int (fi0 5), .int (fi0 6), .int (fi0 7), .int (fi0 8), .ref (r0 2), .int (fi0 9), .ref (r0 3), .ref (r0 4), .ref (r0 5), .ref (r0 6), .ref (r0 7), .ref (r0 8), .ref (r0 9), .ref (r0 10), .ref (r0 11), .ref (r0 12), .ref (r0 13), .ref (r0 14), .ref (r0 15), .ref (r0 16), .ref (r0 17), .ref (r0 18), .ref (r0 19), .ref (r0 20), .ref (r0 21), .ref (r0 22), .ref (r0 23), .ref (r0 24), .ref (r0 25), .ref (r0 26), .ref (r0 27), .ref (r0 28), .ref (r0 29), .ref (r0 30), .ref (r0 31), .ref (r0 32), .int (fi0 10), .ref (r0 33)])) :: ((r0 1), .inl (ca 2, 600, .inl (fa0 0))) :: ((r0 2), .inl (ca 0, 48, .inl (fa0 1))) :: ((r0 3), .inl (ca 0, 60, .inl (fa0 2))) :: ((r0 4), .inl (ca 0, 60, .inl (fa0 3))) :: ((r0 5), .inl (ca 0, 60, .inl (fa0 4))) :: ((r0 6), .inl (ca 0, 60, .inl (fa0 5))) :: ((r0 7), .inl (ca 0, 60, .inl (fa0 6))) :: ((r0 8), .inl (ca 0, 60, .inl (fa0 7))) :: ((r0 9), .inl (ca 0, 180, .inl (fa0 8))) :: ((r0 10), .inl (ca 0, 60, .inl (fa0 9))) :: ((r0 11), .inl (ca 0, 180, .inl (fa0 10))) :: ((r0 12), .inl (ca 0, 180, .inl (fa0 11))) :: ((r0 13), .inl (ca 0, 180, .inl (fa0 12))) :: ((r0 14), .inl (ca 0, 180, .inl (fa0 13))) :: ((r0 15), .inl (ca 0, 180, .inl (fa0 14))) :: ((r0 16), .inl (ca 0, 180, .inl (fa0 15))) :: ((r0 17), .inl (ca 0, 180, .inl g38)) :: ((r0 18), .inl (ca 0, 180, .inl (fa0 17))) :: ((r0 19), .inl (ca 0, 180, .inl (fa0 18))) :: ((r0 20), .inl (ca 0, 180, .inl (fa0 19))) :: ((r0 21), .inl (ca 0, 3, .inl (fa0 20))) :: ((r0 22), .inl (ca 1, 3, .inr (.inl (fb0 0)))) :: ((r0 23), .inl (ca 1, 3, .inr (.inl (fb0 1)))) :: ((r0 24), .inl (ca 3, 3, .inl (fa0 21))) :: ((r0 25), .inl (ca 0, 3, .inl (fa0 22))) :: ((r0 26), .inl (ca 0, 3, .inl (fa0 23))) :: ((r0 27), .inl (ca 0, 810, .inl (fa0 24))) :: ((r0 28), .inl (ca 3, 810, .inl (fa0 25))) :: ((r0 29), .inl (ca 1, 810, .inr (.inl (fb0 2)))) :: ((r0 30), .inl (ca 0, 810, .inl (fa0 26))) :: ((r0 31), .inl (ca 0, 3, .inl (fa0 27))) :: ((r0 32), .inl (ca 0, 60, .inl (fa0 28))) :: ((r0 33), .inl (ca 0, 4, .inl (fa0 29))) :: rest) H := hP
                  have hD : va_D A (((r0 0), .inr (9, [.ref (r0 1), .int (fi0 0), .int (fi0 1), .int (fi0 2), .int (fi0 3), .int (fi0 4), .int (fi0 5), .int (fi0 6), .int (fi0 7), .int (fi0 8), .ref (r0 2), .int (fi0 9), .ref (r0 3), .ref (r0 4), .ref (r0 5), .ref (r0 6), .ref (r0 7), .ref (r0 8), .ref (r0 9), .ref (r0 10), .ref (r0 11), .ref (r0 12), .ref (r0 13), .ref (r0 14), .ref (r0 15), .ref (r0 16), .ref (r0 17), .ref (r0 18), .ref (r0 19), .ref (r0 20), .ref (r0 21), .ref (r0 22), .ref (r0 23), .ref (r0 24), .ref (r0 25), .ref (r0 26), .ref (r0 27), .ref (r0 28), .ref (r0 29), .ref (r0 30), .ref (r0 31), .ref (r0 32), .int (fi0 10), .ref (r0 33)])) :: ((r0 1), .inl (ca 2, 600, .inl (fa0 0))) :: ((r0 2), .inl (ca 0, 48, .inl (fa0 1))) :: ((r0 3), .inl (ca 0, 60, .inl (fa0 2))) :: ((r0 4), .inl (ca 0, 60, .inl (fa0 3))) :: ((r0 5), .inl (ca 0, 60, .inl (fa0 4))) :: ((r0 6), .inl (ca 0, 60, .inl (fa0 5))) :: ((r0 7), .inl (ca 0, 60, .inl (fa0 6))) :: ((r0 8), .inl (ca 0, 60, .inl (fa0 7))) :: ((r0 9), .inl (ca 0, 180, .inl (fa0 8))) :: ((r0 10), .inl (ca 0, 60, .inl (fa0 9))) :: ((r0 11), .inl (ca 0, 180, .inl (fa0 10))) :: ((r0 12), .inl (ca 0, 180, .inl (fa0 11))) :: ((r0 13), .inl (ca 0, 180, .inl (fa0 12))) :: ((r0 14), .inl (ca 0, 180, .inl (fa0 13))) :: ((r0 15), .inl (ca 0, 180, .inl (fa0 14))) :: ((r0 16), .inl (ca 0, 180, .inl (fa0 15))) :: ((r0 17), .inl (ca 0, 180, .inl g38)) :: ((r0 18), .inl (ca 0, 180, .inl (fa0 17))) :: ((r0 19), .inl (ca 0, 180, .inl (fa0 18))) :: ((r0 20), .inl (ca 0, 180, .inl (fa0 19))) :: ((r0 21), .inl (ca 0, 3, .inl (fa0 20))) :: ((r0 22), .inl (ca 1, 3, .inr (.inl (fb0 0)))) :: ((r0 23), .inl (ca 1, 3, .inr (.inl (fb0 1)))) :: ((r0 24), .inl (ca 3, 3, .inl (fa0 21))) :: ((r0 25), .inl (ca 0, 3, .inl (fa0 22))) :: ((r0 26), .inl (ca 0, 3, .inl (fa0 23))) :: ((r0 27), .inl (ca 0, 810, .inl (fa0 24))) :: ((r0 28), .inl (ca 3, 810, .inl (fa0 25))) :: ((r0 29), .inl (ca 1, 810, .inr (.inl (fb0 2)))) :: ((r0 30), .inl (ca 0, 810, .inl (fa0 26))) :: ((r0 31), .inl (ca 0, 3, .inl (fa0 27))) :: ((r0 32), .inl (ca 0, 60, .inl (fa0 28))) :: ((r0 33), .inl (ca 0, 4, .inl (fa0 29))) :: rest) := hD
                  have ho39 : (0 ≤ (fi0 0).toInt ∧ (fi0 0).toInt ≤ 600) ∧ (0 ≤ (fi0 1).toInt ∧ (fi0 1).toInt ≤ 600) ∧ (0 ≤ (fi0 5).toInt ∧ (fi0 5).toInt ≤ 600) ∧ (0 ≤ (fi0 9).toInt ∧ (fi0 9).toInt ≤ 60) ∧ z_rng (-1) 59 (fa0 6) ∧ z_rng 0 59 (fa0 8) ∧ z_rng 0 3 (fa0 9) ∧ z_rng 0 269 (fa0 23) ∧ z_rng 0 5 (fa0 27) ∧ z_rng 0 59 (fa0 28) ∧ ((fi0 2).toInt = 1 → 0 ≤ (fi0 3).toInt) ∧ zOkR (fa0 1) (fa0 27) := ⟨⟨by omega, by omega⟩, ⟨by omega, by omega⟩, ⟨by omega, by omega⟩, ⟨by omega, by omega⟩, hv0a6, hv0a8, hv0a9, hv0a23, hv0a27, hv0a28, by omega, hv0y0⟩
                  exact J112_9 (zl 0 [(fi0 0), (fi0 1), (fi0 2), (fi0 3), (fi0 4), (fi0 5), (fi0 6), (fi0 7), (fi0 8), (fi0 9), (fi0 10)]) (zl 0 []) (zl (fun _ => 0) [(fa0 0), (fa0 1), (fa0 2), (fa0 3), (fa0 4), (fa0 5), (fa0 6), (fa0 7), (fa0 8), (fa0 9), (fa0 10), (fa0 11), (fa0 12), (fa0 13), (fa0 14), (fa0 15), g38, (fa0 17), (fa0 18), (fa0 19), (fa0 20), (fa0 21), (fa0 22), (fa0 23), (fa0 24), (fa0 25), (fa0 26), (fa0 27), (fa0 28), (fa0 29)]) (zl (fun _ => 0) [(fb0 0), (fb0 1), (fb0 2)]) _ _ hP hD hS ls (lv_sub hl [0, 1, 2, 3] rfl) ho39
                refine lv_icmp_eq (tgt := 104) hx hb dX9_meets_80 (by decide) (fun c40 => ?_) (fun c40 => ?_)
                ·
                  have c40 := z_eq (i := t35.toInt) (j := (-1)) rfl (by decide) c40
                  exact J104_36 _ _ hP hD hS ls (lv_sub hl [1, 2, 3, 4, 0] rfl)
                ·
                  have c40 := z_ne (i := t35.toInt) (j := (-1)) rfl (by decide) c40
                  refine lv_aload_n hx hb dX9_meets_83 rfl (lv_at hl 1 rfl) ?_
                  refine va_get (D := D) (ci := 9) (v := .ref (r0 22)) (C := RX9) (T := TX9) (N := 44) hx hb hts inX9 hown hK hP 0 rfl rfl 31 (by decide) lk78 (fun _ h9 => h9) rfl dX9_meets_84 ?_
                  refine lv_iload_n hx hb dX9_meets_87 rfl (lv_at hl 2 rfl) ?_
                  have hi41 : vp_in p1 3 := z_in (i := p1.toInt) rfl (by omega) (by omega)
                  refine va_lald hx hb hK hP 22 1 rfl rfl hi41 dX9_meets_88 ?_
                  refine lv_topl (fun t42 et42 => ?_)
                  refine lv_aload_n hx hb dX9_meets_89 rfl (lv_at hl 1 rfl) ?_
                  refine va_get (D := D) (ci := 9) (v := .ref (r0 8)) (C := RX9) (T := TX9) (N := 44) hx hb hts inX9 hown hK hP 0 rfl rfl 17 (by decide) lk36 (fun _ h9 => h9) rfl dX9_meets_90 ?_
                  refine lv_iload_n hx hb dX9_meets_93 rfl (lv_at hl 4 rfl) ?_
                  have hi43 : vp_in x3_2 60 := z_in (i := x3_2.toInt) rfl (by omega) (by omega)
                  refine va_iald hx hb hK hP 8 0 rfl rfl hi43 dX9_meets_94 ?_
                  refine lv_topi (fun t44 et44 => ?_)
                  have ht44q : t44.toInt = t35.toInt := by rw [et44, et35]
                  refine z_iS (As := [.long t42, .int t44]) (rest := []) hF (c_X9_isIn l D ca sa A _ t42 t44) (va_cwS 2 hts gX9_meets_X9_isIn rfl rfl rfl (by decide +kernel) ⟨Nat.le_of_ble_eq_true rfl, Nat.le_of_ble_eq_true rfl⟩) hE hP hD hS rfl hl.1 rfl (Nat.le_of_ble_eq_true rfl) dX9_meets_95 ⟨Nat.zero_le _, Nat.zero_le _⟩ (fun t46 u45 H locs hw47 hP hD hS => ?_)
                  have hw47 : (0 ≤ t46.toInt ∧ t46.toInt ≤ 1) := hw47
                  have hq48 := hw47
                  clear hw47
                  refine lv_if_eq (tgt := 104) hx hb dX9_meets_98 (by decide) (fun c49 => ?_) (fun c49 => ?_)
                  ·
                    have c49 := z_eq (i := t46.toInt) (j := 0) rfl (by decide) c49
                    exact J104_36 _ _ hP hD hS ls (lv_sub hl [1, 2, 3, 4, 0] rfl)
                  ·
                    have c49 := z_ne (i := t46.toInt) (j := 0) rfl (by decide) c49
                    refine lv_goto (tgt := 112) hx hb dX9_meets_101 (by decide) ?_
                    have ho50 : (0 ≤ (fi0 0).toInt ∧ (fi0 0).toInt ≤ 600) ∧ (0 ≤ (fi0 1).toInt ∧ (fi0 1).toInt ≤ 600) ∧ (0 ≤ (fi0 5).toInt ∧ (fi0 5).toInt ≤ 600) ∧ (0 ≤ (fi0 9).toInt ∧ (fi0 9).toInt ≤ 60) ∧ z_rng (-1) 59 (fa0 6) ∧ z_rng 0 59 (fa0 8) ∧ z_rng 0 3 (fa0 9) ∧ z_rng 0 269 (fa0 23) ∧ z_rng 0 5 (fa0 27) ∧ z_rng 0 59 (fa0 28) ∧ ((fi0 2).toInt = 1 → 0 ≤ (fi0 3).toInt) ∧ zOkR (fa0 1) (fa0 27) := ⟨⟨by omega, by omega⟩, ⟨by omega, by omega⟩, ⟨by omega, by omega⟩, ⟨by omega, by omega⟩, hv0a6, hv0a8, hv0a9, hv0a23, hv0a27, hv0a28, by omega, hv0y0⟩
                    exact J112_9 (zl 0 [(fi0 0), (fi0 1), (fi0 2), (fi0 3), (fi0 4), (fi0 5), (fi0 6), (fi0 7), (fi0 8), (fi0 9), (fi0 10)]) (zl 0 []) (zl (fun _ => 0) [(fa0 0), (fa0 1), (fa0 2), (fa0 3), (fa0 4), (fa0 5), (fa0 6), (fa0 7), (fa0 8), (fa0 9), (fa0 10), (fa0 11), (fa0 12), (fa0 13), (fa0 14), (fa0 15), (ga0_2 16), (fa0 17), (fa0 18), (fa0 19), (fa0 20), (fa0 21), (fa0 22), (fa0 23), (fa0 24), (fa0 25), (fa0 26), (fa0 27), (fa0 28), (fa0 29)]) (zl (fun _ => 0) [(fb0 0), (fb0 1), (fb0 2)]) _ _ hP hD hS ls (lv_sub hl [1, 2, 3, 4] rfl) ho50
              ·
                have c33 := z_eq (i := t30.toInt) (j := 0) rfl (by decide) c33
                refine lv_goto (tgt := 112) hx hb dX9_meets_70 (by decide) ?_
                have ho51 : (0 ≤ (fi0 0).toInt ∧ (fi0 0).toInt ≤ 600) ∧ (0 ≤ (fi0 1).toInt ∧ (fi0 1).toInt ≤ 600) ∧ (0 ≤ (fi0 5).toInt ∧ (fi0 5).toInt ≤ 600) ∧ (0 ≤ (fi0 9).toInt ∧ (fi0 9).toInt ≤ 60) ∧ z_rng (-1) 59 (fa0 6) ∧ z_rng 0 59 (fa0 8) ∧ z_rng 0 3 (fa0 9) ∧ z_rng 0 269 (fa0 23) ∧ z_rng 0 5 (fa0 27) ∧ z_rng 0 59 (fa0 28) ∧ ((fi0 2).toInt = 1 → 0 ≤ (fi0 3).toInt) ∧ zOkR (fa0 1) (fa0 27) := ⟨⟨by omega, by omega⟩, ⟨by omega, by omega⟩, ⟨by omega, by omega⟩, ⟨by omega, by omega⟩, hv0a6, hv0a8, hv0a9, hv0a23, hv0a27, hv0a28, by omega, hv0y0⟩
                exact J112_9 (zl 0 [(fi0 0), (fi0 1), (fi0 2), (fi0 3), (fi0 4), (fi0 5), (fi0 6), (fi0 7), (fi0 8), (fi0 9), (fi0 10)]) (zl 0 []) (zl (fun _ => 0) [(fa0 0), (fa0 1), (fa0 2), (fa0 3), (fa0 4), (fa0 5), (fa0 6), (fa0 7), (fa0 8), (fa0 9), (fa0 10), (fa0 11), (fa0 12), (fa0 13), (fa0 14), (fa0 15), (ga0_2 16), (fa0 17), (fa0 18), (fa0 19), (fa0 20), (fa0 21), (fa0 22), (fa0 23), (fa0 24), (fa0 25), (fa0 26), (fa0 27), (fa0 28), (fa0 29)]) (zl (fun _ => 0) [(fb0 0), (fb0 1), (fb0 2)]) _ _ hP hD hS ls (lv_sub hl [1, 2, 3, 4] rfl) ho51
  have ho52 : (0 ≤ (fi0 0).toInt ∧ (fi0 0).toInt ≤ 600) ∧ (0 ≤ (fi0 1).toInt ∧ (fi0 1).toInt ≤ 600) ∧ (0 ≤ (fi0 5).toInt ∧ (fi0 5).toInt ≤ 600) ∧ (0 ≤ (fi0 9).toInt ∧ (fi0 9).toInt ≤ 60) ∧ z_rng (-1) 59 (fa0 6) ∧ z_rng 0 59 (fa0 8) ∧ z_rng 0 3 (fa0 9) ∧ z_rng 0 269 (fa0 23) ∧ z_rng 0 5 (fa0 27) ∧ z_rng 0 59 (fa0 28) ∧ ((fi0 2).toInt = 1 → 0 ≤ (fi0 3).toInt) ∧ zOkR (fa0 1) (fa0 27) := ⟨⟨by omega, by omega⟩, ⟨by omega, by omega⟩, ⟨by omega, by omega⟩, ⟨by omega, by omega⟩, hv0a6, hv0a8, hv0a9, hv0a23, hv0a27, hv0a28, by omega, hv0y0⟩
  have hj53 : 0 ≤ t1.toInt ∧ t1.toInt ≤ 60 := by omega
  exact J2_2 ((61 - t1.toInt).toNat + 1) t1 (zl 0 [(fi0 0), (fi0 1), (fi0 2), (fi0 3), (fi0 4), (fi0 5), (fi0 6), (fi0 7), (fi0 8), (fi0 9), (fi0 10)]) (zl 0 []) (zl (fun _ => 0) [(fa0 0), (fa0 1), (fa0 2), (fa0 3), (fa0 4), (fa0 5), (fa0 6), (fa0 7), (fa0 8), (fa0 9), (fa0 10), (fa0 11), (fa0 12), (fa0 13), (fa0 14), (fa0 15), (fa0 16), (fa0 17), (fa0 18), (fa0 19), (fa0 20), (fa0 21), (fa0 22), (fa0 23), (fa0 24), (fa0 25), (fa0 26), (fa0 27), (fa0 28), (fa0 29)]) (zl (fun _ => 0) [(fb0 0), (fb0 1), (fb0 2)]) _ _ hP hD hS ls (lv_sub hl [1, 2, 3, 0] rfl) ho52 hj53 (Nat.lt_succ_self _)

set_option maxHeartbeats 8000000 in
set_option maxRecDepth 100000 in
theorem c_X9_births (l : Launch) (D : va_G) (ca : Nat → ClassId) (sa : Nat → Nat) (A : Nat → Prop) (rest : va_W) (r0 : Nat → Nat) (fi0 : Nat → Int32) (fl0 : Nat → Int64) (fa0 : Nat → Nat → Int32) (fb0 : Nat → Nat → Int64) (hv0 : Ok_MOD fi0 fa0) (p1 : Int32) (p2 : Int32) (hpre0 : 0 ≤ p1.toInt ∧ p1.toInt ≤ 2) : Met l yX9_births wsX9_births ({ frames := 1, cells := 0, slots := 0, locals := 24 }) (va_Pc [.ref (r0 0), .int p1, .int p2] (zPre D ca sa A (w_MOD ca r0 fi0 fl0 fa0 fb0 (rest)))) (va_Qv (fun (u : zS) => Ok_MOD (zx [] fi0 u.1) (zx [10, 11, 12] fa0 u.2.2.1)) (fun u t => zPost D A (w_MOD ca r0 (zx [] fi0 u.1) (zx [] fl0 u.2.1) (zx [10, 11, 12] fa0 u.2.2.1) (zx [] fb0 u.2.2.2) (rest)) t) A) 0 0 A := by
  refine Met.ofW (cc := cX9_births) (maxL := 5) (ret := none) (by decide) rfl ?_
  intro p e s m args below meth c s₁ B hml hv9
  obtain ⟨rfl, hE, hP, hD⟩ := hv9
  have hx := B.exec
  have hb := B.bytes
  have hr := B.returns
  have hts := atoms_spec (ws := wsX9_births) B.pre
  have hown : s.vm.findClass RX9 = some m.cls := findClass_of_methodNamed B.named
  have hlocks := B.notSynchronized
  have hK := hE.1
  have hF : CallFix p m c cX9_births 5 s _ wsX9_births RX9 := ⟨hx, hb, hml, hown, hts⟩
  have hS : va_S A s.heap s.heap [] := va_S.rf
  have lk192 := hts (.fieldLink RX9 192 "BranchPlayModel" "changes" "I") (by decide +kernel)
  have inX9 : ∀ w ∈ wsX90, w ∈ wsX9_births := by decide +kernel
  have lk33 := hts (.fieldLink RX9 33 "BranchPlayModel" "fixOf" "[I") (by decide +kernel)
  have lk45 := hts (.fieldLink RX9 45 "BranchPlayModel" "born" "[I") (by decide +kernel)
  have lk63 := hts (.fieldLink RX9 63 "BranchPlayModel" "met" "[I") (by decide +kernel)
  have lk21 := hts (.fieldLink RX9 21 "BranchPlayModel" "birth" "[I") (by decide +kernel)
  obtain ⟨⟨hv0i0, hv0j0⟩, ⟨hv0i1, hv0j1⟩, ⟨hv0i5, hv0j5⟩, ⟨hv0i9, hv0j9⟩, hv0a6, hv0a8, hv0a9, hv0a23, hv0a27, hv0a28, hv0x0, hv0y0⟩ := hv0
  generalize hHe : s.heap = H at hP
  have hS : va_S A s.heap H [] := by rw [← hHe]; exact hS
  have hP : va_P D vwCl (((r0 0), .inr (9, [.ref (r0 1), .int (fi0 0), .int (fi0 1), .int (fi0 2), .int (fi0 3), .int (fi0 4), .int (fi0 5), .int (fi0 6), .int (fi0 7), .int (fi0 8), .ref (r0 2), .int (fi0 9), .ref (r0 3), .ref (r0 4), .ref (r0 5), .ref (r0 6), .ref (r0 7), .ref (r0 8), .ref (r0 9), .ref (r0 10), .ref (r0 11), .ref (r0 12), .ref (r0 13), .ref (r0 14), .ref (r0 15), .ref (r0 16), .ref (r0 17), .ref (r0 18), .ref (r0 19), .ref (r0 20), .ref (r0 21), .ref (r0 22), .ref (r0 23), .ref (r0 24), .ref (r0 25), .ref (r0 26), .ref (r0 27), .ref (r0 28), .ref (r0 29), .ref (r0 30), .ref (r0 31), .ref (r0 32), .int (fi0 10), .ref (r0 33)])) :: ((r0 1), .inl (ca 2, 600, .inl (fa0 0))) :: ((r0 2), .inl (ca 0, 48, .inl (fa0 1))) :: ((r0 3), .inl (ca 0, 60, .inl (fa0 2))) :: ((r0 4), .inl (ca 0, 60, .inl (fa0 3))) :: ((r0 5), .inl (ca 0, 60, .inl (fa0 4))) :: ((r0 6), .inl (ca 0, 60, .inl (fa0 5))) :: ((r0 7), .inl (ca 0, 60, .inl (fa0 6))) :: ((r0 8), .inl (ca 0, 60, .inl (fa0 7))) :: ((r0 9), .inl (ca 0, 180, .inl (fa0 8))) :: ((r0 10), .inl (ca 0, 60, .inl (fa0 9))) :: ((r0 11), .inl (ca 0, 180, .inl (fa0 10))) :: ((r0 12), .inl (ca 0, 180, .inl (fa0 11))) :: ((r0 13), .inl (ca 0, 180, .inl (fa0 12))) :: ((r0 14), .inl (ca 0, 180, .inl (fa0 13))) :: ((r0 15), .inl (ca 0, 180, .inl (fa0 14))) :: ((r0 16), .inl (ca 0, 180, .inl (fa0 15))) :: ((r0 17), .inl (ca 0, 180, .inl (fa0 16))) :: ((r0 18), .inl (ca 0, 180, .inl (fa0 17))) :: ((r0 19), .inl (ca 0, 180, .inl (fa0 18))) :: ((r0 20), .inl (ca 0, 180, .inl (fa0 19))) :: ((r0 21), .inl (ca 0, 3, .inl (fa0 20))) :: ((r0 22), .inl (ca 1, 3, .inr (.inl (fb0 0)))) :: ((r0 23), .inl (ca 1, 3, .inr (.inl (fb0 1)))) :: ((r0 24), .inl (ca 3, 3, .inl (fa0 21))) :: ((r0 25), .inl (ca 0, 3, .inl (fa0 22))) :: ((r0 26), .inl (ca 0, 3, .inl (fa0 23))) :: ((r0 27), .inl (ca 0, 810, .inl (fa0 24))) :: ((r0 28), .inl (ca 3, 810, .inl (fa0 25))) :: ((r0 29), .inl (ca 1, 810, .inr (.inl (fb0 2)))) :: ((r0 30), .inl (ca 0, 810, .inl (fa0 26))) :: ((r0 31), .inl (ca 0, 3, .inl (fa0 27))) :: ((r0 32), .inl (ca 0, 60, .inl (fa0 28))) :: ((r0 33), .inl (ca 0, 4, .inl (fa0 29))) :: rest) H := hP
  have hD : va_D A (((r0 0), .inr (9, [.ref (r0 1), .int (fi0 0), .int (fi0 1), .int (fi0 2), .int (fi0 3), .int (fi0 4), .int (fi0 5), .int (fi0 6), .int (fi0 7), .int (fi0 8), .ref (r0 2), .int (fi0 9), .ref (r0 3), .ref (r0 4), .ref (r0 5), .ref (r0 6), .ref (r0 7), .ref (r0 8), .ref (r0 9), .ref (r0 10), .ref (r0 11), .ref (r0 12), .ref (r0 13), .ref (r0 14), .ref (r0 15), .ref (r0 16), .ref (r0 17), .ref (r0 18), .ref (r0 19), .ref (r0 20), .ref (r0 21), .ref (r0 22), .ref (r0 23), .ref (r0 24), .ref (r0 25), .ref (r0 26), .ref (r0 27), .ref (r0 28), .ref (r0 29), .ref (r0 30), .ref (r0 31), .ref (r0 32), .int (fi0 10), .ref (r0 33)])) :: ((r0 1), .inl (ca 2, 600, .inl (fa0 0))) :: ((r0 2), .inl (ca 0, 48, .inl (fa0 1))) :: ((r0 3), .inl (ca 0, 60, .inl (fa0 2))) :: ((r0 4), .inl (ca 0, 60, .inl (fa0 3))) :: ((r0 5), .inl (ca 0, 60, .inl (fa0 4))) :: ((r0 6), .inl (ca 0, 60, .inl (fa0 5))) :: ((r0 7), .inl (ca 0, 60, .inl (fa0 6))) :: ((r0 8), .inl (ca 0, 60, .inl (fa0 7))) :: ((r0 9), .inl (ca 0, 180, .inl (fa0 8))) :: ((r0 10), .inl (ca 0, 60, .inl (fa0 9))) :: ((r0 11), .inl (ca 0, 180, .inl (fa0 10))) :: ((r0 12), .inl (ca 0, 180, .inl (fa0 11))) :: ((r0 13), .inl (ca 0, 180, .inl (fa0 12))) :: ((r0 14), .inl (ca 0, 180, .inl (fa0 13))) :: ((r0 15), .inl (ca 0, 180, .inl (fa0 14))) :: ((r0 16), .inl (ca 0, 180, .inl (fa0 15))) :: ((r0 17), .inl (ca 0, 180, .inl (fa0 16))) :: ((r0 18), .inl (ca 0, 180, .inl (fa0 17))) :: ((r0 19), .inl (ca 0, 180, .inl (fa0 18))) :: ((r0 20), .inl (ca 0, 180, .inl (fa0 19))) :: ((r0 21), .inl (ca 0, 3, .inl (fa0 20))) :: ((r0 22), .inl (ca 1, 3, .inr (.inl (fb0 0)))) :: ((r0 23), .inl (ca 1, 3, .inr (.inl (fb0 1)))) :: ((r0 24), .inl (ca 3, 3, .inl (fa0 21))) :: ((r0 25), .inl (ca 0, 3, .inl (fa0 22))) :: ((r0 26), .inl (ca 0, 3, .inl (fa0 23))) :: ((r0 27), .inl (ca 0, 810, .inl (fa0 24))) :: ((r0 28), .inl (ca 3, 810, .inl (fa0 25))) :: ((r0 29), .inl (ca 1, 810, .inr (.inl (fb0 2)))) :: ((r0 30), .inl (ca 0, 810, .inl (fa0 26))) :: ((r0 31), .inl (ca 0, 3, .inl (fa0 27))) :: ((r0 32), .inl (ca 0, 60, .inl (fa0 28))) :: ((r0 33), .inl (ca 0, 4, .inl (fa0 29))) :: rest) := hD
  have hl := lv_entry ([.ref (r0 0), .int p1, .int p2]) (n := 5) (Nat.le_of_ble_eq_true rfl)
  rw [lg_entry_eq]
  generalize (lg_sl ([.ref (r0 0), .int p1, .int p2]) ++ List.replicate (5 - (lg_sl ([.ref (r0 0), .int p1, .int p2])).length) Slot.unset).toArray = ls at hl ⊢
  have hl : lv_has ls 5 [(0, .ref (r0 0)), (1, .int p1), (2, .int p2)] := hl
  generalize hQ9 : MQ below _ _ s 0 0 A = Q9
  refine lv_iconst (v := 0) hx hb dX9_births_0 (by decide) ?_
  refine lv_topi (fun t1 et1 => ?_)
  have ht1 : t1.toInt = 0 := by rw [et1]; decide
  refine lv_istore_n (lv' := [(3, .int t1), (0, .ref (r0 0)), (1, .int p1), (2, .int p2)]) hx hb dX9_births_1 rfl hl (by decide) rfl (fun ls hl => ?_)
  have J2_2 : ∀ (n2 : Nat) (x3_2 : Int32) (gi0_2 : Nat → Int32) (gl0_2 : Nat → Int64) (ga0_2 : Nat → Nat → Int32) (gb0_2 : Nat → Nat → Int64) (H : Heap) (locs : List Loc) (hP : va_P D vwCl (((r0 0), .inr (9, [.ref (r0 1), .int (fi0 0), .int (fi0 1), .int (fi0 2), .int (fi0 3), .int (fi0 4), .int (fi0 5), .int (fi0 6), .int (fi0 7), .int (fi0 8), .ref (r0 2), .int (fi0 9), .ref (r0 3), .ref (r0 4), .ref (r0 5), .ref (r0 6), .ref (r0 7), .ref (r0 8), .ref (r0 9), .ref (r0 10), .ref (r0 11), .ref (r0 12), .ref (r0 13), .ref (r0 14), .ref (r0 15), .ref (r0 16), .ref (r0 17), .ref (r0 18), .ref (r0 19), .ref (r0 20), .ref (r0 21), .ref (r0 22), .ref (r0 23), .ref (r0 24), .ref (r0 25), .ref (r0 26), .ref (r0 27), .ref (r0 28), .ref (r0 29), .ref (r0 30), .ref (r0 31), .ref (r0 32), .int (fi0 10), .ref (r0 33)])) :: ((r0 1), .inl (ca 2, 600, .inl (fa0 0))) :: ((r0 2), .inl (ca 0, 48, .inl (fa0 1))) :: ((r0 3), .inl (ca 0, 60, .inl (fa0 2))) :: ((r0 4), .inl (ca 0, 60, .inl (fa0 3))) :: ((r0 5), .inl (ca 0, 60, .inl (fa0 4))) :: ((r0 6), .inl (ca 0, 60, .inl (fa0 5))) :: ((r0 7), .inl (ca 0, 60, .inl (fa0 6))) :: ((r0 8), .inl (ca 0, 60, .inl (fa0 7))) :: ((r0 9), .inl (ca 0, 180, .inl (fa0 8))) :: ((r0 10), .inl (ca 0, 60, .inl (fa0 9))) :: ((r0 11), .inl (ca 0, 180, .inl (ga0_2 10))) :: ((r0 12), .inl (ca 0, 180, .inl (ga0_2 11))) :: ((r0 13), .inl (ca 0, 180, .inl (ga0_2 12))) :: ((r0 14), .inl (ca 0, 180, .inl (fa0 13))) :: ((r0 15), .inl (ca 0, 180, .inl (fa0 14))) :: ((r0 16), .inl (ca 0, 180, .inl (fa0 15))) :: ((r0 17), .inl (ca 0, 180, .inl (fa0 16))) :: ((r0 18), .inl (ca 0, 180, .inl (fa0 17))) :: ((r0 19), .inl (ca 0, 180, .inl (fa0 18))) :: ((r0 20), .inl (ca 0, 180, .inl (fa0 19))) :: ((r0 21), .inl (ca 0, 3, .inl (fa0 20))) :: ((r0 22), .inl (ca 1, 3, .inr (.inl (fb0 0)))) :: ((r0 23), .inl (ca 1, 3, .inr (.inl (fb0 1)))) :: ((r0 24), .inl (ca 3, 3, .inl (fa0 21))) :: ((r0 25), .inl (ca 0, 3, .inl (fa0 22))) :: ((r0 26), .inl (ca 0, 3, .inl (fa0 23))) :: ((r0 27), .inl (ca 0, 810, .inl (fa0 24))) :: ((r0 28), .inl (ca 3, 810, .inl (fa0 25))) :: ((r0 29), .inl (ca 1, 810, .inr (.inl (fb0 2)))) :: ((r0 30), .inl (ca 0, 810, .inl (fa0 26))) :: ((r0 31), .inl (ca 0, 3, .inl (fa0 27))) :: ((r0 32), .inl (ca 0, 60, .inl (fa0 28))) :: ((r0 33), .inl (ca 0, 4, .inl (fa0 29))) :: rest) H) (hD : va_D A (((r0 0), .inr (9, [.ref (r0 1), .int (fi0 0), .int (fi0 1), .int (fi0 2), .int (fi0 3), .int (fi0 4), .int (fi0 5), .int (fi0 6), .int (fi0 7), .int (fi0 8), .ref (r0 2), .int (fi0 9), .ref (r0 3), .ref (r0 4), .ref (r0 5), .ref (r0 6), .ref (r0 7), .ref (r0 8), .ref (r0 9), .ref (r0 10), .ref (r0 11), .ref (r0 12), .ref (r0 13), .ref (r0 14), .ref (r0 15), .ref (r0 16), .ref (r0 17), .ref (r0 18), .ref (r0 19), .ref (r0 20), .ref (r0 21), .ref (r0 22), .ref (r0 23), .ref (r0 24), .ref (r0 25), .ref (r0 26), .ref (r0 27), .ref (r0 28), .ref (r0 29), .ref (r0 30), .ref (r0 31), .ref (r0 32), .int (fi0 10), .ref (r0 33)])) :: ((r0 1), .inl (ca 2, 600, .inl (fa0 0))) :: ((r0 2), .inl (ca 0, 48, .inl (fa0 1))) :: ((r0 3), .inl (ca 0, 60, .inl (fa0 2))) :: ((r0 4), .inl (ca 0, 60, .inl (fa0 3))) :: ((r0 5), .inl (ca 0, 60, .inl (fa0 4))) :: ((r0 6), .inl (ca 0, 60, .inl (fa0 5))) :: ((r0 7), .inl (ca 0, 60, .inl (fa0 6))) :: ((r0 8), .inl (ca 0, 60, .inl (fa0 7))) :: ((r0 9), .inl (ca 0, 180, .inl (fa0 8))) :: ((r0 10), .inl (ca 0, 60, .inl (fa0 9))) :: ((r0 11), .inl (ca 0, 180, .inl (ga0_2 10))) :: ((r0 12), .inl (ca 0, 180, .inl (ga0_2 11))) :: ((r0 13), .inl (ca 0, 180, .inl (ga0_2 12))) :: ((r0 14), .inl (ca 0, 180, .inl (fa0 13))) :: ((r0 15), .inl (ca 0, 180, .inl (fa0 14))) :: ((r0 16), .inl (ca 0, 180, .inl (fa0 15))) :: ((r0 17), .inl (ca 0, 180, .inl (fa0 16))) :: ((r0 18), .inl (ca 0, 180, .inl (fa0 17))) :: ((r0 19), .inl (ca 0, 180, .inl (fa0 18))) :: ((r0 20), .inl (ca 0, 180, .inl (fa0 19))) :: ((r0 21), .inl (ca 0, 3, .inl (fa0 20))) :: ((r0 22), .inl (ca 1, 3, .inr (.inl (fb0 0)))) :: ((r0 23), .inl (ca 1, 3, .inr (.inl (fb0 1)))) :: ((r0 24), .inl (ca 3, 3, .inl (fa0 21))) :: ((r0 25), .inl (ca 0, 3, .inl (fa0 22))) :: ((r0 26), .inl (ca 0, 3, .inl (fa0 23))) :: ((r0 27), .inl (ca 0, 810, .inl (fa0 24))) :: ((r0 28), .inl (ca 3, 810, .inl (fa0 25))) :: ((r0 29), .inl (ca 1, 810, .inr (.inl (fb0 2)))) :: ((r0 30), .inl (ca 0, 810, .inl (fa0 26))) :: ((r0 31), .inl (ca 0, 3, .inl (fa0 27))) :: ((r0 32), .inl (ca 0, 60, .inl (fa0 28))) :: ((r0 33), .inl (ca 0, 4, .inl (fa0 29))) :: rest)) (hS : va_S A s.heap H locs) (ls : Array Slot) (hl : lv_has ls 5 [(0, .ref (r0 0)), (1, .int p1), (2, .int p2), (3, .int x3_2)]) (hg0_2 : (0 ≤ (fi0 0).toInt ∧ (fi0 0).toInt ≤ 600) ∧ (0 ≤ (fi0 1).toInt ∧ (fi0 1).toInt ≤ 600) ∧ (0 ≤ (fi0 5).toInt ∧ (fi0 5).toInt ≤ 600) ∧ (0 ≤ (fi0 9).toInt ∧ (fi0 9).toInt ≤ 60) ∧ z_rng (-1) 59 (fa0 6) ∧ z_rng 0 59 (fa0 8) ∧ z_rng 0 3 (fa0 9) ∧ z_rng 0 269 (fa0 23) ∧ z_rng 0 5 (fa0 27) ∧ z_rng 0 59 (fa0 28) ∧ ((fi0 2).toInt = 1 → 0 ≤ (fi0 3).toInt) ∧ zOkR (fa0 1) (fa0 27)) (hf2_0 : 0 ≤ x3_2.toInt ∧ x3_2.toInt ≤ 60), (61 - x3_2.toInt).toNat < n2 → W p l e (headSpec wsX9_births ({ frames := 1, cells := 0, slots := 0, locals := 24 })).room s m ([.ref (r0 0), .int p1, .int p2] : List Value).toArray below meth c H locs 0 0 Q9 (F0 m 2 ls []) := by
    intro n2
    induction n2 with
    | zero => intro x3_2 gi0_2 gl0_2 ga0_2 gb0_2 H locs hP hD hS ls hl hg0_2 hf2_0 hn9; exact absurd hn9 (Nat.not_lt_zero _)
    | succ n2 ih2 =>
      intro x3_2 gi0_2 gl0_2 ga0_2 gb0_2 H locs hP hD hS ls hl hg0_2 hf2_0 hn9
      obtain ⟨-, -, -, -, -, -, -, -, -, -, -, -⟩ := hg0_2
      refine lv_iload_n hx hb dX9_births_2 rfl (lv_at hl 3 rfl) ?_
      refine lv_aload_n hx hb dX9_births_3 rfl (lv_at hl 0 rfl) ?_
      refine va_get (D := D) (ci := 9) (v := .int (fi0 9)) (C := RX9) (T := TX9) (N := 44) hx hb hts inX9 hown hK hP 0 rfl rfl 11 (by decide) lk192 (fun _ h9 => h9) rfl dX9_births_4 ?_
      refine lv_icmp_ge (tgt := 98) hx hb dX9_births_7 (by decide) (fun c3 => ?_) (fun c3 => ?_)
      ·
        have c3 := z_le (i := (fi0 9).toInt) (j := x3_2.toInt) rfl rfl c3
        subst hQ9
        have ho4 : (0 ≤ (fi0 0).toInt ∧ (fi0 0).toInt ≤ 600) ∧ (0 ≤ (fi0 1).toInt ∧ (fi0 1).toInt ≤ 600) ∧ (0 ≤ (fi0 5).toInt ∧ (fi0 5).toInt ≤ 600) ∧ (0 ≤ (fi0 9).toInt ∧ (fi0 9).toInt ≤ 60) ∧ z_rng (-1) 59 (fa0 6) ∧ z_rng 0 59 (fa0 8) ∧ z_rng 0 3 (fa0 9) ∧ z_rng 0 269 (fa0 23) ∧ z_rng 0 5 (fa0 27) ∧ z_rng 0 59 (fa0 28) ∧ ((fi0 2).toInt = 1 → 0 ≤ (fi0 3).toInt) ∧ zOkR (fa0 1) (fa0 27) := ⟨⟨by omega, by omega⟩, ⟨by omega, by omega⟩, ⟨by omega, by omega⟩, ⟨by omega, by omega⟩, hv0a6, hv0a8, hv0a9, hv0a23, hv0a27, hv0a28, by omega, hv0y0⟩
        exact W.vret hx hb hr (fun t ht hW => ⟨⟨((zl 0 [(fi0 0), (fi0 1), (fi0 2), (fi0 3), (fi0 4), (fi0 5), (fi0 6), (fi0 7), (fi0 8), (fi0 9), (fi0 10)]), (zl 0 []), (zl (fun _ => 0) [(fa0 0), (fa0 1), (fa0 2), (fa0 3), (fa0 4), (fa0 5), (fa0 6), (fa0 7), (fa0 8), (fa0 9), (ga0_2 10), (ga0_2 11), (ga0_2 12), (fa0 13), (fa0 14), (fa0 15), (fa0 16), (fa0 17), (fa0 18), (fa0 19), (fa0 20), (fa0 21), (fa0 22), (fa0 23), (fa0 24), (fa0 25), (fa0 26), (fa0 27), (fa0 28), (fa0 29)]), (zl (fun _ => 0) [(fb0 0), (fb0 1), (fb0 2)])), rfl, ho4, ⟨by rw [ht]; exact hP, hD⟩⟩, hS.F ht⟩) hS.2.2 dX9_births_98
      ·
        have c3 := z_nle (i := (fi0 9).toInt) (j := x3_2.toInt) rfl rfl c3
        refine lv_aload_n hx hb dX9_births_10 rfl (lv_at hl 0 rfl) ?_
        refine va_get (D := D) (ci := 9) (v := .ref (r0 7)) (C := RX9) (T := TX9) (N := 44) hx hb hts inX9 hown hK hP 0 rfl rfl 16 (by decide) lk33 (fun _ h9 => h9) rfl dX9_births_11 ?_
        refine lv_iload_n hx hb dX9_births_14 rfl (lv_at hl 3 rfl) ?_
        have hi5 : vp_in x3_2 60 := z_in (i := x3_2.toInt) rfl (by omega) (by omega)
        refine va_iald hx hb hK hP 7 0 rfl rfl hi5 dX9_births_15 ?_
        refine lv_topi (fun t6 et6 => ?_)
        have ht6 := z_at hv0a6 et6
        refine lv_iconst (v := (-1)) hx hb dX9_births_16 (by decide) ?_
        have J63_7 : ∀ (k0_7 : Int32) (ls : Array Slot) (hl : lv_has ls 5 [(0, .ref (r0 0)), (1, .int p1), (2, .int p2), (3, .int x3_2)]) (hf7_0 : 0 ≤ k0_7.toInt ∧ k0_7.toInt ≤ 1), W p l e (headSpec wsX9_births ({ frames := 1, cells := 0, slots := 0, locals := 24 })).room s m ([.ref (r0 0), .int p1, .int p2] : List Value).toArray below meth c H locs 0 0 Q9 (F0 m 63 ls [.int k0_7]) := by
          intro k0_7 ls hl hf7_0
          refine lv_istore (lv' := [(4, .int k0_7), (0, .ref (r0 0)), (1, .int p1), (2, .int p2), (3, .int x3_2)]) hx hb dX9_births_63 hl (by decide) rfl (fun ls hl => ?_)
          refine lv_iload hx hb dX9_births_65 (lv_at hl 0 rfl) ?_
          have J92_8 : ∀ (gi0_8 : Nat → Int32) (gl0_8 : Nat → Int64) (ga0_8 : Nat → Nat → Int32) (gb0_8 : Nat → Nat → Int64) (H : Heap) (locs : List Loc) (hP : va_P D vwCl (((r0 0), .inr (9, [.ref (r0 1), .int (fi0 0), .int (fi0 1), .int (fi0 2), .int (fi0 3), .int (fi0 4), .int (fi0 5), .int (fi0 6), .int (fi0 7), .int (fi0 8), .ref (r0 2), .int (fi0 9), .ref (r0 3), .ref (r0 4), .ref (r0 5), .ref (r0 6), .ref (r0 7), .ref (r0 8), .ref (r0 9), .ref (r0 10), .ref (r0 11), .ref (r0 12), .ref (r0 13), .ref (r0 14), .ref (r0 15), .ref (r0 16), .ref (r0 17), .ref (r0 18), .ref (r0 19), .ref (r0 20), .ref (r0 21), .ref (r0 22), .ref (r0 23), .ref (r0 24), .ref (r0 25), .ref (r0 26), .ref (r0 27), .ref (r0 28), .ref (r0 29), .ref (r0 30), .ref (r0 31), .ref (r0 32), .int (fi0 10), .ref (r0 33)])) :: ((r0 1), .inl (ca 2, 600, .inl (fa0 0))) :: ((r0 2), .inl (ca 0, 48, .inl (fa0 1))) :: ((r0 3), .inl (ca 0, 60, .inl (fa0 2))) :: ((r0 4), .inl (ca 0, 60, .inl (fa0 3))) :: ((r0 5), .inl (ca 0, 60, .inl (fa0 4))) :: ((r0 6), .inl (ca 0, 60, .inl (fa0 5))) :: ((r0 7), .inl (ca 0, 60, .inl (fa0 6))) :: ((r0 8), .inl (ca 0, 60, .inl (fa0 7))) :: ((r0 9), .inl (ca 0, 180, .inl (fa0 8))) :: ((r0 10), .inl (ca 0, 60, .inl (fa0 9))) :: ((r0 11), .inl (ca 0, 180, .inl (ga0_8 10))) :: ((r0 12), .inl (ca 0, 180, .inl (ga0_8 11))) :: ((r0 13), .inl (ca 0, 180, .inl (ga0_8 12))) :: ((r0 14), .inl (ca 0, 180, .inl (fa0 13))) :: ((r0 15), .inl (ca 0, 180, .inl (fa0 14))) :: ((r0 16), .inl (ca 0, 180, .inl (fa0 15))) :: ((r0 17), .inl (ca 0, 180, .inl (fa0 16))) :: ((r0 18), .inl (ca 0, 180, .inl (fa0 17))) :: ((r0 19), .inl (ca 0, 180, .inl (fa0 18))) :: ((r0 20), .inl (ca 0, 180, .inl (fa0 19))) :: ((r0 21), .inl (ca 0, 3, .inl (fa0 20))) :: ((r0 22), .inl (ca 1, 3, .inr (.inl (fb0 0)))) :: ((r0 23), .inl (ca 1, 3, .inr (.inl (fb0 1)))) :: ((r0 24), .inl (ca 3, 3, .inl (fa0 21))) :: ((r0 25), .inl (ca 0, 3, .inl (fa0 22))) :: ((r0 26), .inl (ca 0, 3, .inl (fa0 23))) :: ((r0 27), .inl (ca 0, 810, .inl (fa0 24))) :: ((r0 28), .inl (ca 3, 810, .inl (fa0 25))) :: ((r0 29), .inl (ca 1, 810, .inr (.inl (fb0 2)))) :: ((r0 30), .inl (ca 0, 810, .inl (fa0 26))) :: ((r0 31), .inl (ca 0, 3, .inl (fa0 27))) :: ((r0 32), .inl (ca 0, 60, .inl (fa0 28))) :: ((r0 33), .inl (ca 0, 4, .inl (fa0 29))) :: rest) H) (hD : va_D A (((r0 0), .inr (9, [.ref (r0 1), .int (fi0 0), .int (fi0 1), .int (fi0 2), .int (fi0 3), .int (fi0 4), .int (fi0 5), .int (fi0 6), .int (fi0 7), .int (fi0 8), .ref (r0 2), .int (fi0 9), .ref (r0 3), .ref (r0 4), .ref (r0 5), .ref (r0 6), .ref (r0 7), .ref (r0 8), .ref (r0 9), .ref (r0 10), .ref (r0 11), .ref (r0 12), .ref (r0 13), .ref (r0 14), .ref (r0 15), .ref (r0 16), .ref (r0 17), .ref (r0 18), .ref (r0 19), .ref (r0 20), .ref (r0 21), .ref (r0 22), .ref (r0 23), .ref (r0 24), .ref (r0 25), .ref (r0 26), .ref (r0 27), .ref (r0 28), .ref (r0 29), .ref (r0 30), .ref (r0 31), .ref (r0 32), .int (fi0 10), .ref (r0 33)])) :: ((r0 1), .inl (ca 2, 600, .inl (fa0 0))) :: ((r0 2), .inl (ca 0, 48, .inl (fa0 1))) :: ((r0 3), .inl (ca 0, 60, .inl (fa0 2))) :: ((r0 4), .inl (ca 0, 60, .inl (fa0 3))) :: ((r0 5), .inl (ca 0, 60, .inl (fa0 4))) :: ((r0 6), .inl (ca 0, 60, .inl (fa0 5))) :: ((r0 7), .inl (ca 0, 60, .inl (fa0 6))) :: ((r0 8), .inl (ca 0, 60, .inl (fa0 7))) :: ((r0 9), .inl (ca 0, 180, .inl (fa0 8))) :: ((r0 10), .inl (ca 0, 60, .inl (fa0 9))) :: ((r0 11), .inl (ca 0, 180, .inl (ga0_8 10))) :: ((r0 12), .inl (ca 0, 180, .inl (ga0_8 11))) :: ((r0 13), .inl (ca 0, 180, .inl (ga0_8 12))) :: ((r0 14), .inl (ca 0, 180, .inl (fa0 13))) :: ((r0 15), .inl (ca 0, 180, .inl (fa0 14))) :: ((r0 16), .inl (ca 0, 180, .inl (fa0 15))) :: ((r0 17), .inl (ca 0, 180, .inl (fa0 16))) :: ((r0 18), .inl (ca 0, 180, .inl (fa0 17))) :: ((r0 19), .inl (ca 0, 180, .inl (fa0 18))) :: ((r0 20), .inl (ca 0, 180, .inl (fa0 19))) :: ((r0 21), .inl (ca 0, 3, .inl (fa0 20))) :: ((r0 22), .inl (ca 1, 3, .inr (.inl (fb0 0)))) :: ((r0 23), .inl (ca 1, 3, .inr (.inl (fb0 1)))) :: ((r0 24), .inl (ca 3, 3, .inl (fa0 21))) :: ((r0 25), .inl (ca 0, 3, .inl (fa0 22))) :: ((r0 26), .inl (ca 0, 3, .inl (fa0 23))) :: ((r0 27), .inl (ca 0, 810, .inl (fa0 24))) :: ((r0 28), .inl (ca 3, 810, .inl (fa0 25))) :: ((r0 29), .inl (ca 1, 810, .inr (.inl (fb0 2)))) :: ((r0 30), .inl (ca 0, 810, .inl (fa0 26))) :: ((r0 31), .inl (ca 0, 3, .inl (fa0 27))) :: ((r0 32), .inl (ca 0, 60, .inl (fa0 28))) :: ((r0 33), .inl (ca 0, 4, .inl (fa0 29))) :: rest)) (hS : va_S A s.heap H locs) (ls : Array Slot) (hl : lv_has ls 5 [(0, .ref (r0 0)), (1, .int p1), (2, .int p2), (3, .int x3_2)]) (hg0_8 : (0 ≤ (fi0 0).toInt ∧ (fi0 0).toInt ≤ 600) ∧ (0 ≤ (fi0 1).toInt ∧ (fi0 1).toInt ≤ 600) ∧ (0 ≤ (fi0 5).toInt ∧ (fi0 5).toInt ≤ 600) ∧ (0 ≤ (fi0 9).toInt ∧ (fi0 9).toInt ≤ 60) ∧ z_rng (-1) 59 (fa0 6) ∧ z_rng 0 59 (fa0 8) ∧ z_rng 0 3 (fa0 9) ∧ z_rng 0 269 (fa0 23) ∧ z_rng 0 5 (fa0 27) ∧ z_rng 0 59 (fa0 28) ∧ ((fi0 2).toInt = 1 → 0 ≤ (fi0 3).toInt) ∧ zOkR (fa0 1) (fa0 27)), W p l e (headSpec wsX9_births ({ frames := 1, cells := 0, slots := 0, locals := 24 })).room s m ([.ref (r0 0), .int p1, .int p2] : List Value).toArray below meth c H locs 0 0 Q9 (F0 m 92 ls []) := by
            intro gi0_8 gl0_8 ga0_8 gb0_8 H locs hP hD hS ls hl hg0_8
            obtain ⟨-, -, -, -, -, -, -, -, -, -, -, -⟩ := hg0_8
            obtain ⟨t9, et9⟩ : ∃ y : Int32, y = x3_2 + 1 := ⟨_, rfl⟩
            try have ht9 : t9.toInt = x3_2.toInt + 1 := z_add et9 rfl (by decide) (by omega -splitDisjunctions) (by omega -splitDisjunctions)
            refine lv_iinc (v := t9) (lv' := [(3, .int t9), (0, .ref (r0 0)), (1, .int p1), (2, .int p2)]) hx hb dX9_births_92 hl (k := 3) rfl (by rw [et9]; rfl) (by decide) rfl (fun ls hl => ?_)
            refine lv_goto (tgt := 2) hx hb dX9_births_95 (by decide) ?_
            have ho10 : (0 ≤ (fi0 0).toInt ∧ (fi0 0).toInt ≤ 600) ∧ (0 ≤ (fi0 1).toInt ∧ (fi0 1).toInt ≤ 600) ∧ (0 ≤ (fi0 5).toInt ∧ (fi0 5).toInt ≤ 600) ∧ (0 ≤ (fi0 9).toInt ∧ (fi0 9).toInt ≤ 60) ∧ z_rng (-1) 59 (fa0 6) ∧ z_rng 0 59 (fa0 8) ∧ z_rng 0 3 (fa0 9) ∧ z_rng 0 269 (fa0 23) ∧ z_rng 0 5 (fa0 27) ∧ z_rng 0 59 (fa0 28) ∧ ((fi0 2).toInt = 1 → 0 ≤ (fi0 3).toInt) ∧ zOkR (fa0 1) (fa0 27) := ⟨⟨by omega, by omega⟩, ⟨by omega, by omega⟩, ⟨by omega, by omega⟩, ⟨by omega, by omega⟩, hv0a6, hv0a8, hv0a9, hv0a23, hv0a27, hv0a28, by omega, hv0y0⟩
            have hj11 : 0 ≤ t9.toInt ∧ t9.toInt ≤ 60 := by omega
            have hm12 : (61 - t9.toInt).toNat < n2 := by omega
            exact ih2 t9 (zl 0 [(fi0 0), (fi0 1), (fi0 2), (fi0 3), (fi0 4), (fi0 5), (fi0 6), (fi0 7), (fi0 8), (fi0 9), (fi0 10)]) (zl 0 []) (zl (fun _ => 0) [(fa0 0), (fa0 1), (fa0 2), (fa0 3), (fa0 4), (fa0 5), (fa0 6), (fa0 7), (fa0 8), (fa0 9), (ga0_8 10), (ga0_8 11), (ga0_8 12), (fa0 13), (fa0 14), (fa0 15), (fa0 16), (fa0 17), (fa0 18), (fa0 19), (fa0 20), (fa0 21), (fa0 22), (fa0 23), (fa0 24), (fa0 25), (fa0 26), (fa0 27), (fa0 28), (fa0 29)]) (zl (fun _ => 0) [(fb0 0), (fb0 1), (fb0 2)]) _ _ hP hD hS ls (lv_sub hl [1, 2, 3, 0] rfl) ho10 hj11 hm12
          refine lv_if_eq (tgt := 92) hx hb dX9_births_67 (by decide) (fun c13 => ?_) (fun c13 => ?_)
          ·
            have c13 := z_eq (i := k0_7.toInt) (j := 0) rfl (by decide) c13
            have ho14 : (0 ≤ (fi0 0).toInt ∧ (fi0 0).toInt ≤ 600) ∧ (0 ≤ (fi0 1).toInt ∧ (fi0 1).toInt ≤ 600) ∧ (0 ≤ (fi0 5).toInt ∧ (fi0 5).toInt ≤ 600) ∧ (0 ≤ (fi0 9).toInt ∧ (fi0 9).toInt ≤ 60) ∧ z_rng (-1) 59 (fa0 6) ∧ z_rng 0 59 (fa0 8) ∧ z_rng 0 3 (fa0 9) ∧ z_rng 0 269 (fa0 23) ∧ z_rng 0 5 (fa0 27) ∧ z_rng 0 59 (fa0 28) ∧ ((fi0 2).toInt = 1 → 0 ≤ (fi0 3).toInt) ∧ zOkR (fa0 1) (fa0 27) := ⟨⟨by omega, by omega⟩, ⟨by omega, by omega⟩, ⟨by omega, by omega⟩, ⟨by omega, by omega⟩, hv0a6, hv0a8, hv0a9, hv0a23, hv0a27, hv0a28, by omega, hv0y0⟩
            exact J92_8 (zl 0 [(fi0 0), (fi0 1), (fi0 2), (fi0 3), (fi0 4), (fi0 5), (fi0 6), (fi0 7), (fi0 8), (fi0 9), (fi0 10)]) (zl 0 []) (zl (fun _ => 0) [(fa0 0), (fa0 1), (fa0 2), (fa0 3), (fa0 4), (fa0 5), (fa0 6), (fa0 7), (fa0 8), (fa0 9), (ga0_2 10), (ga0_2 11), (ga0_2 12), (fa0 13), (fa0 14), (fa0 15), (fa0 16), (fa0 17), (fa0 18), (fa0 19), (fa0 20), (fa0 21), (fa0 22), (fa0 23), (fa0 24), (fa0 25), (fa0 26), (fa0 27), (fa0 28), (fa0 29)]) (zl (fun _ => 0) [(fb0 0), (fb0 1), (fb0 2)]) _ _ hP hD hS ls (lv_sub hl [1, 2, 3, 4] rfl) ho14
          ·
            have c13 := z_ne (i := k0_7.toInt) (j := 0) rfl (by decide) c13
            refine lv_aload_n hx hb dX9_births_70 rfl (lv_at hl 1 rfl) ?_
            refine va_get (D := D) (ci := 9) (v := .ref (r0 11)) (C := RX9) (T := TX9) (N := 44) hx hb hts inX9 hown hK hP 0 rfl rfl 20 (by decide) lk45 (fun _ h9 => h9) rfl dX9_births_71 ?_
            refine lv_bipush (v := 60) hx hb dX9_births_74 (by decide) ?_
            refine lv_iload_n hx hb dX9_births_76 rfl (lv_at hl 2 rfl) ?_
            refine lv_imul hx hb dX9_births_77 ?_
            refine lv_topi (fun t15 et15 => ?_)
            try have ht15 : t15.toInt = 60 * p1.toInt := z_mul et15 (by decide) rfl (by omega -splitDisjunctions) (by omega -splitDisjunctions)
            refine lv_iload_n hx hb dX9_births_78 rfl (lv_at hl 4 rfl) ?_
            refine lv_iadd hx hb dX9_births_79 ?_
            refine lv_topi (fun t16 et16 => ?_)
            try have ht16 : t16.toInt = t15.toInt + x3_2.toInt := z_add et16 rfl rfl (by omega -splitDisjunctions) (by omega -splitDisjunctions)
            have hi17 : vp_in t16 180 := z_in (i := t16.toInt) rfl (by omega) (by omega)
            refine va_iald hx hb hK hP 11 0 rfl rfl hi17 dX9_births_80 ?_
            refine lv_topi (fun t18 et18 => ?_)
            refine lv_iconst (v := (-1)) hx hb dX9_births_81 (by decide) ?_
            refine lv_icmp_ne (tgt := 92) hx hb dX9_births_82 (by decide) (fun c19 => ?_) (fun c19 => ?_)
            ·
              have c19 := z_ne (i := t18.toInt) (j := (-1)) rfl (by decide) c19
              have ho20 : (0 ≤ (fi0 0).toInt ∧ (fi0 0).toInt ≤ 600) ∧ (0 ≤ (fi0 1).toInt ∧ (fi0 1).toInt ≤ 600) ∧ (0 ≤ (fi0 5).toInt ∧ (fi0 5).toInt ≤ 600) ∧ (0 ≤ (fi0 9).toInt ∧ (fi0 9).toInt ≤ 60) ∧ z_rng (-1) 59 (fa0 6) ∧ z_rng 0 59 (fa0 8) ∧ z_rng 0 3 (fa0 9) ∧ z_rng 0 269 (fa0 23) ∧ z_rng 0 5 (fa0 27) ∧ z_rng 0 59 (fa0 28) ∧ ((fi0 2).toInt = 1 → 0 ≤ (fi0 3).toInt) ∧ zOkR (fa0 1) (fa0 27) := ⟨⟨by omega, by omega⟩, ⟨by omega, by omega⟩, ⟨by omega, by omega⟩, ⟨by omega, by omega⟩, hv0a6, hv0a8, hv0a9, hv0a23, hv0a27, hv0a28, by omega, hv0y0⟩
              exact J92_8 (zl 0 [(fi0 0), (fi0 1), (fi0 2), (fi0 3), (fi0 4), (fi0 5), (fi0 6), (fi0 7), (fi0 8), (fi0 9), (fi0 10)]) (zl 0 []) (zl (fun _ => 0) [(fa0 0), (fa0 1), (fa0 2), (fa0 3), (fa0 4), (fa0 5), (fa0 6), (fa0 7), (fa0 8), (fa0 9), (ga0_2 10), (ga0_2 11), (ga0_2 12), (fa0 13), (fa0 14), (fa0 15), (fa0 16), (fa0 17), (fa0 18), (fa0 19), (fa0 20), (fa0 21), (fa0 22), (fa0 23), (fa0 24), (fa0 25), (fa0 26), (fa0 27), (fa0 28), (fa0 29)]) (zl (fun _ => 0) [(fb0 0), (fb0 1), (fb0 2)]) _ _ hP hD hS ls (lv_sub hl [1, 2, 3, 4] rfl) ho20
            ·
              have c19 := z_eq (i := t18.toInt) (j := (-1)) rfl (by decide) c19
              refine lv_aload_n hx hb dX9_births_85 rfl (lv_at hl 1 rfl) ?_
              refine lv_iload_n hx hb dX9_births_86 rfl (lv_at hl 2 rfl) ?_
              refine lv_iload_n hx hb dX9_births_87 rfl (lv_at hl 4 rfl) ?_
              refine lv_iload_n hx hb dX9_births_88 rfl (lv_at hl 3 rfl) ?_
              have ho21 : (0 ≤ (fi0 0).toInt ∧ (fi0 0).toInt ≤ 600) ∧ (0 ≤ (fi0 1).toInt ∧ (fi0 1).toInt ≤ 600) ∧ (0 ≤ (fi0 5).toInt ∧ (fi0 5).toInt ≤ 600) ∧ (0 ≤ (fi0 9).toInt ∧ (fi0 9).toInt ≤ 60) ∧ z_rng (-1) 59 (fa0 6) ∧ z_rng 0 59 (fa0 8) ∧ z_rng 0 3 (fa0 9) ∧ z_rng 0 269 (fa0 23) ∧ z_rng 0 5 (fa0 27) ∧ z_rng 0 59 (fa0 28) ∧ ((fi0 2).toInt = 1 → 0 ≤ (fi0 3).toInt) ∧ zOkR (fa0 1) (fa0 27) := ⟨⟨by omega, by omega⟩, ⟨by omega, by omega⟩, ⟨by omega, by omega⟩, ⟨by omega, by omega⟩, hv0a6, hv0a8, hv0a9, hv0a23, hv0a27, hv0a28, by omega, hv0y0⟩
              have hp22 : 0 ≤ p1.toInt ∧ p1.toInt ≤ 2 := by omega
              have hp23 : 0 ≤ x3_2.toInt ∧ x3_2.toInt ≤ 59 := by omega
              refine z_vV (As := [.int p1, .int x3_2, .int p2]) (rest := []) hF (c_X9_isBorn l D ca sa A rest (zl 0 [(r0 0), (r0 1), (r0 2), (r0 3), (r0 4), (r0 5), (r0 6), (r0 7), (r0 8), (r0 9), (r0 10), (r0 11), (r0 12), (r0 13), (r0 14), (r0 15), (r0 16), (r0 17), (r0 18), (r0 19), (r0 20), (r0 21), (r0 22), (r0 23), (r0 24), (r0 25), (r0 26), (r0 27), (r0 28), (r0 29), (r0 30), (r0 31), (r0 32), (r0 33)]) (zl 0 [(fi0 0), (fi0 1), (fi0 2), (fi0 3), (fi0 4), (fi0 5), (fi0 6), (fi0 7), (fi0 8), (fi0 9), (fi0 10)]) (zl 0 []) (zl (fun _ => 0) [(fa0 0), (fa0 1), (fa0 2), (fa0 3), (fa0 4), (fa0 5), (fa0 6), (fa0 7), (fa0 8), (fa0 9), (ga0_2 10), (ga0_2 11), (ga0_2 12), (fa0 13), (fa0 14), (fa0 15), (fa0 16), (fa0 17), (fa0 18), (fa0 19), (fa0 20), (fa0 21), (fa0 22), (fa0 23), (fa0 24), (fa0 25), (fa0 26), (fa0 27), (fa0 28), (fa0 29)]) (zl (fun _ => 0) [(fb0 0), (fb0 1), (fb0 2)]) ho21 p1 x3_2 p2 hp22 hp23) (cwV 3 hts gX9_births_X9_isBorn rfl rfl rfl (by decide +kernel) ⟨Nat.le_of_ble_eq_true rfl, Nat.le_of_ble_eq_true rfl⟩) hE hP hD hS 9 0 rfl rfl rfl hl.1 rfl (Nat.le_of_ble_eq_true rfl) dX9_births_89 ⟨Nat.zero_le _, Nat.zero_le _⟩ (fun u24 H locs hw26 hP hD hS => ?_)
              obtain ⟨im27, lm27, am27, bm27⟩ := u24
              have hw26 : ((0 ≤ (fi0 0).toInt ∧ (fi0 0).toInt ≤ 600) ∧ (0 ≤ (fi0 1).toInt ∧ (fi0 1).toInt ≤ 600) ∧ (0 ≤ (fi0 5).toInt ∧ (fi0 5).toInt ≤ 600) ∧ (0 ≤ (fi0 9).toInt ∧ (fi0 9).toInt ≤ 60) ∧ z_rng (-1) 59 (fa0 6) ∧ z_rng 0 59 (fa0 8) ∧ z_rng 0 3 (fa0 9) ∧ z_rng 0 269 (fa0 23) ∧ z_rng 0 5 (fa0 27) ∧ z_rng 0 59 (fa0 28) ∧ ((fi0 2).toInt = 1 → 0 ≤ (fi0 3).toInt) ∧ zOkR (fa0 1) (fa0 27)) := hw26
              obtain ⟨-, -, -, -, -, -, -, -, -, -, -, -⟩ := hw26
              have hP : va_P D vwCl (((r0 0), .inr (9, [.ref (r0 1), .int (fi0 0), .int (fi0 1), .int (fi0 2), .int (fi0 3), .int (fi0 4), .int (fi0 5), .int (fi0 6), .int (fi0 7), .int (fi0 8), .ref (r0 2), .int (fi0 9), .ref (r0 3), .ref (r0 4), .ref (r0 5), .ref (r0 6), .ref (r0 7), .ref (r0 8), .ref (r0 9), .ref (r0 10), .ref (r0 11), .ref (r0 12), .ref (r0 13), .ref (r0 14), .ref (r0 15), .ref (r0 16), .ref (r0 17), .ref (r0 18), .ref (r0 19), .ref (r0 20), .ref (r0 21), .ref (r0 22), .ref (r0 23), .ref (r0 24), .ref (r0 25), .ref (r0 26), .ref (r0 27), .ref (r0 28), .ref (r0 29), .ref (r0 30), .ref (r0 31), .ref (r0 32), .int (fi0 10), .ref (r0 33)])) :: ((r0 1), .inl (ca 2, 600, .inl (fa0 0))) :: ((r0 2), .inl (ca 0, 48, .inl (fa0 1))) :: ((r0 3), .inl (ca 0, 60, .inl (fa0 2))) :: ((r0 4), .inl (ca 0, 60, .inl (fa0 3))) :: ((r0 5), .inl (ca 0, 60, .inl (fa0 4))) :: ((r0 6), .inl (ca 0, 60, .inl (fa0 5))) :: ((r0 7), .inl (ca 0, 60, .inl (fa0 6))) :: ((r0 8), .inl (ca 0, 60, .inl (fa0 7))) :: ((r0 9), .inl (ca 0, 180, .inl (fa0 8))) :: ((r0 10), .inl (ca 0, 60, .inl (fa0 9))) :: ((r0 11), .inl (ca 0, 180, .inl (am27 10))) :: ((r0 12), .inl (ca 0, 180, .inl (am27 11))) :: ((r0 13), .inl (ca 0, 180, .inl (am27 12))) :: ((r0 14), .inl (ca 0, 180, .inl (fa0 13))) :: ((r0 15), .inl (ca 0, 180, .inl (fa0 14))) :: ((r0 16), .inl (ca 0, 180, .inl (fa0 15))) :: ((r0 17), .inl (ca 0, 180, .inl (fa0 16))) :: ((r0 18), .inl (ca 0, 180, .inl (fa0 17))) :: ((r0 19), .inl (ca 0, 180, .inl (fa0 18))) :: ((r0 20), .inl (ca 0, 180, .inl (fa0 19))) :: ((r0 21), .inl (ca 0, 3, .inl (fa0 20))) :: ((r0 22), .inl (ca 1, 3, .inr (.inl (fb0 0)))) :: ((r0 23), .inl (ca 1, 3, .inr (.inl (fb0 1)))) :: ((r0 24), .inl (ca 3, 3, .inl (fa0 21))) :: ((r0 25), .inl (ca 0, 3, .inl (fa0 22))) :: ((r0 26), .inl (ca 0, 3, .inl (fa0 23))) :: ((r0 27), .inl (ca 0, 810, .inl (fa0 24))) :: ((r0 28), .inl (ca 3, 810, .inl (fa0 25))) :: ((r0 29), .inl (ca 1, 810, .inr (.inl (fb0 2)))) :: ((r0 30), .inl (ca 0, 810, .inl (fa0 26))) :: ((r0 31), .inl (ca 0, 3, .inl (fa0 27))) :: ((r0 32), .inl (ca 0, 60, .inl (fa0 28))) :: ((r0 33), .inl (ca 0, 4, .inl (fa0 29))) :: rest) H := hP
              have hD : va_D A (((r0 0), .inr (9, [.ref (r0 1), .int (fi0 0), .int (fi0 1), .int (fi0 2), .int (fi0 3), .int (fi0 4), .int (fi0 5), .int (fi0 6), .int (fi0 7), .int (fi0 8), .ref (r0 2), .int (fi0 9), .ref (r0 3), .ref (r0 4), .ref (r0 5), .ref (r0 6), .ref (r0 7), .ref (r0 8), .ref (r0 9), .ref (r0 10), .ref (r0 11), .ref (r0 12), .ref (r0 13), .ref (r0 14), .ref (r0 15), .ref (r0 16), .ref (r0 17), .ref (r0 18), .ref (r0 19), .ref (r0 20), .ref (r0 21), .ref (r0 22), .ref (r0 23), .ref (r0 24), .ref (r0 25), .ref (r0 26), .ref (r0 27), .ref (r0 28), .ref (r0 29), .ref (r0 30), .ref (r0 31), .ref (r0 32), .int (fi0 10), .ref (r0 33)])) :: ((r0 1), .inl (ca 2, 600, .inl (fa0 0))) :: ((r0 2), .inl (ca 0, 48, .inl (fa0 1))) :: ((r0 3), .inl (ca 0, 60, .inl (fa0 2))) :: ((r0 4), .inl (ca 0, 60, .inl (fa0 3))) :: ((r0 5), .inl (ca 0, 60, .inl (fa0 4))) :: ((r0 6), .inl (ca 0, 60, .inl (fa0 5))) :: ((r0 7), .inl (ca 0, 60, .inl (fa0 6))) :: ((r0 8), .inl (ca 0, 60, .inl (fa0 7))) :: ((r0 9), .inl (ca 0, 180, .inl (fa0 8))) :: ((r0 10), .inl (ca 0, 60, .inl (fa0 9))) :: ((r0 11), .inl (ca 0, 180, .inl (am27 10))) :: ((r0 12), .inl (ca 0, 180, .inl (am27 11))) :: ((r0 13), .inl (ca 0, 180, .inl (am27 12))) :: ((r0 14), .inl (ca 0, 180, .inl (fa0 13))) :: ((r0 15), .inl (ca 0, 180, .inl (fa0 14))) :: ((r0 16), .inl (ca 0, 180, .inl (fa0 15))) :: ((r0 17), .inl (ca 0, 180, .inl (fa0 16))) :: ((r0 18), .inl (ca 0, 180, .inl (fa0 17))) :: ((r0 19), .inl (ca 0, 180, .inl (fa0 18))) :: ((r0 20), .inl (ca 0, 180, .inl (fa0 19))) :: ((r0 21), .inl (ca 0, 3, .inl (fa0 20))) :: ((r0 22), .inl (ca 1, 3, .inr (.inl (fb0 0)))) :: ((r0 23), .inl (ca 1, 3, .inr (.inl (fb0 1)))) :: ((r0 24), .inl (ca 3, 3, .inl (fa0 21))) :: ((r0 25), .inl (ca 0, 3, .inl (fa0 22))) :: ((r0 26), .inl (ca 0, 3, .inl (fa0 23))) :: ((r0 27), .inl (ca 0, 810, .inl (fa0 24))) :: ((r0 28), .inl (ca 3, 810, .inl (fa0 25))) :: ((r0 29), .inl (ca 1, 810, .inr (.inl (fb0 2)))) :: ((r0 30), .inl (ca 0, 810, .inl (fa0 26))) :: ((r0 31), .inl (ca 0, 3, .inl (fa0 27))) :: ((r0 32), .inl (ca 0, 60, .inl (fa0 28))) :: ((r0 33), .inl (ca 0, 4, .inl (fa0 29))) :: rest) := hD
              have ho28 : (0 ≤ (fi0 0).toInt ∧ (fi0 0).toInt ≤ 600) ∧ (0 ≤ (fi0 1).toInt ∧ (fi0 1).toInt ≤ 600) ∧ (0 ≤ (fi0 5).toInt ∧ (fi0 5).toInt ≤ 600) ∧ (0 ≤ (fi0 9).toInt ∧ (fi0 9).toInt ≤ 60) ∧ z_rng (-1) 59 (fa0 6) ∧ z_rng 0 59 (fa0 8) ∧ z_rng 0 3 (fa0 9) ∧ z_rng 0 269 (fa0 23) ∧ z_rng 0 5 (fa0 27) ∧ z_rng 0 59 (fa0 28) ∧ ((fi0 2).toInt = 1 → 0 ≤ (fi0 3).toInt) ∧ zOkR (fa0 1) (fa0 27) := ⟨⟨by omega, by omega⟩, ⟨by omega, by omega⟩, ⟨by omega, by omega⟩, ⟨by omega, by omega⟩, hv0a6, hv0a8, hv0a9, hv0a23, hv0a27, hv0a28, by omega, hv0y0⟩
              exact J92_8 (zl 0 [(fi0 0), (fi0 1), (fi0 2), (fi0 3), (fi0 4), (fi0 5), (fi0 6), (fi0 7), (fi0 8), (fi0 9), (fi0 10)]) (zl 0 []) (zl (fun _ => 0) [(fa0 0), (fa0 1), (fa0 2), (fa0 3), (fa0 4), (fa0 5), (fa0 6), (fa0 7), (fa0 8), (fa0 9), (am27 10), (am27 11), (am27 12), (fa0 13), (fa0 14), (fa0 15), (fa0 16), (fa0 17), (fa0 18), (fa0 19), (fa0 20), (fa0 21), (fa0 22), (fa0 23), (fa0 24), (fa0 25), (fa0 26), (fa0 27), (fa0 28), (fa0 29)]) (zl (fun _ => 0) [(fb0 0), (fb0 1), (fb0 2)]) _ _ hP hD hS ls (lv_sub hl [1, 2, 3, 4] rfl) ho28
        refine lv_icmp_ne (tgt := 38) hx hb dX9_births_17 (by decide) (fun c29 => ?_) (fun c29 => ?_)
        ·
          have c29 := z_ne (i := t6.toInt) (j := (-1)) rfl (by decide) c29
          refine lv_aload_n hx hb dX9_births_38 rfl (lv_at hl 0 rfl) ?_
          refine va_get (D := D) (ci := 9) (v := .ref (r0 17)) (C := RX9) (T := TX9) (N := 44) hx hb hts inX9 hown hK hP 0 rfl rfl 26 (by decide) lk63 (fun _ h9 => h9) rfl dX9_births_39 ?_
          refine lv_bipush (v := 60) hx hb dX9_births_42 (by decide) ?_
          refine lv_iload_n hx hb dX9_births_44 rfl (lv_at hl 1 rfl) ?_
          refine lv_imul hx hb dX9_births_45 ?_
          refine lv_topi (fun t30 et30 => ?_)
          try have ht30 : t30.toInt = 60 * p1.toInt := z_mul et30 (by decide) rfl (by omega -splitDisjunctions) (by omega -splitDisjunctions)
          refine lv_aload_n hx hb dX9_births_46 rfl (lv_at hl 0 rfl) ?_
          refine va_get (D := D) (ci := 9) (v := .ref (r0 7)) (C := RX9) (T := TX9) (N := 44) hx hb hts inX9 hown hK hP 0 rfl rfl 16 (by decide) lk33 (fun _ h9 => h9) rfl dX9_births_47 ?_
          refine lv_iload_n hx hb dX9_births_50 rfl (lv_at hl 3 rfl) ?_
          have hi31 : vp_in x3_2 60 := z_in (i := x3_2.toInt) rfl (by omega) (by omega)
          refine va_iald hx hb hK hP 7 0 rfl rfl hi31 dX9_births_51 ?_
          refine lv_topi (fun t32 et32 => ?_)
          have ht32q : t32.toInt = t6.toInt := by rw [et32, et6]
          have ht32 := z_at hv0a6 et32
          refine lv_iadd hx hb dX9_births_52 ?_
          refine lv_topi (fun t33 et33 => ?_)
          try have ht33 : t33.toInt = t30.toInt + t32.toInt := z_add et33 rfl rfl (by omega -splitDisjunctions) (by omega -splitDisjunctions)
          have hi34 : vp_in t33 180 := z_in (i := t33.toInt) rfl (by omega) (by omega)
          refine va_iald hx hb hK hP 17 0 rfl rfl hi34 dX9_births_53 ?_
          refine lv_topi (fun t35 et35 => ?_)
          refine lv_iload_n hx hb dX9_births_54 rfl (lv_at hl 2 rfl) ?_
          refine lv_icmp_ne (tgt := 62) hx hb dX9_births_55 (by decide) (fun c36 => ?_) (fun c36 => ?_)
          ·
            have c36 := z_ne (i := t35.toInt) (j := p2.toInt) rfl rfl c36
            refine lv_iconst (v := 0) hx hb dX9_births_62 (by decide) ?_
            refine lv_topi (fun t37 et37 => ?_)
            have ht37 : t37.toInt = 0 := by rw [et37]; decide
            have hj38 : 0 ≤ t37.toInt ∧ t37.toInt ≤ 1 := by omega
            exact J63_7 t37 ls (lv_sub hl [0, 1, 2, 3] rfl) hj38
          ·
            have c36 := z_eq (i := t35.toInt) (j := p2.toInt) rfl rfl c36
            refine lv_iconst (v := 1) hx hb dX9_births_58 (by decide) ?_
            refine lv_goto (tgt := 63) hx hb dX9_births_59 (by decide) ?_
            refine lv_topi (fun t39 et39 => ?_)
            have ht39 : t39.toInt = 1 := by rw [et39]; decide
            have hj40 : 0 ≤ t39.toInt ∧ t39.toInt ≤ 1 := by omega
            exact J63_7 t39 ls (lv_sub hl [0, 1, 2, 3] rfl) hj40
        ·
          have c29 := z_eq (i := t6.toInt) (j := (-1)) rfl (by decide) c29
          refine lv_aload_n hx hb dX9_births_20 rfl (lv_at hl 0 rfl) ?_
          refine va_get (D := D) (ci := 9) (v := .ref (r0 3)) (C := RX9) (T := TX9) (N := 44) hx hb hts inX9 hown hK hP 0 rfl rfl 12 (by decide) lk21 (fun _ h9 => h9) rfl dX9_births_21 ?_
          refine lv_iload_n hx hb dX9_births_24 rfl (lv_at hl 3 rfl) ?_
          have hi41 : vp_in x3_2 60 := z_in (i := x3_2.toInt) rfl (by omega) (by omega)
          refine va_iald hx hb hK hP 3 0 rfl rfl hi41 dX9_births_25 ?_
          refine lv_topi (fun t42 et42 => ?_)
          refine lv_iload_n hx hb dX9_births_26 rfl (lv_at hl 2 rfl) ?_
          refine lv_icmp_ne (tgt := 34) hx hb dX9_births_27 (by decide) (fun c43 => ?_) (fun c43 => ?_)
          ·
            have c43 := z_ne (i := t42.toInt) (j := p2.toInt) rfl rfl c43
            refine lv_iconst (v := 0) hx hb dX9_births_34 (by decide) ?_
            refine lv_goto (tgt := 63) hx hb dX9_births_35 (by decide) ?_
            refine lv_topi (fun t44 et44 => ?_)
            have ht44 : t44.toInt = 0 := by rw [et44]; decide
            have hj45 : 0 ≤ t44.toInt ∧ t44.toInt ≤ 1 := by omega
            exact J63_7 t44 ls (lv_sub hl [0, 1, 2, 3] rfl) hj45
          ·
            have c43 := z_eq (i := t42.toInt) (j := p2.toInt) rfl rfl c43
            refine lv_iconst (v := 1) hx hb dX9_births_30 (by decide) ?_
            refine lv_goto (tgt := 63) hx hb dX9_births_31 (by decide) ?_
            refine lv_topi (fun t46 et46 => ?_)
            have ht46 : t46.toInt = 1 := by rw [et46]; decide
            have hj47 : 0 ≤ t46.toInt ∧ t46.toInt ≤ 1 := by omega
            exact J63_7 t46 ls (lv_sub hl [0, 1, 2, 3] rfl) hj47
  have ho48 : (0 ≤ (fi0 0).toInt ∧ (fi0 0).toInt ≤ 600) ∧ (0 ≤ (fi0 1).toInt ∧ (fi0 1).toInt ≤ 600) ∧ (0 ≤ (fi0 5).toInt ∧ (fi0 5).toInt ≤ 600) ∧ (0 ≤ (fi0 9).toInt ∧ (fi0 9).toInt ≤ 60) ∧ z_rng (-1) 59 (fa0 6) ∧ z_rng 0 59 (fa0 8) ∧ z_rng 0 3 (fa0 9) ∧ z_rng 0 269 (fa0 23) ∧ z_rng 0 5 (fa0 27) ∧ z_rng 0 59 (fa0 28) ∧ ((fi0 2).toInt = 1 → 0 ≤ (fi0 3).toInt) ∧ zOkR (fa0 1) (fa0 27) := ⟨⟨by omega, by omega⟩, ⟨by omega, by omega⟩, ⟨by omega, by omega⟩, ⟨by omega, by omega⟩, hv0a6, hv0a8, hv0a9, hv0a23, hv0a27, hv0a28, by omega, hv0y0⟩
  have hj49 : 0 ≤ t1.toInt ∧ t1.toInt ≤ 60 := by omega
  exact J2_2 ((61 - t1.toInt).toNat + 1) t1 (zl 0 [(fi0 0), (fi0 1), (fi0 2), (fi0 3), (fi0 4), (fi0 5), (fi0 6), (fi0 7), (fi0 8), (fi0 9), (fi0 10)]) (zl 0 []) (zl (fun _ => 0) [(fa0 0), (fa0 1), (fa0 2), (fa0 3), (fa0 4), (fa0 5), (fa0 6), (fa0 7), (fa0 8), (fa0 9), (fa0 10), (fa0 11), (fa0 12), (fa0 13), (fa0 14), (fa0 15), (fa0 16), (fa0 17), (fa0 18), (fa0 19), (fa0 20), (fa0 21), (fa0 22), (fa0 23), (fa0 24), (fa0 25), (fa0 26), (fa0 27), (fa0 28), (fa0 29)]) (zl (fun _ => 0) [(fb0 0), (fb0 1), (fb0 2)]) _ _ hP hD hS ls (lv_sub hl [1, 2, 3, 0] rfl) ho48 hj49 (Nat.lt_succ_self _)

set_option maxHeartbeats 8000000 in
set_option maxRecDepth 100000 in
theorem c_X9_nextRelease (l : Launch) (D : va_G) (ca : Nat → ClassId) (sa : Nat → Nat) (A : Nat → Prop) (rest : va_W) (r0 : Nat → Nat) (fi0 : Nat → Int32) (fl0 : Nat → Int64) (fa0 : Nat → Nat → Int32) (fb0 : Nat → Nat → Int64) (hv0 : Ok_MOD fi0 fa0) (p1 : Int32) (p2 : Int32) (hpre0 : 0 ≤ p1.toInt ∧ p1.toInt ≤ 2) : Met l yX9_nextRelease wsX9_nextRelease ({ frames := 1, cells := 0, slots := 0, locals := 22 }) (va_Pc [.ref (r0 0), .int p1, .int p2] (zPre D ca sa A (w_MOD ca r0 fi0 fl0 fa0 fb0 (rest)))) (va_Qi (fun (r : Int32) (u : Unit) => True) (fun u t => zPost D A (w_MOD ca r0 fi0 fl0 fa0 fb0 (rest)) t) A) 0 0 A := by
  refine Met.ofW (cc := cX9_nextRelease) (maxL := 5) (ret := (some .int)) (by decide) rfl ?_
  intro p e s m args below meth c s₁ B hml hv9
  obtain ⟨rfl, hE, hP, hD⟩ := hv9
  have hx := B.exec
  have hb := B.bytes
  have hr := B.returns
  have hts := atoms_spec (ws := wsX9_nextRelease) B.pre
  have hown : s.vm.findClass RX9 = some m.cls := findClass_of_methodNamed B.named
  have hlocks := B.notSynchronized
  have hK := hE.1
  have hF : CallFix p m c cX9_nextRelease 5 s _ wsX9_nextRelease RX9 := ⟨hx, hb, hml, hown, hts⟩
  have hS : va_S A s.heap s.heap [] := va_S.rf
  obtain ⟨⟨hv0i0, hv0j0⟩, ⟨hv0i1, hv0j1⟩, ⟨hv0i5, hv0j5⟩, ⟨hv0i9, hv0j9⟩, hv0a6, hv0a8, hv0a9, hv0a23, hv0a27, hv0a28, hv0x0, hv0y0⟩ := hv0
  generalize hHe : s.heap = H at hP
  have hS : va_S A s.heap H [] := by rw [← hHe]; exact hS
  have hP : va_P D vwCl (((r0 0), .inr (9, [.ref (r0 1), .int (fi0 0), .int (fi0 1), .int (fi0 2), .int (fi0 3), .int (fi0 4), .int (fi0 5), .int (fi0 6), .int (fi0 7), .int (fi0 8), .ref (r0 2), .int (fi0 9), .ref (r0 3), .ref (r0 4), .ref (r0 5), .ref (r0 6), .ref (r0 7), .ref (r0 8), .ref (r0 9), .ref (r0 10), .ref (r0 11), .ref (r0 12), .ref (r0 13), .ref (r0 14), .ref (r0 15), .ref (r0 16), .ref (r0 17), .ref (r0 18), .ref (r0 19), .ref (r0 20), .ref (r0 21), .ref (r0 22), .ref (r0 23), .ref (r0 24), .ref (r0 25), .ref (r0 26), .ref (r0 27), .ref (r0 28), .ref (r0 29), .ref (r0 30), .ref (r0 31), .ref (r0 32), .int (fi0 10), .ref (r0 33)])) :: ((r0 1), .inl (ca 2, 600, .inl (fa0 0))) :: ((r0 2), .inl (ca 0, 48, .inl (fa0 1))) :: ((r0 3), .inl (ca 0, 60, .inl (fa0 2))) :: ((r0 4), .inl (ca 0, 60, .inl (fa0 3))) :: ((r0 5), .inl (ca 0, 60, .inl (fa0 4))) :: ((r0 6), .inl (ca 0, 60, .inl (fa0 5))) :: ((r0 7), .inl (ca 0, 60, .inl (fa0 6))) :: ((r0 8), .inl (ca 0, 60, .inl (fa0 7))) :: ((r0 9), .inl (ca 0, 180, .inl (fa0 8))) :: ((r0 10), .inl (ca 0, 60, .inl (fa0 9))) :: ((r0 11), .inl (ca 0, 180, .inl (fa0 10))) :: ((r0 12), .inl (ca 0, 180, .inl (fa0 11))) :: ((r0 13), .inl (ca 0, 180, .inl (fa0 12))) :: ((r0 14), .inl (ca 0, 180, .inl (fa0 13))) :: ((r0 15), .inl (ca 0, 180, .inl (fa0 14))) :: ((r0 16), .inl (ca 0, 180, .inl (fa0 15))) :: ((r0 17), .inl (ca 0, 180, .inl (fa0 16))) :: ((r0 18), .inl (ca 0, 180, .inl (fa0 17))) :: ((r0 19), .inl (ca 0, 180, .inl (fa0 18))) :: ((r0 20), .inl (ca 0, 180, .inl (fa0 19))) :: ((r0 21), .inl (ca 0, 3, .inl (fa0 20))) :: ((r0 22), .inl (ca 1, 3, .inr (.inl (fb0 0)))) :: ((r0 23), .inl (ca 1, 3, .inr (.inl (fb0 1)))) :: ((r0 24), .inl (ca 3, 3, .inl (fa0 21))) :: ((r0 25), .inl (ca 0, 3, .inl (fa0 22))) :: ((r0 26), .inl (ca 0, 3, .inl (fa0 23))) :: ((r0 27), .inl (ca 0, 810, .inl (fa0 24))) :: ((r0 28), .inl (ca 3, 810, .inl (fa0 25))) :: ((r0 29), .inl (ca 1, 810, .inr (.inl (fb0 2)))) :: ((r0 30), .inl (ca 0, 810, .inl (fa0 26))) :: ((r0 31), .inl (ca 0, 3, .inl (fa0 27))) :: ((r0 32), .inl (ca 0, 60, .inl (fa0 28))) :: ((r0 33), .inl (ca 0, 4, .inl (fa0 29))) :: rest) H := hP
  have hD : va_D A (((r0 0), .inr (9, [.ref (r0 1), .int (fi0 0), .int (fi0 1), .int (fi0 2), .int (fi0 3), .int (fi0 4), .int (fi0 5), .int (fi0 6), .int (fi0 7), .int (fi0 8), .ref (r0 2), .int (fi0 9), .ref (r0 3), .ref (r0 4), .ref (r0 5), .ref (r0 6), .ref (r0 7), .ref (r0 8), .ref (r0 9), .ref (r0 10), .ref (r0 11), .ref (r0 12), .ref (r0 13), .ref (r0 14), .ref (r0 15), .ref (r0 16), .ref (r0 17), .ref (r0 18), .ref (r0 19), .ref (r0 20), .ref (r0 21), .ref (r0 22), .ref (r0 23), .ref (r0 24), .ref (r0 25), .ref (r0 26), .ref (r0 27), .ref (r0 28), .ref (r0 29), .ref (r0 30), .ref (r0 31), .ref (r0 32), .int (fi0 10), .ref (r0 33)])) :: ((r0 1), .inl (ca 2, 600, .inl (fa0 0))) :: ((r0 2), .inl (ca 0, 48, .inl (fa0 1))) :: ((r0 3), .inl (ca 0, 60, .inl (fa0 2))) :: ((r0 4), .inl (ca 0, 60, .inl (fa0 3))) :: ((r0 5), .inl (ca 0, 60, .inl (fa0 4))) :: ((r0 6), .inl (ca 0, 60, .inl (fa0 5))) :: ((r0 7), .inl (ca 0, 60, .inl (fa0 6))) :: ((r0 8), .inl (ca 0, 60, .inl (fa0 7))) :: ((r0 9), .inl (ca 0, 180, .inl (fa0 8))) :: ((r0 10), .inl (ca 0, 60, .inl (fa0 9))) :: ((r0 11), .inl (ca 0, 180, .inl (fa0 10))) :: ((r0 12), .inl (ca 0, 180, .inl (fa0 11))) :: ((r0 13), .inl (ca 0, 180, .inl (fa0 12))) :: ((r0 14), .inl (ca 0, 180, .inl (fa0 13))) :: ((r0 15), .inl (ca 0, 180, .inl (fa0 14))) :: ((r0 16), .inl (ca 0, 180, .inl (fa0 15))) :: ((r0 17), .inl (ca 0, 180, .inl (fa0 16))) :: ((r0 18), .inl (ca 0, 180, .inl (fa0 17))) :: ((r0 19), .inl (ca 0, 180, .inl (fa0 18))) :: ((r0 20), .inl (ca 0, 180, .inl (fa0 19))) :: ((r0 21), .inl (ca 0, 3, .inl (fa0 20))) :: ((r0 22), .inl (ca 1, 3, .inr (.inl (fb0 0)))) :: ((r0 23), .inl (ca 1, 3, .inr (.inl (fb0 1)))) :: ((r0 24), .inl (ca 3, 3, .inl (fa0 21))) :: ((r0 25), .inl (ca 0, 3, .inl (fa0 22))) :: ((r0 26), .inl (ca 0, 3, .inl (fa0 23))) :: ((r0 27), .inl (ca 0, 810, .inl (fa0 24))) :: ((r0 28), .inl (ca 3, 810, .inl (fa0 25))) :: ((r0 29), .inl (ca 1, 810, .inr (.inl (fb0 2)))) :: ((r0 30), .inl (ca 0, 810, .inl (fa0 26))) :: ((r0 31), .inl (ca 0, 3, .inl (fa0 27))) :: ((r0 32), .inl (ca 0, 60, .inl (fa0 28))) :: ((r0 33), .inl (ca 0, 4, .inl (fa0 29))) :: rest) := hD
  have hl := lv_entry ([.ref (r0 0), .int p1, .int p2]) (n := 5) (Nat.le_of_ble_eq_true rfl)
  rw [lg_entry_eq]
  generalize (lg_sl ([.ref (r0 0), .int p1, .int p2]) ++ List.replicate (5 - (lg_sl ([.ref (r0 0), .int p1, .int p2])).length) Slot.unset).toArray = ls at hl ⊢
  have hl : lv_has ls 5 [(0, .ref (r0 0)), (1, .int p1), (2, .int p2)] := hl
  generalize hQ9 : MQ below _ _ s 0 0 A = Q9
  refine lv_aload_n hx hb dX9_nextRelease_0 rfl (lv_at hl 0 rfl) ?_
  refine lv_iload_n hx hb dX9_nextRelease_1 rfl (lv_at hl 1 rfl) ?_
  refine lv_iconst (v := 0) hx hb dX9_nextRelease_2 (by decide) ?_
  have ho1 : (0 ≤ (fi0 0).toInt ∧ (fi0 0).toInt ≤ 600) ∧ (0 ≤ (fi0 1).toInt ∧ (fi0 1).toInt ≤ 600) ∧ (0 ≤ (fi0 5).toInt ∧ (fi0 5).toInt ≤ 600) ∧ (0 ≤ (fi0 9).toInt ∧ (fi0 9).toInt ≤ 60) ∧ z_rng (-1) 59 (fa0 6) ∧ z_rng 0 59 (fa0 8) ∧ z_rng 0 3 (fa0 9) ∧ z_rng 0 269 (fa0 23) ∧ z_rng 0 5 (fa0 27) ∧ z_rng 0 59 (fa0 28) ∧ ((fi0 2).toInt = 1 → 0 ≤ (fi0 3).toInt) ∧ zOkR (fa0 1) (fa0 27) := ⟨⟨by omega, by omega⟩, ⟨by omega, by omega⟩, ⟨by omega, by omega⟩, ⟨by omega, by omega⟩, hv0a6, hv0a8, hv0a9, hv0a23, hv0a27, hv0a28, by omega, hv0y0⟩
  have hp2 : 0 ≤ p1.toInt ∧ p1.toInt ≤ 2 := by omega
  have hp3 : 0 ≤ (0 : Int32).toInt ∧ (0 : Int32).toInt ≤ 7 := by (simp only [show ((0 : Int32).toInt) = 0 from by decide]) <;> omega
  refine z_iV (As := [.int p1, .int 0]) (rest := []) hF (c_X9_ruleOf l D ca sa A rest (zl 0 [(r0 0), (r0 1), (r0 2), (r0 3), (r0 4), (r0 5), (r0 6), (r0 7), (r0 8), (r0 9), (r0 10), (r0 11), (r0 12), (r0 13), (r0 14), (r0 15), (r0 16), (r0 17), (r0 18), (r0 19), (r0 20), (r0 21), (r0 22), (r0 23), (r0 24), (r0 25), (r0 26), (r0 27), (r0 28), (r0 29), (r0 30), (r0 31), (r0 32), (r0 33)]) (zl 0 [(fi0 0), (fi0 1), (fi0 2), (fi0 3), (fi0 4), (fi0 5), (fi0 6), (fi0 7), (fi0 8), (fi0 9), (fi0 10)]) (zl 0 []) (zl (fun _ => 0) [(fa0 0), (fa0 1), (fa0 2), (fa0 3), (fa0 4), (fa0 5), (fa0 6), (fa0 7), (fa0 8), (fa0 9), (fa0 10), (fa0 11), (fa0 12), (fa0 13), (fa0 14), (fa0 15), (fa0 16), (fa0 17), (fa0 18), (fa0 19), (fa0 20), (fa0 21), (fa0 22), (fa0 23), (fa0 24), (fa0 25), (fa0 26), (fa0 27), (fa0 28), (fa0 29)]) (zl (fun _ => 0) [(fb0 0), (fb0 1), (fb0 2)]) ho1 p1 0 hp2 hp3) (cwV 2 hts gX9_nextRelease_X9_ruleOf rfl rfl rfl (by decide +kernel) ⟨Nat.le_of_ble_eq_true rfl, Nat.le_of_ble_eq_true rfl⟩) hE hP hD hS 9 0 rfl rfl rfl hl.1 rfl (Nat.le_of_ble_eq_true rfl) dX9_nextRelease_3 ⟨Nat.zero_le _, Nat.zero_le _⟩ (fun t5 u4 H locs hw6 hP hD hS => ?_)
  have hw6 : (((0 : Int32).toInt = 0 → 2 ≤ t5.toInt ∧ t5.toInt ≤ 100) ∧ ((0 : Int32).toInt = 6 → t5.toInt = -1 ∨ (1 ≤ t5.toInt ∧ t5.toInt ≤ 50))) := hw6
  have hq7 := hw6
  clear hw6
  replace hq7 := hq7.1 (by decide)
  have hP : va_P D vwCl (((r0 0), .inr (9, [.ref (r0 1), .int (fi0 0), .int (fi0 1), .int (fi0 2), .int (fi0 3), .int (fi0 4), .int (fi0 5), .int (fi0 6), .int (fi0 7), .int (fi0 8), .ref (r0 2), .int (fi0 9), .ref (r0 3), .ref (r0 4), .ref (r0 5), .ref (r0 6), .ref (r0 7), .ref (r0 8), .ref (r0 9), .ref (r0 10), .ref (r0 11), .ref (r0 12), .ref (r0 13), .ref (r0 14), .ref (r0 15), .ref (r0 16), .ref (r0 17), .ref (r0 18), .ref (r0 19), .ref (r0 20), .ref (r0 21), .ref (r0 22), .ref (r0 23), .ref (r0 24), .ref (r0 25), .ref (r0 26), .ref (r0 27), .ref (r0 28), .ref (r0 29), .ref (r0 30), .ref (r0 31), .ref (r0 32), .int (fi0 10), .ref (r0 33)])) :: ((r0 1), .inl (ca 2, 600, .inl (fa0 0))) :: ((r0 2), .inl (ca 0, 48, .inl (fa0 1))) :: ((r0 3), .inl (ca 0, 60, .inl (fa0 2))) :: ((r0 4), .inl (ca 0, 60, .inl (fa0 3))) :: ((r0 5), .inl (ca 0, 60, .inl (fa0 4))) :: ((r0 6), .inl (ca 0, 60, .inl (fa0 5))) :: ((r0 7), .inl (ca 0, 60, .inl (fa0 6))) :: ((r0 8), .inl (ca 0, 60, .inl (fa0 7))) :: ((r0 9), .inl (ca 0, 180, .inl (fa0 8))) :: ((r0 10), .inl (ca 0, 60, .inl (fa0 9))) :: ((r0 11), .inl (ca 0, 180, .inl (fa0 10))) :: ((r0 12), .inl (ca 0, 180, .inl (fa0 11))) :: ((r0 13), .inl (ca 0, 180, .inl (fa0 12))) :: ((r0 14), .inl (ca 0, 180, .inl (fa0 13))) :: ((r0 15), .inl (ca 0, 180, .inl (fa0 14))) :: ((r0 16), .inl (ca 0, 180, .inl (fa0 15))) :: ((r0 17), .inl (ca 0, 180, .inl (fa0 16))) :: ((r0 18), .inl (ca 0, 180, .inl (fa0 17))) :: ((r0 19), .inl (ca 0, 180, .inl (fa0 18))) :: ((r0 20), .inl (ca 0, 180, .inl (fa0 19))) :: ((r0 21), .inl (ca 0, 3, .inl (fa0 20))) :: ((r0 22), .inl (ca 1, 3, .inr (.inl (fb0 0)))) :: ((r0 23), .inl (ca 1, 3, .inr (.inl (fb0 1)))) :: ((r0 24), .inl (ca 3, 3, .inl (fa0 21))) :: ((r0 25), .inl (ca 0, 3, .inl (fa0 22))) :: ((r0 26), .inl (ca 0, 3, .inl (fa0 23))) :: ((r0 27), .inl (ca 0, 810, .inl (fa0 24))) :: ((r0 28), .inl (ca 3, 810, .inl (fa0 25))) :: ((r0 29), .inl (ca 1, 810, .inr (.inl (fb0 2)))) :: ((r0 30), .inl (ca 0, 810, .inl (fa0 26))) :: ((r0 31), .inl (ca 0, 3, .inl (fa0 27))) :: ((r0 32), .inl (ca 0, 60, .inl (fa0 28))) :: ((r0 33), .inl (ca 0, 4, .inl (fa0 29))) :: rest) H := hP
  have hD : va_D A (((r0 0), .inr (9, [.ref (r0 1), .int (fi0 0), .int (fi0 1), .int (fi0 2), .int (fi0 3), .int (fi0 4), .int (fi0 5), .int (fi0 6), .int (fi0 7), .int (fi0 8), .ref (r0 2), .int (fi0 9), .ref (r0 3), .ref (r0 4), .ref (r0 5), .ref (r0 6), .ref (r0 7), .ref (r0 8), .ref (r0 9), .ref (r0 10), .ref (r0 11), .ref (r0 12), .ref (r0 13), .ref (r0 14), .ref (r0 15), .ref (r0 16), .ref (r0 17), .ref (r0 18), .ref (r0 19), .ref (r0 20), .ref (r0 21), .ref (r0 22), .ref (r0 23), .ref (r0 24), .ref (r0 25), .ref (r0 26), .ref (r0 27), .ref (r0 28), .ref (r0 29), .ref (r0 30), .ref (r0 31), .ref (r0 32), .int (fi0 10), .ref (r0 33)])) :: ((r0 1), .inl (ca 2, 600, .inl (fa0 0))) :: ((r0 2), .inl (ca 0, 48, .inl (fa0 1))) :: ((r0 3), .inl (ca 0, 60, .inl (fa0 2))) :: ((r0 4), .inl (ca 0, 60, .inl (fa0 3))) :: ((r0 5), .inl (ca 0, 60, .inl (fa0 4))) :: ((r0 6), .inl (ca 0, 60, .inl (fa0 5))) :: ((r0 7), .inl (ca 0, 60, .inl (fa0 6))) :: ((r0 8), .inl (ca 0, 60, .inl (fa0 7))) :: ((r0 9), .inl (ca 0, 180, .inl (fa0 8))) :: ((r0 10), .inl (ca 0, 60, .inl (fa0 9))) :: ((r0 11), .inl (ca 0, 180, .inl (fa0 10))) :: ((r0 12), .inl (ca 0, 180, .inl (fa0 11))) :: ((r0 13), .inl (ca 0, 180, .inl (fa0 12))) :: ((r0 14), .inl (ca 0, 180, .inl (fa0 13))) :: ((r0 15), .inl (ca 0, 180, .inl (fa0 14))) :: ((r0 16), .inl (ca 0, 180, .inl (fa0 15))) :: ((r0 17), .inl (ca 0, 180, .inl (fa0 16))) :: ((r0 18), .inl (ca 0, 180, .inl (fa0 17))) :: ((r0 19), .inl (ca 0, 180, .inl (fa0 18))) :: ((r0 20), .inl (ca 0, 180, .inl (fa0 19))) :: ((r0 21), .inl (ca 0, 3, .inl (fa0 20))) :: ((r0 22), .inl (ca 1, 3, .inr (.inl (fb0 0)))) :: ((r0 23), .inl (ca 1, 3, .inr (.inl (fb0 1)))) :: ((r0 24), .inl (ca 3, 3, .inl (fa0 21))) :: ((r0 25), .inl (ca 0, 3, .inl (fa0 22))) :: ((r0 26), .inl (ca 0, 3, .inl (fa0 23))) :: ((r0 27), .inl (ca 0, 810, .inl (fa0 24))) :: ((r0 28), .inl (ca 3, 810, .inl (fa0 25))) :: ((r0 29), .inl (ca 1, 810, .inr (.inl (fb0 2)))) :: ((r0 30), .inl (ca 0, 810, .inl (fa0 26))) :: ((r0 31), .inl (ca 0, 3, .inl (fa0 27))) :: ((r0 32), .inl (ca 0, 60, .inl (fa0 28))) :: ((r0 33), .inl (ca 0, 4, .inl (fa0 29))) :: rest) := hD
  refine lv_istore_n (lv' := [(3, .int t5), (0, .ref (r0 0)), (1, .int p1), (2, .int p2)]) hx hb dX9_nextRelease_6 rfl hl (by decide) rfl (fun ls hl => ?_)
  refine lv_iload_n hx hb dX9_nextRelease_7 rfl (lv_at hl 3 rfl) ?_
  refine lv_iload_n hx hb dX9_nextRelease_8 rfl (lv_at hl 0 rfl) ?_
  refine lv_iadd hx hb dX9_nextRelease_9 ?_
  refine lv_topi (fun t8 et8 => ?_)
  try have ht8 : t8.toInt = p2.toInt + t5.toInt := z_add et8 rfl rfl (by omega -splitDisjunctions) (by omega -splitDisjunctions)
  refine lv_iconst (v := 1) hx hb dX9_nextRelease_10 (by decide) ?_
  refine lv_isub hx hb dX9_nextRelease_11 ?_
  refine lv_topi (fun t9 et9 => ?_)
  try have ht9 : t9.toInt = t8.toInt - 1 := z_sub et9 rfl (by decide) (by omega -splitDisjunctions) (by omega -splitDisjunctions)
  refine lv_iload_n hx hb dX9_nextRelease_12 rfl (lv_at hl 0 rfl) ?_
  have hd10 : ¬ t5 = 0 := fun h9 => absurd (z_eq (i := t5.toInt) (j := 0) rfl (by decide) h9) (by omega)
  refine lv_idiv hx hb dX9_nextRelease_13 hd10 ?_
  refine lv_topi (fun t11 et11 => ?_)
  refine lv_iload_n hx hb dX9_nextRelease_14 rfl (lv_at hl 0 rfl) ?_
  refine lv_imul hx hb dX9_nextRelease_15 ?_
  refine lv_topi (fun t12 et12 => ?_)
  refine lv_istore (lv' := [(4, .int t12), (3, .int t5), (0, .ref (r0 0)), (1, .int p1), (2, .int p2)]) hx hb dX9_nextRelease_16 hl (by decide) rfl (fun ls hl => ?_)
  refine lv_iload hx hb dX9_nextRelease_18 (lv_at hl 0 rfl) ?_
  have J29_13 : ∀ (k0_13 : Int32) (ls : Array Slot) (hl : lv_has ls 5 []), W p l e (headSpec wsX9_nextRelease ({ frames := 1, cells := 0, slots := 0, locals := 22 })).room s m ([.ref (r0 0), .int p1, .int p2] : List Value).toArray below meth c H locs 0 0 Q9 (F0 m 29 ls [.int k0_13]) := by
    intro k0_13 ls hl
    refine lv_istore (lv' := [(4, .int k0_13)]) hx hb dX9_nextRelease_29 hl (by decide) rfl (fun ls hl => ?_)
    refine lv_iload hx hb dX9_nextRelease_31 (lv_at hl 0 rfl) ?_
    refine lv_sipush (v := 400) hx hb dX9_nextRelease_33 (by decide) ?_
    refine lv_icmp_ge (tgt := 44) hx hb dX9_nextRelease_36 (by decide) (fun c14 => ?_) (fun c14 => ?_)
    ·
      have c14 := z_le (i := 400) (j := k0_13.toInt) (by decide) rfl c14
      refine lv_iconst (v := (-1)) hx hb dX9_nextRelease_44 (by decide) ?_
      subst hQ9
      refine lv_topi (fun t15 et15 => ?_)
      have ht15 : t15.toInt = (-1) := by rw [et15]; decide
      exact W.iret (v := t15) hx hb hr (fun t ht hW => ⟨⟨t15, (), rfl, trivial, ⟨by rw [ht]; exact hP, hD⟩⟩, hS.F ht⟩) hS.2.2 dX9_nextRelease_45
    ·
      have c14 := z_nle (i := 400) (j := k0_13.toInt) (by decide) rfl c14
      refine lv_iload hx hb dX9_nextRelease_39 (lv_at hl 0 rfl) ?_
      refine lv_goto (tgt := 45) hx hb dX9_nextRelease_41 (by decide) ?_
      subst hQ9
      exact W.iret (v := k0_13) hx hb hr (fun t ht hW => ⟨⟨k0_13, (), rfl, trivial, ⟨by rw [ht]; exact hP, hD⟩⟩, hS.F ht⟩) hS.2.2 dX9_nextRelease_45
  refine lv_if_ne (tgt := 27) hx hb dX9_nextRelease_20 (by decide) (fun c16 => ?_) (fun c16 => ?_)
  ·
    have c16 := z_ne (i := t12.toInt) (j := 0) rfl (by decide) c16
    refine lv_iload hx hb dX9_nextRelease_27 (lv_at hl 0 rfl) ?_
    exact J29_13 t12 ls (lv_sub hl [] rfl)
  ·
    have c16 := z_eq (i := t12.toInt) (j := 0) rfl (by decide) c16
    refine lv_iload_n hx hb dX9_nextRelease_23 rfl (lv_at hl 1 rfl) ?_
    refine lv_goto (tgt := 29) hx hb dX9_nextRelease_24 (by decide) ?_
    exact J29_13 t5 ls (lv_sub hl [] rfl)

set_option maxHeartbeats 8000000 in
set_option maxRecDepth 100000 in
theorem c_X9_isFrozen (l : Launch) (D : va_G) (ca : Nat → ClassId) (sa : Nat → Nat) (A : Nat → Prop) (rest : va_W) (r0 : Nat → Nat) (fi0 : Nat → Int32) (fl0 : Nat → Int64) (fa0 : Nat → Nat → Int32) (fb0 : Nat → Nat → Int64) (hv0 : Ok_MOD fi0 fa0) (p1 : Int32) (p2 : Int32) (hpre0 : 0 ≤ p1.toInt ∧ p1.toInt ≤ 2) : Met l yX9_isFrozen wsX9_isFrozen ({ frames := 2, cells := 0, slots := 0, locals := 46 }) (va_Pc [.ref (r0 0), .int p1, .int p2] (zPre D ca sa A (w_MOD ca r0 fi0 fl0 fa0 fb0 (rest)))) (va_Qi (fun (r : Int32) (u : Unit) => (0 ≤ r.toInt ∧ r.toInt ≤ 1)) (fun u t => zPost D A (w_MOD ca r0 fi0 fl0 fa0 fb0 (rest)) t) A) 0 0 A := by
  refine Met.ofW (cc := cX9_isFrozen) (maxL := 4) (ret := (some .boolean)) (by decide) rfl ?_
  intro p e s m args below meth c s₁ B hml hv9
  obtain ⟨rfl, hE, hP, hD⟩ := hv9
  have hx := B.exec
  have hb := B.bytes
  have hr := B.returns
  have hts := atoms_spec (ws := wsX9_isFrozen) B.pre
  have hown : s.vm.findClass RX9 = some m.cls := findClass_of_methodNamed B.named
  have hlocks := B.notSynchronized
  have hK := hE.1
  have hF : CallFix p m c cX9_isFrozen 4 s _ wsX9_isFrozen RX9 := ⟨hx, hb, hml, hown, hts⟩
  have hS : va_S A s.heap s.heap [] := va_S.rf
  obtain ⟨⟨hv0i0, hv0j0⟩, ⟨hv0i1, hv0j1⟩, ⟨hv0i5, hv0j5⟩, ⟨hv0i9, hv0j9⟩, hv0a6, hv0a8, hv0a9, hv0a23, hv0a27, hv0a28, hv0x0, hv0y0⟩ := hv0
  generalize hHe : s.heap = H at hP
  have hS : va_S A s.heap H [] := by rw [← hHe]; exact hS
  have hP : va_P D vwCl (((r0 0), .inr (9, [.ref (r0 1), .int (fi0 0), .int (fi0 1), .int (fi0 2), .int (fi0 3), .int (fi0 4), .int (fi0 5), .int (fi0 6), .int (fi0 7), .int (fi0 8), .ref (r0 2), .int (fi0 9), .ref (r0 3), .ref (r0 4), .ref (r0 5), .ref (r0 6), .ref (r0 7), .ref (r0 8), .ref (r0 9), .ref (r0 10), .ref (r0 11), .ref (r0 12), .ref (r0 13), .ref (r0 14), .ref (r0 15), .ref (r0 16), .ref (r0 17), .ref (r0 18), .ref (r0 19), .ref (r0 20), .ref (r0 21), .ref (r0 22), .ref (r0 23), .ref (r0 24), .ref (r0 25), .ref (r0 26), .ref (r0 27), .ref (r0 28), .ref (r0 29), .ref (r0 30), .ref (r0 31), .ref (r0 32), .int (fi0 10), .ref (r0 33)])) :: ((r0 1), .inl (ca 2, 600, .inl (fa0 0))) :: ((r0 2), .inl (ca 0, 48, .inl (fa0 1))) :: ((r0 3), .inl (ca 0, 60, .inl (fa0 2))) :: ((r0 4), .inl (ca 0, 60, .inl (fa0 3))) :: ((r0 5), .inl (ca 0, 60, .inl (fa0 4))) :: ((r0 6), .inl (ca 0, 60, .inl (fa0 5))) :: ((r0 7), .inl (ca 0, 60, .inl (fa0 6))) :: ((r0 8), .inl (ca 0, 60, .inl (fa0 7))) :: ((r0 9), .inl (ca 0, 180, .inl (fa0 8))) :: ((r0 10), .inl (ca 0, 60, .inl (fa0 9))) :: ((r0 11), .inl (ca 0, 180, .inl (fa0 10))) :: ((r0 12), .inl (ca 0, 180, .inl (fa0 11))) :: ((r0 13), .inl (ca 0, 180, .inl (fa0 12))) :: ((r0 14), .inl (ca 0, 180, .inl (fa0 13))) :: ((r0 15), .inl (ca 0, 180, .inl (fa0 14))) :: ((r0 16), .inl (ca 0, 180, .inl (fa0 15))) :: ((r0 17), .inl (ca 0, 180, .inl (fa0 16))) :: ((r0 18), .inl (ca 0, 180, .inl (fa0 17))) :: ((r0 19), .inl (ca 0, 180, .inl (fa0 18))) :: ((r0 20), .inl (ca 0, 180, .inl (fa0 19))) :: ((r0 21), .inl (ca 0, 3, .inl (fa0 20))) :: ((r0 22), .inl (ca 1, 3, .inr (.inl (fb0 0)))) :: ((r0 23), .inl (ca 1, 3, .inr (.inl (fb0 1)))) :: ((r0 24), .inl (ca 3, 3, .inl (fa0 21))) :: ((r0 25), .inl (ca 0, 3, .inl (fa0 22))) :: ((r0 26), .inl (ca 0, 3, .inl (fa0 23))) :: ((r0 27), .inl (ca 0, 810, .inl (fa0 24))) :: ((r0 28), .inl (ca 3, 810, .inl (fa0 25))) :: ((r0 29), .inl (ca 1, 810, .inr (.inl (fb0 2)))) :: ((r0 30), .inl (ca 0, 810, .inl (fa0 26))) :: ((r0 31), .inl (ca 0, 3, .inl (fa0 27))) :: ((r0 32), .inl (ca 0, 60, .inl (fa0 28))) :: ((r0 33), .inl (ca 0, 4, .inl (fa0 29))) :: rest) H := hP
  have hD : va_D A (((r0 0), .inr (9, [.ref (r0 1), .int (fi0 0), .int (fi0 1), .int (fi0 2), .int (fi0 3), .int (fi0 4), .int (fi0 5), .int (fi0 6), .int (fi0 7), .int (fi0 8), .ref (r0 2), .int (fi0 9), .ref (r0 3), .ref (r0 4), .ref (r0 5), .ref (r0 6), .ref (r0 7), .ref (r0 8), .ref (r0 9), .ref (r0 10), .ref (r0 11), .ref (r0 12), .ref (r0 13), .ref (r0 14), .ref (r0 15), .ref (r0 16), .ref (r0 17), .ref (r0 18), .ref (r0 19), .ref (r0 20), .ref (r0 21), .ref (r0 22), .ref (r0 23), .ref (r0 24), .ref (r0 25), .ref (r0 26), .ref (r0 27), .ref (r0 28), .ref (r0 29), .ref (r0 30), .ref (r0 31), .ref (r0 32), .int (fi0 10), .ref (r0 33)])) :: ((r0 1), .inl (ca 2, 600, .inl (fa0 0))) :: ((r0 2), .inl (ca 0, 48, .inl (fa0 1))) :: ((r0 3), .inl (ca 0, 60, .inl (fa0 2))) :: ((r0 4), .inl (ca 0, 60, .inl (fa0 3))) :: ((r0 5), .inl (ca 0, 60, .inl (fa0 4))) :: ((r0 6), .inl (ca 0, 60, .inl (fa0 5))) :: ((r0 7), .inl (ca 0, 60, .inl (fa0 6))) :: ((r0 8), .inl (ca 0, 60, .inl (fa0 7))) :: ((r0 9), .inl (ca 0, 180, .inl (fa0 8))) :: ((r0 10), .inl (ca 0, 60, .inl (fa0 9))) :: ((r0 11), .inl (ca 0, 180, .inl (fa0 10))) :: ((r0 12), .inl (ca 0, 180, .inl (fa0 11))) :: ((r0 13), .inl (ca 0, 180, .inl (fa0 12))) :: ((r0 14), .inl (ca 0, 180, .inl (fa0 13))) :: ((r0 15), .inl (ca 0, 180, .inl (fa0 14))) :: ((r0 16), .inl (ca 0, 180, .inl (fa0 15))) :: ((r0 17), .inl (ca 0, 180, .inl (fa0 16))) :: ((r0 18), .inl (ca 0, 180, .inl (fa0 17))) :: ((r0 19), .inl (ca 0, 180, .inl (fa0 18))) :: ((r0 20), .inl (ca 0, 180, .inl (fa0 19))) :: ((r0 21), .inl (ca 0, 3, .inl (fa0 20))) :: ((r0 22), .inl (ca 1, 3, .inr (.inl (fb0 0)))) :: ((r0 23), .inl (ca 1, 3, .inr (.inl (fb0 1)))) :: ((r0 24), .inl (ca 3, 3, .inl (fa0 21))) :: ((r0 25), .inl (ca 0, 3, .inl (fa0 22))) :: ((r0 26), .inl (ca 0, 3, .inl (fa0 23))) :: ((r0 27), .inl (ca 0, 810, .inl (fa0 24))) :: ((r0 28), .inl (ca 3, 810, .inl (fa0 25))) :: ((r0 29), .inl (ca 1, 810, .inr (.inl (fb0 2)))) :: ((r0 30), .inl (ca 0, 810, .inl (fa0 26))) :: ((r0 31), .inl (ca 0, 3, .inl (fa0 27))) :: ((r0 32), .inl (ca 0, 60, .inl (fa0 28))) :: ((r0 33), .inl (ca 0, 4, .inl (fa0 29))) :: rest) := hD
  have hl := lv_entry ([.ref (r0 0), .int p1, .int p2]) (n := 4) (Nat.le_of_ble_eq_true rfl)
  rw [lg_entry_eq]
  generalize (lg_sl ([.ref (r0 0), .int p1, .int p2]) ++ List.replicate (4 - (lg_sl ([.ref (r0 0), .int p1, .int p2])).length) Slot.unset).toArray = ls at hl ⊢
  have hl : lv_has ls 4 [(0, .ref (r0 0)), (1, .int p1), (2, .int p2)] := hl
  generalize hQ9 : MQ below _ _ s 0 0 A = Q9
  refine lv_aload_n hx hb dX9_isFrozen_0 rfl (lv_at hl 0 rfl) ?_
  refine lv_iload_n hx hb dX9_isFrozen_1 rfl (lv_at hl 1 rfl) ?_
  refine lv_iload_n hx hb dX9_isFrozen_2 rfl (lv_at hl 2 rfl) ?_
  refine lv_aload_n hx hb dX9_isFrozen_3 rfl (lv_at hl 0 rfl) ?_
  refine lv_iload_n hx hb dX9_isFrozen_4 rfl (lv_at hl 1 rfl) ?_
  refine lv_iconst (v := 1) hx hb dX9_isFrozen_5 (by decide) ?_
  have ho1 : (0 ≤ (fi0 0).toInt ∧ (fi0 0).toInt ≤ 600) ∧ (0 ≤ (fi0 1).toInt ∧ (fi0 1).toInt ≤ 600) ∧ (0 ≤ (fi0 5).toInt ∧ (fi0 5).toInt ≤ 600) ∧ (0 ≤ (fi0 9).toInt ∧ (fi0 9).toInt ≤ 60) ∧ z_rng (-1) 59 (fa0 6) ∧ z_rng 0 59 (fa0 8) ∧ z_rng 0 3 (fa0 9) ∧ z_rng 0 269 (fa0 23) ∧ z_rng 0 5 (fa0 27) ∧ z_rng 0 59 (fa0 28) ∧ ((fi0 2).toInt = 1 → 0 ≤ (fi0 3).toInt) ∧ zOkR (fa0 1) (fa0 27) := ⟨⟨by omega, by omega⟩, ⟨by omega, by omega⟩, ⟨by omega, by omega⟩, ⟨by omega, by omega⟩, hv0a6, hv0a8, hv0a9, hv0a23, hv0a27, hv0a28, by omega, hv0y0⟩
  have hp2 : 0 ≤ p1.toInt ∧ p1.toInt ≤ 2 := by omega
  have hp3 : 0 ≤ (1 : Int32).toInt ∧ (1 : Int32).toInt ≤ 7 := by (simp only [show ((1 : Int32).toInt) = 1 from by decide]) <;> omega
  refine z_iV (As := [.int p1, .int 1]) (rest := [.int p2, .int p1, .ref (r0 0)]) hF (c_X9_ruleOf l D ca sa A rest (zl 0 [(r0 0), (r0 1), (r0 2), (r0 3), (r0 4), (r0 5), (r0 6), (r0 7), (r0 8), (r0 9), (r0 10), (r0 11), (r0 12), (r0 13), (r0 14), (r0 15), (r0 16), (r0 17), (r0 18), (r0 19), (r0 20), (r0 21), (r0 22), (r0 23), (r0 24), (r0 25), (r0 26), (r0 27), (r0 28), (r0 29), (r0 30), (r0 31), (r0 32), (r0 33)]) (zl 0 [(fi0 0), (fi0 1), (fi0 2), (fi0 3), (fi0 4), (fi0 5), (fi0 6), (fi0 7), (fi0 8), (fi0 9), (fi0 10)]) (zl 0 []) (zl (fun _ => 0) [(fa0 0), (fa0 1), (fa0 2), (fa0 3), (fa0 4), (fa0 5), (fa0 6), (fa0 7), (fa0 8), (fa0 9), (fa0 10), (fa0 11), (fa0 12), (fa0 13), (fa0 14), (fa0 15), (fa0 16), (fa0 17), (fa0 18), (fa0 19), (fa0 20), (fa0 21), (fa0 22), (fa0 23), (fa0 24), (fa0 25), (fa0 26), (fa0 27), (fa0 28), (fa0 29)]) (zl (fun _ => 0) [(fb0 0), (fb0 1), (fb0 2)]) ho1 p1 1 hp2 hp3) (cwV 2 hts gX9_isFrozen_X9_ruleOf rfl rfl rfl (by decide +kernel) ⟨Nat.le_of_ble_eq_true rfl, Nat.le_of_ble_eq_true rfl⟩) hE hP hD hS 9 0 rfl rfl rfl hl.1 rfl (Nat.le_of_ble_eq_true rfl) dX9_isFrozen_6 ⟨Nat.zero_le _, Nat.zero_le _⟩ (fun t5 u4 H locs hw6 hP hD hS => ?_)
  have hw6 : (((1 : Int32).toInt = 0 → 2 ≤ t5.toInt ∧ t5.toInt ≤ 100) ∧ ((1 : Int32).toInt = 6 → t5.toInt = -1 ∨ (1 ≤ t5.toInt ∧ t5.toInt ≤ 50))) := hw6
  have hq7 := hw6
  clear hw6
  clear hq7
  have hP : va_P D vwCl (((r0 0), .inr (9, [.ref (r0 1), .int (fi0 0), .int (fi0 1), .int (fi0 2), .int (fi0 3), .int (fi0 4), .int (fi0 5), .int (fi0 6), .int (fi0 7), .int (fi0 8), .ref (r0 2), .int (fi0 9), .ref (r0 3), .ref (r0 4), .ref (r0 5), .ref (r0 6), .ref (r0 7), .ref (r0 8), .ref (r0 9), .ref (r0 10), .ref (r0 11), .ref (r0 12), .ref (r0 13), .ref (r0 14), .ref (r0 15), .ref (r0 16), .ref (r0 17), .ref (r0 18), .ref (r0 19), .ref (r0 20), .ref (r0 21), .ref (r0 22), .ref (r0 23), .ref (r0 24), .ref (r0 25), .ref (r0 26), .ref (r0 27), .ref (r0 28), .ref (r0 29), .ref (r0 30), .ref (r0 31), .ref (r0 32), .int (fi0 10), .ref (r0 33)])) :: ((r0 1), .inl (ca 2, 600, .inl (fa0 0))) :: ((r0 2), .inl (ca 0, 48, .inl (fa0 1))) :: ((r0 3), .inl (ca 0, 60, .inl (fa0 2))) :: ((r0 4), .inl (ca 0, 60, .inl (fa0 3))) :: ((r0 5), .inl (ca 0, 60, .inl (fa0 4))) :: ((r0 6), .inl (ca 0, 60, .inl (fa0 5))) :: ((r0 7), .inl (ca 0, 60, .inl (fa0 6))) :: ((r0 8), .inl (ca 0, 60, .inl (fa0 7))) :: ((r0 9), .inl (ca 0, 180, .inl (fa0 8))) :: ((r0 10), .inl (ca 0, 60, .inl (fa0 9))) :: ((r0 11), .inl (ca 0, 180, .inl (fa0 10))) :: ((r0 12), .inl (ca 0, 180, .inl (fa0 11))) :: ((r0 13), .inl (ca 0, 180, .inl (fa0 12))) :: ((r0 14), .inl (ca 0, 180, .inl (fa0 13))) :: ((r0 15), .inl (ca 0, 180, .inl (fa0 14))) :: ((r0 16), .inl (ca 0, 180, .inl (fa0 15))) :: ((r0 17), .inl (ca 0, 180, .inl (fa0 16))) :: ((r0 18), .inl (ca 0, 180, .inl (fa0 17))) :: ((r0 19), .inl (ca 0, 180, .inl (fa0 18))) :: ((r0 20), .inl (ca 0, 180, .inl (fa0 19))) :: ((r0 21), .inl (ca 0, 3, .inl (fa0 20))) :: ((r0 22), .inl (ca 1, 3, .inr (.inl (fb0 0)))) :: ((r0 23), .inl (ca 1, 3, .inr (.inl (fb0 1)))) :: ((r0 24), .inl (ca 3, 3, .inl (fa0 21))) :: ((r0 25), .inl (ca 0, 3, .inl (fa0 22))) :: ((r0 26), .inl (ca 0, 3, .inl (fa0 23))) :: ((r0 27), .inl (ca 0, 810, .inl (fa0 24))) :: ((r0 28), .inl (ca 3, 810, .inl (fa0 25))) :: ((r0 29), .inl (ca 1, 810, .inr (.inl (fb0 2)))) :: ((r0 30), .inl (ca 0, 810, .inl (fa0 26))) :: ((r0 31), .inl (ca 0, 3, .inl (fa0 27))) :: ((r0 32), .inl (ca 0, 60, .inl (fa0 28))) :: ((r0 33), .inl (ca 0, 4, .inl (fa0 29))) :: rest) H := hP
  have hD : va_D A (((r0 0), .inr (9, [.ref (r0 1), .int (fi0 0), .int (fi0 1), .int (fi0 2), .int (fi0 3), .int (fi0 4), .int (fi0 5), .int (fi0 6), .int (fi0 7), .int (fi0 8), .ref (r0 2), .int (fi0 9), .ref (r0 3), .ref (r0 4), .ref (r0 5), .ref (r0 6), .ref (r0 7), .ref (r0 8), .ref (r0 9), .ref (r0 10), .ref (r0 11), .ref (r0 12), .ref (r0 13), .ref (r0 14), .ref (r0 15), .ref (r0 16), .ref (r0 17), .ref (r0 18), .ref (r0 19), .ref (r0 20), .ref (r0 21), .ref (r0 22), .ref (r0 23), .ref (r0 24), .ref (r0 25), .ref (r0 26), .ref (r0 27), .ref (r0 28), .ref (r0 29), .ref (r0 30), .ref (r0 31), .ref (r0 32), .int (fi0 10), .ref (r0 33)])) :: ((r0 1), .inl (ca 2, 600, .inl (fa0 0))) :: ((r0 2), .inl (ca 0, 48, .inl (fa0 1))) :: ((r0 3), .inl (ca 0, 60, .inl (fa0 2))) :: ((r0 4), .inl (ca 0, 60, .inl (fa0 3))) :: ((r0 5), .inl (ca 0, 60, .inl (fa0 4))) :: ((r0 6), .inl (ca 0, 60, .inl (fa0 5))) :: ((r0 7), .inl (ca 0, 60, .inl (fa0 6))) :: ((r0 8), .inl (ca 0, 60, .inl (fa0 7))) :: ((r0 9), .inl (ca 0, 180, .inl (fa0 8))) :: ((r0 10), .inl (ca 0, 60, .inl (fa0 9))) :: ((r0 11), .inl (ca 0, 180, .inl (fa0 10))) :: ((r0 12), .inl (ca 0, 180, .inl (fa0 11))) :: ((r0 13), .inl (ca 0, 180, .inl (fa0 12))) :: ((r0 14), .inl (ca 0, 180, .inl (fa0 13))) :: ((r0 15), .inl (ca 0, 180, .inl (fa0 14))) :: ((r0 16), .inl (ca 0, 180, .inl (fa0 15))) :: ((r0 17), .inl (ca 0, 180, .inl (fa0 16))) :: ((r0 18), .inl (ca 0, 180, .inl (fa0 17))) :: ((r0 19), .inl (ca 0, 180, .inl (fa0 18))) :: ((r0 20), .inl (ca 0, 180, .inl (fa0 19))) :: ((r0 21), .inl (ca 0, 3, .inl (fa0 20))) :: ((r0 22), .inl (ca 1, 3, .inr (.inl (fb0 0)))) :: ((r0 23), .inl (ca 1, 3, .inr (.inl (fb0 1)))) :: ((r0 24), .inl (ca 3, 3, .inl (fa0 21))) :: ((r0 25), .inl (ca 0, 3, .inl (fa0 22))) :: ((r0 26), .inl (ca 0, 3, .inl (fa0 23))) :: ((r0 27), .inl (ca 0, 810, .inl (fa0 24))) :: ((r0 28), .inl (ca 3, 810, .inl (fa0 25))) :: ((r0 29), .inl (ca 1, 810, .inr (.inl (fb0 2)))) :: ((r0 30), .inl (ca 0, 810, .inl (fa0 26))) :: ((r0 31), .inl (ca 0, 3, .inl (fa0 27))) :: ((r0 32), .inl (ca 0, 60, .inl (fa0 28))) :: ((r0 33), .inl (ca 0, 4, .inl (fa0 29))) :: rest) := hD
  refine lv_iadd hx hb dX9_isFrozen_9 ?_
  refine lv_topi (fun t8 et8 => ?_)
  try have ht8 : t8.toInt = p2.toInt + t5.toInt := z_add et8 rfl rfl (by omega -splitDisjunctions) (by omega -splitDisjunctions)
  refine lv_iconst (v := 1) hx hb dX9_isFrozen_10 (by decide) ?_
  refine lv_iadd hx hb dX9_isFrozen_11 ?_
  refine lv_topi (fun t9 et9 => ?_)
  try have ht9 : t9.toInt = t8.toInt + 1 := z_add et9 rfl (by decide) (by omega -splitDisjunctions) (by omega -splitDisjunctions)
  have ho10 : (0 ≤ (fi0 0).toInt ∧ (fi0 0).toInt ≤ 600) ∧ (0 ≤ (fi0 1).toInt ∧ (fi0 1).toInt ≤ 600) ∧ (0 ≤ (fi0 5).toInt ∧ (fi0 5).toInt ≤ 600) ∧ (0 ≤ (fi0 9).toInt ∧ (fi0 9).toInt ≤ 60) ∧ z_rng (-1) 59 (fa0 6) ∧ z_rng 0 59 (fa0 8) ∧ z_rng 0 3 (fa0 9) ∧ z_rng 0 269 (fa0 23) ∧ z_rng 0 5 (fa0 27) ∧ z_rng 0 59 (fa0 28) ∧ ((fi0 2).toInt = 1 → 0 ≤ (fi0 3).toInt) ∧ zOkR (fa0 1) (fa0 27) := ⟨⟨by omega, by omega⟩, ⟨by omega, by omega⟩, ⟨by omega, by omega⟩, ⟨by omega, by omega⟩, hv0a6, hv0a8, hv0a9, hv0a23, hv0a27, hv0a28, by omega, hv0y0⟩
  have hp11 : 0 ≤ p1.toInt ∧ p1.toInt ≤ 2 := by omega
  refine z_iV (As := [.int p1, .int t9]) (rest := []) hF (c_X9_nextRelease l D ca sa A rest (zl 0 [(r0 0), (r0 1), (r0 2), (r0 3), (r0 4), (r0 5), (r0 6), (r0 7), (r0 8), (r0 9), (r0 10), (r0 11), (r0 12), (r0 13), (r0 14), (r0 15), (r0 16), (r0 17), (r0 18), (r0 19), (r0 20), (r0 21), (r0 22), (r0 23), (r0 24), (r0 25), (r0 26), (r0 27), (r0 28), (r0 29), (r0 30), (r0 31), (r0 32), (r0 33)]) (zl 0 [(fi0 0), (fi0 1), (fi0 2), (fi0 3), (fi0 4), (fi0 5), (fi0 6), (fi0 7), (fi0 8), (fi0 9), (fi0 10)]) (zl 0 []) (zl (fun _ => 0) [(fa0 0), (fa0 1), (fa0 2), (fa0 3), (fa0 4), (fa0 5), (fa0 6), (fa0 7), (fa0 8), (fa0 9), (fa0 10), (fa0 11), (fa0 12), (fa0 13), (fa0 14), (fa0 15), (fa0 16), (fa0 17), (fa0 18), (fa0 19), (fa0 20), (fa0 21), (fa0 22), (fa0 23), (fa0 24), (fa0 25), (fa0 26), (fa0 27), (fa0 28), (fa0 29)]) (zl (fun _ => 0) [(fb0 0), (fb0 1), (fb0 2)]) ho10 p1 t9 hp11) (cwV 2 hts gX9_isFrozen_X9_nextRelease rfl rfl rfl (by decide +kernel) ⟨Nat.le_of_ble_eq_true rfl, Nat.le_of_ble_eq_true rfl⟩) hE hP hD hS 9 0 rfl rfl rfl hl.1 rfl (Nat.le_of_ble_eq_true rfl) dX9_isFrozen_12 ⟨Nat.zero_le _, Nat.zero_le _⟩ (fun t13 u12 H locs hw14 hP hD hS => ?_)
  have hP : va_P D vwCl (((r0 0), .inr (9, [.ref (r0 1), .int (fi0 0), .int (fi0 1), .int (fi0 2), .int (fi0 3), .int (fi0 4), .int (fi0 5), .int (fi0 6), .int (fi0 7), .int (fi0 8), .ref (r0 2), .int (fi0 9), .ref (r0 3), .ref (r0 4), .ref (r0 5), .ref (r0 6), .ref (r0 7), .ref (r0 8), .ref (r0 9), .ref (r0 10), .ref (r0 11), .ref (r0 12), .ref (r0 13), .ref (r0 14), .ref (r0 15), .ref (r0 16), .ref (r0 17), .ref (r0 18), .ref (r0 19), .ref (r0 20), .ref (r0 21), .ref (r0 22), .ref (r0 23), .ref (r0 24), .ref (r0 25), .ref (r0 26), .ref (r0 27), .ref (r0 28), .ref (r0 29), .ref (r0 30), .ref (r0 31), .ref (r0 32), .int (fi0 10), .ref (r0 33)])) :: ((r0 1), .inl (ca 2, 600, .inl (fa0 0))) :: ((r0 2), .inl (ca 0, 48, .inl (fa0 1))) :: ((r0 3), .inl (ca 0, 60, .inl (fa0 2))) :: ((r0 4), .inl (ca 0, 60, .inl (fa0 3))) :: ((r0 5), .inl (ca 0, 60, .inl (fa0 4))) :: ((r0 6), .inl (ca 0, 60, .inl (fa0 5))) :: ((r0 7), .inl (ca 0, 60, .inl (fa0 6))) :: ((r0 8), .inl (ca 0, 60, .inl (fa0 7))) :: ((r0 9), .inl (ca 0, 180, .inl (fa0 8))) :: ((r0 10), .inl (ca 0, 60, .inl (fa0 9))) :: ((r0 11), .inl (ca 0, 180, .inl (fa0 10))) :: ((r0 12), .inl (ca 0, 180, .inl (fa0 11))) :: ((r0 13), .inl (ca 0, 180, .inl (fa0 12))) :: ((r0 14), .inl (ca 0, 180, .inl (fa0 13))) :: ((r0 15), .inl (ca 0, 180, .inl (fa0 14))) :: ((r0 16), .inl (ca 0, 180, .inl (fa0 15))) :: ((r0 17), .inl (ca 0, 180, .inl (fa0 16))) :: ((r0 18), .inl (ca 0, 180, .inl (fa0 17))) :: ((r0 19), .inl (ca 0, 180, .inl (fa0 18))) :: ((r0 20), .inl (ca 0, 180, .inl (fa0 19))) :: ((r0 21), .inl (ca 0, 3, .inl (fa0 20))) :: ((r0 22), .inl (ca 1, 3, .inr (.inl (fb0 0)))) :: ((r0 23), .inl (ca 1, 3, .inr (.inl (fb0 1)))) :: ((r0 24), .inl (ca 3, 3, .inl (fa0 21))) :: ((r0 25), .inl (ca 0, 3, .inl (fa0 22))) :: ((r0 26), .inl (ca 0, 3, .inl (fa0 23))) :: ((r0 27), .inl (ca 0, 810, .inl (fa0 24))) :: ((r0 28), .inl (ca 3, 810, .inl (fa0 25))) :: ((r0 29), .inl (ca 1, 810, .inr (.inl (fb0 2)))) :: ((r0 30), .inl (ca 0, 810, .inl (fa0 26))) :: ((r0 31), .inl (ca 0, 3, .inl (fa0 27))) :: ((r0 32), .inl (ca 0, 60, .inl (fa0 28))) :: ((r0 33), .inl (ca 0, 4, .inl (fa0 29))) :: rest) H := hP
  have hD : va_D A (((r0 0), .inr (9, [.ref (r0 1), .int (fi0 0), .int (fi0 1), .int (fi0 2), .int (fi0 3), .int (fi0 4), .int (fi0 5), .int (fi0 6), .int (fi0 7), .int (fi0 8), .ref (r0 2), .int (fi0 9), .ref (r0 3), .ref (r0 4), .ref (r0 5), .ref (r0 6), .ref (r0 7), .ref (r0 8), .ref (r0 9), .ref (r0 10), .ref (r0 11), .ref (r0 12), .ref (r0 13), .ref (r0 14), .ref (r0 15), .ref (r0 16), .ref (r0 17), .ref (r0 18), .ref (r0 19), .ref (r0 20), .ref (r0 21), .ref (r0 22), .ref (r0 23), .ref (r0 24), .ref (r0 25), .ref (r0 26), .ref (r0 27), .ref (r0 28), .ref (r0 29), .ref (r0 30), .ref (r0 31), .ref (r0 32), .int (fi0 10), .ref (r0 33)])) :: ((r0 1), .inl (ca 2, 600, .inl (fa0 0))) :: ((r0 2), .inl (ca 0, 48, .inl (fa0 1))) :: ((r0 3), .inl (ca 0, 60, .inl (fa0 2))) :: ((r0 4), .inl (ca 0, 60, .inl (fa0 3))) :: ((r0 5), .inl (ca 0, 60, .inl (fa0 4))) :: ((r0 6), .inl (ca 0, 60, .inl (fa0 5))) :: ((r0 7), .inl (ca 0, 60, .inl (fa0 6))) :: ((r0 8), .inl (ca 0, 60, .inl (fa0 7))) :: ((r0 9), .inl (ca 0, 180, .inl (fa0 8))) :: ((r0 10), .inl (ca 0, 60, .inl (fa0 9))) :: ((r0 11), .inl (ca 0, 180, .inl (fa0 10))) :: ((r0 12), .inl (ca 0, 180, .inl (fa0 11))) :: ((r0 13), .inl (ca 0, 180, .inl (fa0 12))) :: ((r0 14), .inl (ca 0, 180, .inl (fa0 13))) :: ((r0 15), .inl (ca 0, 180, .inl (fa0 14))) :: ((r0 16), .inl (ca 0, 180, .inl (fa0 15))) :: ((r0 17), .inl (ca 0, 180, .inl (fa0 16))) :: ((r0 18), .inl (ca 0, 180, .inl (fa0 17))) :: ((r0 19), .inl (ca 0, 180, .inl (fa0 18))) :: ((r0 20), .inl (ca 0, 180, .inl (fa0 19))) :: ((r0 21), .inl (ca 0, 3, .inl (fa0 20))) :: ((r0 22), .inl (ca 1, 3, .inr (.inl (fb0 0)))) :: ((r0 23), .inl (ca 1, 3, .inr (.inl (fb0 1)))) :: ((r0 24), .inl (ca 3, 3, .inl (fa0 21))) :: ((r0 25), .inl (ca 0, 3, .inl (fa0 22))) :: ((r0 26), .inl (ca 0, 3, .inl (fa0 23))) :: ((r0 27), .inl (ca 0, 810, .inl (fa0 24))) :: ((r0 28), .inl (ca 3, 810, .inl (fa0 25))) :: ((r0 29), .inl (ca 1, 810, .inr (.inl (fb0 2)))) :: ((r0 30), .inl (ca 0, 810, .inl (fa0 26))) :: ((r0 31), .inl (ca 0, 3, .inl (fa0 27))) :: ((r0 32), .inl (ca 0, 60, .inl (fa0 28))) :: ((r0 33), .inl (ca 0, 4, .inl (fa0 29))) :: rest) := hD
  refine lv_istore_n (lv' := [(3, .int t13), (0, .ref (r0 0)), (1, .int p1), (2, .int p2)]) hx hb dX9_isFrozen_15 rfl hl (by decide) rfl (fun ls hl => ?_)
  refine lv_iload_n hx hb dX9_isFrozen_16 rfl (lv_at hl 0 rfl) ?_
  refine lv_iconst (v := (-1)) hx hb dX9_isFrozen_17 (by decide) ?_
  refine lv_icmp_eq (tgt := 44) hx hb dX9_isFrozen_18 (by decide) (fun c15 => ?_) (fun c15 => ?_)
  ·
    have c15 := z_eq (i := t13.toInt) (j := (-1)) rfl (by decide) c15
    refine lv_iconst (v := 0) hx hb dX9_isFrozen_44 (by decide) ?_
    subst hQ9
    refine lv_topi (fun t16 et16 => ?_)
    have ht16 : t16.toInt = 0 := by rw [et16]; decide
    have hq17 : 0 ≤ t16.toInt ∧ t16.toInt ≤ 1 := by omega
    have hz18 : narrow .boolean (.int t16) = .int t16 := z_nz (by constructor <;> omega)
    exact W.zret (v := t16) hx hb hr hz18 (fun t ht hW => ⟨⟨t16, (), rfl, hq17, ⟨by rw [ht]; exact hP, hD⟩⟩, hS.F ht⟩) hS.2.2 dX9_isFrozen_45
  ·
    have c15 := z_ne (i := t13.toInt) (j := (-1)) rfl (by decide) c15
    refine lv_iload_n hx hb dX9_isFrozen_21 rfl (lv_at hl 0 rfl) ?_
    refine lv_aload_n hx hb dX9_isFrozen_22 rfl (lv_at hl 1 rfl) ?_
    refine lv_iload_n hx hb dX9_isFrozen_23 rfl (lv_at hl 2 rfl) ?_
    refine lv_iconst (v := 1) hx hb dX9_isFrozen_24 (by decide) ?_
    have ho19 : (0 ≤ (fi0 0).toInt ∧ (fi0 0).toInt ≤ 600) ∧ (0 ≤ (fi0 1).toInt ∧ (fi0 1).toInt ≤ 600) ∧ (0 ≤ (fi0 5).toInt ∧ (fi0 5).toInt ≤ 600) ∧ (0 ≤ (fi0 9).toInt ∧ (fi0 9).toInt ≤ 60) ∧ z_rng (-1) 59 (fa0 6) ∧ z_rng 0 59 (fa0 8) ∧ z_rng 0 3 (fa0 9) ∧ z_rng 0 269 (fa0 23) ∧ z_rng 0 5 (fa0 27) ∧ z_rng 0 59 (fa0 28) ∧ ((fi0 2).toInt = 1 → 0 ≤ (fi0 3).toInt) ∧ zOkR (fa0 1) (fa0 27) := ⟨⟨by omega, by omega⟩, ⟨by omega, by omega⟩, ⟨by omega, by omega⟩, ⟨by omega, by omega⟩, hv0a6, hv0a8, hv0a9, hv0a23, hv0a27, hv0a28, by omega, hv0y0⟩
    have hp20 : 0 ≤ p1.toInt ∧ p1.toInt ≤ 2 := by omega
    have hp21 : 0 ≤ (1 : Int32).toInt ∧ (1 : Int32).toInt ≤ 7 := by (simp only [show ((1 : Int32).toInt) = 1 from by decide]) <;> omega
    refine z_iV (As := [.int p1, .int 1]) (rest := [.int t13]) hF (c_X9_ruleOf l D ca sa A rest (zl 0 [(r0 0), (r0 1), (r0 2), (r0 3), (r0 4), (r0 5), (r0 6), (r0 7), (r0 8), (r0 9), (r0 10), (r0 11), (r0 12), (r0 13), (r0 14), (r0 15), (r0 16), (r0 17), (r0 18), (r0 19), (r0 20), (r0 21), (r0 22), (r0 23), (r0 24), (r0 25), (r0 26), (r0 27), (r0 28), (r0 29), (r0 30), (r0 31), (r0 32), (r0 33)]) (zl 0 [(fi0 0), (fi0 1), (fi0 2), (fi0 3), (fi0 4), (fi0 5), (fi0 6), (fi0 7), (fi0 8), (fi0 9), (fi0 10)]) (zl 0 []) (zl (fun _ => 0) [(fa0 0), (fa0 1), (fa0 2), (fa0 3), (fa0 4), (fa0 5), (fa0 6), (fa0 7), (fa0 8), (fa0 9), (fa0 10), (fa0 11), (fa0 12), (fa0 13), (fa0 14), (fa0 15), (fa0 16), (fa0 17), (fa0 18), (fa0 19), (fa0 20), (fa0 21), (fa0 22), (fa0 23), (fa0 24), (fa0 25), (fa0 26), (fa0 27), (fa0 28), (fa0 29)]) (zl (fun _ => 0) [(fb0 0), (fb0 1), (fb0 2)]) ho19 p1 1 hp20 hp21) (cwV 2 hts gX9_isFrozen_X9_ruleOf rfl rfl rfl (by decide +kernel) ⟨Nat.le_of_ble_eq_true rfl, Nat.le_of_ble_eq_true rfl⟩) hE hP hD hS 9 0 rfl rfl rfl hl.1 rfl (Nat.le_of_ble_eq_true rfl) dX9_isFrozen_25 ⟨Nat.zero_le _, Nat.zero_le _⟩ (fun t23 u22 H locs hw24 hP hD hS => ?_)
    have hw24 : (((1 : Int32).toInt = 0 → 2 ≤ t23.toInt ∧ t23.toInt ≤ 100) ∧ ((1 : Int32).toInt = 6 → t23.toInt = -1 ∨ (1 ≤ t23.toInt ∧ t23.toInt ≤ 50))) := hw24
    have hq25 := hw24
    clear hw24
    clear hq25
    have hP : va_P D vwCl (((r0 0), .inr (9, [.ref (r0 1), .int (fi0 0), .int (fi0 1), .int (fi0 2), .int (fi0 3), .int (fi0 4), .int (fi0 5), .int (fi0 6), .int (fi0 7), .int (fi0 8), .ref (r0 2), .int (fi0 9), .ref (r0 3), .ref (r0 4), .ref (r0 5), .ref (r0 6), .ref (r0 7), .ref (r0 8), .ref (r0 9), .ref (r0 10), .ref (r0 11), .ref (r0 12), .ref (r0 13), .ref (r0 14), .ref (r0 15), .ref (r0 16), .ref (r0 17), .ref (r0 18), .ref (r0 19), .ref (r0 20), .ref (r0 21), .ref (r0 22), .ref (r0 23), .ref (r0 24), .ref (r0 25), .ref (r0 26), .ref (r0 27), .ref (r0 28), .ref (r0 29), .ref (r0 30), .ref (r0 31), .ref (r0 32), .int (fi0 10), .ref (r0 33)])) :: ((r0 1), .inl (ca 2, 600, .inl (fa0 0))) :: ((r0 2), .inl (ca 0, 48, .inl (fa0 1))) :: ((r0 3), .inl (ca 0, 60, .inl (fa0 2))) :: ((r0 4), .inl (ca 0, 60, .inl (fa0 3))) :: ((r0 5), .inl (ca 0, 60, .inl (fa0 4))) :: ((r0 6), .inl (ca 0, 60, .inl (fa0 5))) :: ((r0 7), .inl (ca 0, 60, .inl (fa0 6))) :: ((r0 8), .inl (ca 0, 60, .inl (fa0 7))) :: ((r0 9), .inl (ca 0, 180, .inl (fa0 8))) :: ((r0 10), .inl (ca 0, 60, .inl (fa0 9))) :: ((r0 11), .inl (ca 0, 180, .inl (fa0 10))) :: ((r0 12), .inl (ca 0, 180, .inl (fa0 11))) :: ((r0 13), .inl (ca 0, 180, .inl (fa0 12))) :: ((r0 14), .inl (ca 0, 180, .inl (fa0 13))) :: ((r0 15), .inl (ca 0, 180, .inl (fa0 14))) :: ((r0 16), .inl (ca 0, 180, .inl (fa0 15))) :: ((r0 17), .inl (ca 0, 180, .inl (fa0 16))) :: ((r0 18), .inl (ca 0, 180, .inl (fa0 17))) :: ((r0 19), .inl (ca 0, 180, .inl (fa0 18))) :: ((r0 20), .inl (ca 0, 180, .inl (fa0 19))) :: ((r0 21), .inl (ca 0, 3, .inl (fa0 20))) :: ((r0 22), .inl (ca 1, 3, .inr (.inl (fb0 0)))) :: ((r0 23), .inl (ca 1, 3, .inr (.inl (fb0 1)))) :: ((r0 24), .inl (ca 3, 3, .inl (fa0 21))) :: ((r0 25), .inl (ca 0, 3, .inl (fa0 22))) :: ((r0 26), .inl (ca 0, 3, .inl (fa0 23))) :: ((r0 27), .inl (ca 0, 810, .inl (fa0 24))) :: ((r0 28), .inl (ca 3, 810, .inl (fa0 25))) :: ((r0 29), .inl (ca 1, 810, .inr (.inl (fb0 2)))) :: ((r0 30), .inl (ca 0, 810, .inl (fa0 26))) :: ((r0 31), .inl (ca 0, 3, .inl (fa0 27))) :: ((r0 32), .inl (ca 0, 60, .inl (fa0 28))) :: ((r0 33), .inl (ca 0, 4, .inl (fa0 29))) :: rest) H := hP
    have hD : va_D A (((r0 0), .inr (9, [.ref (r0 1), .int (fi0 0), .int (fi0 1), .int (fi0 2), .int (fi0 3), .int (fi0 4), .int (fi0 5), .int (fi0 6), .int (fi0 7), .int (fi0 8), .ref (r0 2), .int (fi0 9), .ref (r0 3), .ref (r0 4), .ref (r0 5), .ref (r0 6), .ref (r0 7), .ref (r0 8), .ref (r0 9), .ref (r0 10), .ref (r0 11), .ref (r0 12), .ref (r0 13), .ref (r0 14), .ref (r0 15), .ref (r0 16), .ref (r0 17), .ref (r0 18), .ref (r0 19), .ref (r0 20), .ref (r0 21), .ref (r0 22), .ref (r0 23), .ref (r0 24), .ref (r0 25), .ref (r0 26), .ref (r0 27), .ref (r0 28), .ref (r0 29), .ref (r0 30), .ref (r0 31), .ref (r0 32), .int (fi0 10), .ref (r0 33)])) :: ((r0 1), .inl (ca 2, 600, .inl (fa0 0))) :: ((r0 2), .inl (ca 0, 48, .inl (fa0 1))) :: ((r0 3), .inl (ca 0, 60, .inl (fa0 2))) :: ((r0 4), .inl (ca 0, 60, .inl (fa0 3))) :: ((r0 5), .inl (ca 0, 60, .inl (fa0 4))) :: ((r0 6), .inl (ca 0, 60, .inl (fa0 5))) :: ((r0 7), .inl (ca 0, 60, .inl (fa0 6))) :: ((r0 8), .inl (ca 0, 60, .inl (fa0 7))) :: ((r0 9), .inl (ca 0, 180, .inl (fa0 8))) :: ((r0 10), .inl (ca 0, 60, .inl (fa0 9))) :: ((r0 11), .inl (ca 0, 180, .inl (fa0 10))) :: ((r0 12), .inl (ca 0, 180, .inl (fa0 11))) :: ((r0 13), .inl (ca 0, 180, .inl (fa0 12))) :: ((r0 14), .inl (ca 0, 180, .inl (fa0 13))) :: ((r0 15), .inl (ca 0, 180, .inl (fa0 14))) :: ((r0 16), .inl (ca 0, 180, .inl (fa0 15))) :: ((r0 17), .inl (ca 0, 180, .inl (fa0 16))) :: ((r0 18), .inl (ca 0, 180, .inl (fa0 17))) :: ((r0 19), .inl (ca 0, 180, .inl (fa0 18))) :: ((r0 20), .inl (ca 0, 180, .inl (fa0 19))) :: ((r0 21), .inl (ca 0, 3, .inl (fa0 20))) :: ((r0 22), .inl (ca 1, 3, .inr (.inl (fb0 0)))) :: ((r0 23), .inl (ca 1, 3, .inr (.inl (fb0 1)))) :: ((r0 24), .inl (ca 3, 3, .inl (fa0 21))) :: ((r0 25), .inl (ca 0, 3, .inl (fa0 22))) :: ((r0 26), .inl (ca 0, 3, .inl (fa0 23))) :: ((r0 27), .inl (ca 0, 810, .inl (fa0 24))) :: ((r0 28), .inl (ca 3, 810, .inl (fa0 25))) :: ((r0 29), .inl (ca 1, 810, .inr (.inl (fb0 2)))) :: ((r0 30), .inl (ca 0, 810, .inl (fa0 26))) :: ((r0 31), .inl (ca 0, 3, .inl (fa0 27))) :: ((r0 32), .inl (ca 0, 60, .inl (fa0 28))) :: ((r0 33), .inl (ca 0, 4, .inl (fa0 29))) :: rest) := hD
    refine lv_isub hx hb dX9_isFrozen_28 ?_
    refine lv_topi (fun t26 et26 => ?_)
    try have ht26 : t26.toInt = t13.toInt - t23.toInt := z_sub et26 rfl rfl (by omega -splitDisjunctions) (by omega -splitDisjunctions)
    refine lv_iload_n hx hb dX9_isFrozen_29 rfl (lv_at hl 3 rfl) ?_
    refine lv_isub hx hb dX9_isFrozen_30 ?_
    refine lv_topi (fun t27 et27 => ?_)
    try have ht27 : t27.toInt = t26.toInt - p2.toInt := z_sub et27 rfl rfl (by omega -splitDisjunctions) (by omega -splitDisjunctions)
    refine lv_aload_n hx hb dX9_isFrozen_31 rfl (lv_at hl 1 rfl) ?_
    refine lv_iload_n hx hb dX9_isFrozen_32 rfl (lv_at hl 2 rfl) ?_
    refine lv_iconst (v := 4) hx hb dX9_isFrozen_33 (by decide) ?_
    have ho28 : (0 ≤ (fi0 0).toInt ∧ (fi0 0).toInt ≤ 600) ∧ (0 ≤ (fi0 1).toInt ∧ (fi0 1).toInt ≤ 600) ∧ (0 ≤ (fi0 5).toInt ∧ (fi0 5).toInt ≤ 600) ∧ (0 ≤ (fi0 9).toInt ∧ (fi0 9).toInt ≤ 60) ∧ z_rng (-1) 59 (fa0 6) ∧ z_rng 0 59 (fa0 8) ∧ z_rng 0 3 (fa0 9) ∧ z_rng 0 269 (fa0 23) ∧ z_rng 0 5 (fa0 27) ∧ z_rng 0 59 (fa0 28) ∧ ((fi0 2).toInt = 1 → 0 ≤ (fi0 3).toInt) ∧ zOkR (fa0 1) (fa0 27) := ⟨⟨by omega, by omega⟩, ⟨by omega, by omega⟩, ⟨by omega, by omega⟩, ⟨by omega, by omega⟩, hv0a6, hv0a8, hv0a9, hv0a23, hv0a27, hv0a28, by omega, hv0y0⟩
    have hp29 : 0 ≤ p1.toInt ∧ p1.toInt ≤ 2 := by omega
    have hp30 : 0 ≤ (4 : Int32).toInt ∧ (4 : Int32).toInt ≤ 7 := by (simp only [show ((4 : Int32).toInt) = 4 from by decide]) <;> omega
    refine z_iV (As := [.int p1, .int 4]) (rest := [.int t27]) hF (c_X9_ruleOf l D ca sa A rest (zl 0 [(r0 0), (r0 1), (r0 2), (r0 3), (r0 4), (r0 5), (r0 6), (r0 7), (r0 8), (r0 9), (r0 10), (r0 11), (r0 12), (r0 13), (r0 14), (r0 15), (r0 16), (r0 17), (r0 18), (r0 19), (r0 20), (r0 21), (r0 22), (r0 23), (r0 24), (r0 25), (r0 26), (r0 27), (r0 28), (r0 29), (r0 30), (r0 31), (r0 32), (r0 33)]) (zl 0 [(fi0 0), (fi0 1), (fi0 2), (fi0 3), (fi0 4), (fi0 5), (fi0 6), (fi0 7), (fi0 8), (fi0 9), (fi0 10)]) (zl 0 []) (zl (fun _ => 0) [(fa0 0), (fa0 1), (fa0 2), (fa0 3), (fa0 4), (fa0 5), (fa0 6), (fa0 7), (fa0 8), (fa0 9), (fa0 10), (fa0 11), (fa0 12), (fa0 13), (fa0 14), (fa0 15), (fa0 16), (fa0 17), (fa0 18), (fa0 19), (fa0 20), (fa0 21), (fa0 22), (fa0 23), (fa0 24), (fa0 25), (fa0 26), (fa0 27), (fa0 28), (fa0 29)]) (zl (fun _ => 0) [(fb0 0), (fb0 1), (fb0 2)]) ho28 p1 4 hp29 hp30) (cwV 2 hts gX9_isFrozen_X9_ruleOf rfl rfl rfl (by decide +kernel) ⟨Nat.le_of_ble_eq_true rfl, Nat.le_of_ble_eq_true rfl⟩) hE hP hD hS 9 0 rfl rfl rfl hl.1 rfl (Nat.le_of_ble_eq_true rfl) dX9_isFrozen_34 ⟨Nat.zero_le _, Nat.zero_le _⟩ (fun t32 u31 H locs hw33 hP hD hS => ?_)
    have hw33 : (((4 : Int32).toInt = 0 → 2 ≤ t32.toInt ∧ t32.toInt ≤ 100) ∧ ((4 : Int32).toInt = 6 → t32.toInt = -1 ∨ (1 ≤ t32.toInt ∧ t32.toInt ≤ 50))) := hw33
    have hq34 := hw33
    clear hw33
    clear hq34
    have hP : va_P D vwCl (((r0 0), .inr (9, [.ref (r0 1), .int (fi0 0), .int (fi0 1), .int (fi0 2), .int (fi0 3), .int (fi0 4), .int (fi0 5), .int (fi0 6), .int (fi0 7), .int (fi0 8), .ref (r0 2), .int (fi0 9), .ref (r0 3), .ref (r0 4), .ref (r0 5), .ref (r0 6), .ref (r0 7), .ref (r0 8), .ref (r0 9), .ref (r0 10), .ref (r0 11), .ref (r0 12), .ref (r0 13), .ref (r0 14), .ref (r0 15), .ref (r0 16), .ref (r0 17), .ref (r0 18), .ref (r0 19), .ref (r0 20), .ref (r0 21), .ref (r0 22), .ref (r0 23), .ref (r0 24), .ref (r0 25), .ref (r0 26), .ref (r0 27), .ref (r0 28), .ref (r0 29), .ref (r0 30), .ref (r0 31), .ref (r0 32), .int (fi0 10), .ref (r0 33)])) :: ((r0 1), .inl (ca 2, 600, .inl (fa0 0))) :: ((r0 2), .inl (ca 0, 48, .inl (fa0 1))) :: ((r0 3), .inl (ca 0, 60, .inl (fa0 2))) :: ((r0 4), .inl (ca 0, 60, .inl (fa0 3))) :: ((r0 5), .inl (ca 0, 60, .inl (fa0 4))) :: ((r0 6), .inl (ca 0, 60, .inl (fa0 5))) :: ((r0 7), .inl (ca 0, 60, .inl (fa0 6))) :: ((r0 8), .inl (ca 0, 60, .inl (fa0 7))) :: ((r0 9), .inl (ca 0, 180, .inl (fa0 8))) :: ((r0 10), .inl (ca 0, 60, .inl (fa0 9))) :: ((r0 11), .inl (ca 0, 180, .inl (fa0 10))) :: ((r0 12), .inl (ca 0, 180, .inl (fa0 11))) :: ((r0 13), .inl (ca 0, 180, .inl (fa0 12))) :: ((r0 14), .inl (ca 0, 180, .inl (fa0 13))) :: ((r0 15), .inl (ca 0, 180, .inl (fa0 14))) :: ((r0 16), .inl (ca 0, 180, .inl (fa0 15))) :: ((r0 17), .inl (ca 0, 180, .inl (fa0 16))) :: ((r0 18), .inl (ca 0, 180, .inl (fa0 17))) :: ((r0 19), .inl (ca 0, 180, .inl (fa0 18))) :: ((r0 20), .inl (ca 0, 180, .inl (fa0 19))) :: ((r0 21), .inl (ca 0, 3, .inl (fa0 20))) :: ((r0 22), .inl (ca 1, 3, .inr (.inl (fb0 0)))) :: ((r0 23), .inl (ca 1, 3, .inr (.inl (fb0 1)))) :: ((r0 24), .inl (ca 3, 3, .inl (fa0 21))) :: ((r0 25), .inl (ca 0, 3, .inl (fa0 22))) :: ((r0 26), .inl (ca 0, 3, .inl (fa0 23))) :: ((r0 27), .inl (ca 0, 810, .inl (fa0 24))) :: ((r0 28), .inl (ca 3, 810, .inl (fa0 25))) :: ((r0 29), .inl (ca 1, 810, .inr (.inl (fb0 2)))) :: ((r0 30), .inl (ca 0, 810, .inl (fa0 26))) :: ((r0 31), .inl (ca 0, 3, .inl (fa0 27))) :: ((r0 32), .inl (ca 0, 60, .inl (fa0 28))) :: ((r0 33), .inl (ca 0, 4, .inl (fa0 29))) :: rest) H := hP
    have hD : va_D A (((r0 0), .inr (9, [.ref (r0 1), .int (fi0 0), .int (fi0 1), .int (fi0 2), .int (fi0 3), .int (fi0 4), .int (fi0 5), .int (fi0 6), .int (fi0 7), .int (fi0 8), .ref (r0 2), .int (fi0 9), .ref (r0 3), .ref (r0 4), .ref (r0 5), .ref (r0 6), .ref (r0 7), .ref (r0 8), .ref (r0 9), .ref (r0 10), .ref (r0 11), .ref (r0 12), .ref (r0 13), .ref (r0 14), .ref (r0 15), .ref (r0 16), .ref (r0 17), .ref (r0 18), .ref (r0 19), .ref (r0 20), .ref (r0 21), .ref (r0 22), .ref (r0 23), .ref (r0 24), .ref (r0 25), .ref (r0 26), .ref (r0 27), .ref (r0 28), .ref (r0 29), .ref (r0 30), .ref (r0 31), .ref (r0 32), .int (fi0 10), .ref (r0 33)])) :: ((r0 1), .inl (ca 2, 600, .inl (fa0 0))) :: ((r0 2), .inl (ca 0, 48, .inl (fa0 1))) :: ((r0 3), .inl (ca 0, 60, .inl (fa0 2))) :: ((r0 4), .inl (ca 0, 60, .inl (fa0 3))) :: ((r0 5), .inl (ca 0, 60, .inl (fa0 4))) :: ((r0 6), .inl (ca 0, 60, .inl (fa0 5))) :: ((r0 7), .inl (ca 0, 60, .inl (fa0 6))) :: ((r0 8), .inl (ca 0, 60, .inl (fa0 7))) :: ((r0 9), .inl (ca 0, 180, .inl (fa0 8))) :: ((r0 10), .inl (ca 0, 60, .inl (fa0 9))) :: ((r0 11), .inl (ca 0, 180, .inl (fa0 10))) :: ((r0 12), .inl (ca 0, 180, .inl (fa0 11))) :: ((r0 13), .inl (ca 0, 180, .inl (fa0 12))) :: ((r0 14), .inl (ca 0, 180, .inl (fa0 13))) :: ((r0 15), .inl (ca 0, 180, .inl (fa0 14))) :: ((r0 16), .inl (ca 0, 180, .inl (fa0 15))) :: ((r0 17), .inl (ca 0, 180, .inl (fa0 16))) :: ((r0 18), .inl (ca 0, 180, .inl (fa0 17))) :: ((r0 19), .inl (ca 0, 180, .inl (fa0 18))) :: ((r0 20), .inl (ca 0, 180, .inl (fa0 19))) :: ((r0 21), .inl (ca 0, 3, .inl (fa0 20))) :: ((r0 22), .inl (ca 1, 3, .inr (.inl (fb0 0)))) :: ((r0 23), .inl (ca 1, 3, .inr (.inl (fb0 1)))) :: ((r0 24), .inl (ca 3, 3, .inl (fa0 21))) :: ((r0 25), .inl (ca 0, 3, .inl (fa0 22))) :: ((r0 26), .inl (ca 0, 3, .inl (fa0 23))) :: ((r0 27), .inl (ca 0, 810, .inl (fa0 24))) :: ((r0 28), .inl (ca 3, 810, .inl (fa0 25))) :: ((r0 29), .inl (ca 1, 810, .inr (.inl (fb0 2)))) :: ((r0 30), .inl (ca 0, 810, .inl (fa0 26))) :: ((r0 31), .inl (ca 0, 3, .inl (fa0 27))) :: ((r0 32), .inl (ca 0, 60, .inl (fa0 28))) :: ((r0 33), .inl (ca 0, 4, .inl (fa0 29))) :: rest) := hD
    refine lv_icmp_gt (tgt := 44) hx hb dX9_isFrozen_37 (by decide) (fun c35 => ?_) (fun c35 => ?_)
    ·
      have c35 := z_lt (i := t32.toInt) (j := t27.toInt) rfl rfl c35
      refine lv_iconst (v := 0) hx hb dX9_isFrozen_44 (by decide) ?_
      subst hQ9
      refine lv_topi (fun t36 et36 => ?_)
      have ht36 : t36.toInt = 0 := by rw [et36]; decide
      have hq37 : 0 ≤ t36.toInt ∧ t36.toInt ≤ 1 := by omega
      have hz38 : narrow .boolean (.int t36) = .int t36 := z_nz (by constructor <;> omega)
      exact W.zret (v := t36) hx hb hr hz38 (fun t ht hW => ⟨⟨t36, (), rfl, hq37, ⟨by rw [ht]; exact hP, hD⟩⟩, hS.F ht⟩) hS.2.2 dX9_isFrozen_45
    ·
      have c35 := z_nlt (i := t32.toInt) (j := t27.toInt) rfl rfl c35
      refine lv_iconst (v := 1) hx hb dX9_isFrozen_40 (by decide) ?_
      refine lv_goto (tgt := 45) hx hb dX9_isFrozen_41 (by decide) ?_
      subst hQ9
      refine lv_topi (fun t39 et39 => ?_)
      have ht39 : t39.toInt = 1 := by rw [et39]; decide
      have hq40 : 0 ≤ t39.toInt ∧ t39.toInt ≤ 1 := by omega
      have hz41 : narrow .boolean (.int t39) = .int t39 := z_nz (by constructor <;> omega)
      exact W.zret (v := t39) hx hb hr hz41 (fun t ht hW => ⟨⟨t39, (), rfl, hq40, ⟨by rw [ht]; exact hP, hD⟩⟩, hS.F ht⟩) hS.2.2 dX9_isFrozen_45

set_option maxHeartbeats 8000000 in
set_option maxRecDepth 100000 in
theorem c_X9_isAhead (l : Launch) (D : va_G) (ca : Nat → ClassId) (sa : Nat → Nat) (A : Nat → Prop) (rest : va_W) (r0 : Nat → Nat) (fi0 : Nat → Int32) (fl0 : Nat → Int64) (fa0 : Nat → Nat → Int32) (fb0 : Nat → Nat → Int64) (hv0 : Ok_MOD fi0 fa0) (p1 : Int32) (p2 : Int32) (p3 : Int32) (hpre0 : 0 ≤ p1.toInt ∧ p1.toInt ≤ 2) (hpre1 : 0 ≤ p2.toInt ∧ p2.toInt ≤ 59) (hpre2 : 0 ≤ p3.toInt ∧ p3.toInt ≤ 59) : Met l yX9_isAhead wsX9_isAhead ({ frames := 0, cells := 0, slots := 0, locals := 0 }) (va_Pc [.ref (r0 0), .int p1, .int p2, .int p3] (zPre D ca sa A (w_MOD ca r0 fi0 fl0 fa0 fb0 (rest)))) (va_Qi (fun (r : Int32) (u : Unit) => (0 ≤ r.toInt ∧ r.toInt ≤ 1)) (fun u t => zPost D A (w_MOD ca r0 fi0 fl0 fa0 fb0 (rest)) t) A) 0 0 A := by
  refine Met.ofW (cc := cX9_isAhead) (maxL := 7) (ret := (some .boolean)) (by decide) rfl ?_
  intro p e s m args below meth c s₁ B hml hv9
  obtain ⟨rfl, hE, hP, hD⟩ := hv9
  have hx := B.exec
  have hb := B.bytes
  have hr := B.returns
  have hts := atoms_spec (ws := wsX9_isAhead) B.pre
  have hown : s.vm.findClass RX9 = some m.cls := findClass_of_methodNamed B.named
  have hlocks := B.notSynchronized
  have hK := hE.1
  have hF : CallFix p m c cX9_isAhead 7 s _ wsX9_isAhead RX9 := ⟨hx, hb, hml, hown, hts⟩
  have hS : va_S A s.heap s.heap [] := va_S.rf
  have lk33 := hts (.fieldLink RX9 33 "BranchPlayModel" "fixOf" "[I") (by decide +kernel)
  have inX9 : ∀ w ∈ wsX90, w ∈ wsX9_isAhead := by decide +kernel
  have lk48 := hts (.fieldLink RX9 48 "BranchPlayModel" "ready" "[I") (by decide +kernel)
  obtain ⟨⟨hv0i0, hv0j0⟩, ⟨hv0i1, hv0j1⟩, ⟨hv0i5, hv0j5⟩, ⟨hv0i9, hv0j9⟩, hv0a6, hv0a8, hv0a9, hv0a23, hv0a27, hv0a28, hv0x0, hv0y0⟩ := hv0
  generalize hHe : s.heap = H at hP
  have hS : va_S A s.heap H [] := by rw [← hHe]; exact hS
  have hP : va_P D vwCl (((r0 0), .inr (9, [.ref (r0 1), .int (fi0 0), .int (fi0 1), .int (fi0 2), .int (fi0 3), .int (fi0 4), .int (fi0 5), .int (fi0 6), .int (fi0 7), .int (fi0 8), .ref (r0 2), .int (fi0 9), .ref (r0 3), .ref (r0 4), .ref (r0 5), .ref (r0 6), .ref (r0 7), .ref (r0 8), .ref (r0 9), .ref (r0 10), .ref (r0 11), .ref (r0 12), .ref (r0 13), .ref (r0 14), .ref (r0 15), .ref (r0 16), .ref (r0 17), .ref (r0 18), .ref (r0 19), .ref (r0 20), .ref (r0 21), .ref (r0 22), .ref (r0 23), .ref (r0 24), .ref (r0 25), .ref (r0 26), .ref (r0 27), .ref (r0 28), .ref (r0 29), .ref (r0 30), .ref (r0 31), .ref (r0 32), .int (fi0 10), .ref (r0 33)])) :: ((r0 1), .inl (ca 2, 600, .inl (fa0 0))) :: ((r0 2), .inl (ca 0, 48, .inl (fa0 1))) :: ((r0 3), .inl (ca 0, 60, .inl (fa0 2))) :: ((r0 4), .inl (ca 0, 60, .inl (fa0 3))) :: ((r0 5), .inl (ca 0, 60, .inl (fa0 4))) :: ((r0 6), .inl (ca 0, 60, .inl (fa0 5))) :: ((r0 7), .inl (ca 0, 60, .inl (fa0 6))) :: ((r0 8), .inl (ca 0, 60, .inl (fa0 7))) :: ((r0 9), .inl (ca 0, 180, .inl (fa0 8))) :: ((r0 10), .inl (ca 0, 60, .inl (fa0 9))) :: ((r0 11), .inl (ca 0, 180, .inl (fa0 10))) :: ((r0 12), .inl (ca 0, 180, .inl (fa0 11))) :: ((r0 13), .inl (ca 0, 180, .inl (fa0 12))) :: ((r0 14), .inl (ca 0, 180, .inl (fa0 13))) :: ((r0 15), .inl (ca 0, 180, .inl (fa0 14))) :: ((r0 16), .inl (ca 0, 180, .inl (fa0 15))) :: ((r0 17), .inl (ca 0, 180, .inl (fa0 16))) :: ((r0 18), .inl (ca 0, 180, .inl (fa0 17))) :: ((r0 19), .inl (ca 0, 180, .inl (fa0 18))) :: ((r0 20), .inl (ca 0, 180, .inl (fa0 19))) :: ((r0 21), .inl (ca 0, 3, .inl (fa0 20))) :: ((r0 22), .inl (ca 1, 3, .inr (.inl (fb0 0)))) :: ((r0 23), .inl (ca 1, 3, .inr (.inl (fb0 1)))) :: ((r0 24), .inl (ca 3, 3, .inl (fa0 21))) :: ((r0 25), .inl (ca 0, 3, .inl (fa0 22))) :: ((r0 26), .inl (ca 0, 3, .inl (fa0 23))) :: ((r0 27), .inl (ca 0, 810, .inl (fa0 24))) :: ((r0 28), .inl (ca 3, 810, .inl (fa0 25))) :: ((r0 29), .inl (ca 1, 810, .inr (.inl (fb0 2)))) :: ((r0 30), .inl (ca 0, 810, .inl (fa0 26))) :: ((r0 31), .inl (ca 0, 3, .inl (fa0 27))) :: ((r0 32), .inl (ca 0, 60, .inl (fa0 28))) :: ((r0 33), .inl (ca 0, 4, .inl (fa0 29))) :: rest) H := hP
  have hD : va_D A (((r0 0), .inr (9, [.ref (r0 1), .int (fi0 0), .int (fi0 1), .int (fi0 2), .int (fi0 3), .int (fi0 4), .int (fi0 5), .int (fi0 6), .int (fi0 7), .int (fi0 8), .ref (r0 2), .int (fi0 9), .ref (r0 3), .ref (r0 4), .ref (r0 5), .ref (r0 6), .ref (r0 7), .ref (r0 8), .ref (r0 9), .ref (r0 10), .ref (r0 11), .ref (r0 12), .ref (r0 13), .ref (r0 14), .ref (r0 15), .ref (r0 16), .ref (r0 17), .ref (r0 18), .ref (r0 19), .ref (r0 20), .ref (r0 21), .ref (r0 22), .ref (r0 23), .ref (r0 24), .ref (r0 25), .ref (r0 26), .ref (r0 27), .ref (r0 28), .ref (r0 29), .ref (r0 30), .ref (r0 31), .ref (r0 32), .int (fi0 10), .ref (r0 33)])) :: ((r0 1), .inl (ca 2, 600, .inl (fa0 0))) :: ((r0 2), .inl (ca 0, 48, .inl (fa0 1))) :: ((r0 3), .inl (ca 0, 60, .inl (fa0 2))) :: ((r0 4), .inl (ca 0, 60, .inl (fa0 3))) :: ((r0 5), .inl (ca 0, 60, .inl (fa0 4))) :: ((r0 6), .inl (ca 0, 60, .inl (fa0 5))) :: ((r0 7), .inl (ca 0, 60, .inl (fa0 6))) :: ((r0 8), .inl (ca 0, 60, .inl (fa0 7))) :: ((r0 9), .inl (ca 0, 180, .inl (fa0 8))) :: ((r0 10), .inl (ca 0, 60, .inl (fa0 9))) :: ((r0 11), .inl (ca 0, 180, .inl (fa0 10))) :: ((r0 12), .inl (ca 0, 180, .inl (fa0 11))) :: ((r0 13), .inl (ca 0, 180, .inl (fa0 12))) :: ((r0 14), .inl (ca 0, 180, .inl (fa0 13))) :: ((r0 15), .inl (ca 0, 180, .inl (fa0 14))) :: ((r0 16), .inl (ca 0, 180, .inl (fa0 15))) :: ((r0 17), .inl (ca 0, 180, .inl (fa0 16))) :: ((r0 18), .inl (ca 0, 180, .inl (fa0 17))) :: ((r0 19), .inl (ca 0, 180, .inl (fa0 18))) :: ((r0 20), .inl (ca 0, 180, .inl (fa0 19))) :: ((r0 21), .inl (ca 0, 3, .inl (fa0 20))) :: ((r0 22), .inl (ca 1, 3, .inr (.inl (fb0 0)))) :: ((r0 23), .inl (ca 1, 3, .inr (.inl (fb0 1)))) :: ((r0 24), .inl (ca 3, 3, .inl (fa0 21))) :: ((r0 25), .inl (ca 0, 3, .inl (fa0 22))) :: ((r0 26), .inl (ca 0, 3, .inl (fa0 23))) :: ((r0 27), .inl (ca 0, 810, .inl (fa0 24))) :: ((r0 28), .inl (ca 3, 810, .inl (fa0 25))) :: ((r0 29), .inl (ca 1, 810, .inr (.inl (fb0 2)))) :: ((r0 30), .inl (ca 0, 810, .inl (fa0 26))) :: ((r0 31), .inl (ca 0, 3, .inl (fa0 27))) :: ((r0 32), .inl (ca 0, 60, .inl (fa0 28))) :: ((r0 33), .inl (ca 0, 4, .inl (fa0 29))) :: rest) := hD
  have hl := lv_entry ([.ref (r0 0), .int p1, .int p2, .int p3]) (n := 7) (Nat.le_of_ble_eq_true rfl)
  rw [lg_entry_eq]
  generalize (lg_sl ([.ref (r0 0), .int p1, .int p2, .int p3]) ++ List.replicate (7 - (lg_sl ([.ref (r0 0), .int p1, .int p2, .int p3])).length) Slot.unset).toArray = ls at hl ⊢
  have hl : lv_has ls 7 [(0, .ref (r0 0)), (1, .int p1), (2, .int p2), (3, .int p3)] := hl
  generalize hQ9 : MQ below _ _ s 0 0 A = Q9
  refine lv_aload_n hx hb dX9_isAhead_0 rfl (lv_at hl 0 rfl) ?_
  refine va_get (D := D) (ci := 9) (v := .ref (r0 7)) (C := RX9) (T := TX9) (N := 44) hx hb hts inX9 hown hK hP 0 rfl rfl 16 (by decide) lk33 (fun _ h9 => h9) rfl dX9_isAhead_1 ?_
  refine lv_iload_n hx hb dX9_isAhead_4 rfl (lv_at hl 2 rfl) ?_
  have hi1 : vp_in p2 60 := z_in (i := p2.toInt) rfl (by omega) (by omega)
  refine va_iald hx hb hK hP 7 0 rfl rfl hi1 dX9_isAhead_5 ?_
  refine lv_topi (fun t2 et2 => ?_)
  have ht2 := z_at hv0a6 et2
  refine lv_iconst (v := (-1)) hx hb dX9_isAhead_6 (by decide) ?_
  have J15_3 : ∀ (k0_3 : Int32) (ls : Array Slot) (hl : lv_has ls 7 [(0, .ref (r0 0)), (1, .int p1), (2, .int p2), (3, .int p3)]) (hf3_0 : 0 ≤ k0_3.toInt ∧ k0_3.toInt ≤ 1), W p l e (headSpec wsX9_isAhead ({ frames := 0, cells := 0, slots := 0, locals := 0 })).room s m ([.ref (r0 0), .int p1, .int p2, .int p3] : List Value).toArray below meth c H [] 0 0 Q9 (F0 m 15 ls [.int k0_3]) := by
    intro k0_3 ls hl hf3_0
    refine lv_istore (lv' := [(4, .int k0_3), (0, .ref (r0 0)), (1, .int p1), (2, .int p2), (3, .int p3)]) hx hb dX9_isAhead_15 hl (by decide) rfl (fun ls hl => ?_)
    refine lv_aload_n hx hb dX9_isAhead_17 rfl (lv_at hl 1 rfl) ?_
    refine va_get (D := D) (ci := 9) (v := .ref (r0 7)) (C := RX9) (T := TX9) (N := 44) hx hb hts inX9 hown hK hP 0 rfl rfl 16 (by decide) lk33 (fun _ h9 => h9) rfl dX9_isAhead_18 ?_
    refine lv_iload_n hx hb dX9_isAhead_21 rfl (lv_at hl 4 rfl) ?_
    have hi4 : vp_in p3 60 := z_in (i := p3.toInt) rfl (by omega) (by omega)
    refine va_iald hx hb hK hP 7 0 rfl rfl hi4 dX9_isAhead_22 ?_
    refine lv_topi (fun t5 et5 => ?_)
    have ht5 := z_at hv0a6 et5
    refine lv_iconst (v := (-1)) hx hb dX9_isAhead_23 (by decide) ?_
    have J32_6 : ∀ (k0_6 : Int32) (ls : Array Slot) (hl : lv_has ls 7 [(0, .ref (r0 0)), (1, .int p1), (2, .int p2), (3, .int p3), (4, .int k0_3)]) (hf6_0 : 0 ≤ k0_6.toInt ∧ k0_6.toInt ≤ 1), W p l e (headSpec wsX9_isAhead ({ frames := 0, cells := 0, slots := 0, locals := 0 })).room s m ([.ref (r0 0), .int p1, .int p2, .int p3] : List Value).toArray below meth c H [] 0 0 Q9 (F0 m 32 ls [.int k0_6]) := by
      intro k0_6 ls hl hf6_0
      refine lv_istore (lv' := [(5, .int k0_6), (0, .ref (r0 0)), (1, .int p1), (2, .int p2), (3, .int p3), (4, .int k0_3)]) hx hb dX9_isAhead_32 hl (by decide) rfl (fun ls hl => ?_)
      refine lv_iload hx hb dX9_isAhead_34 (lv_at hl 5 rfl) ?_
      refine lv_iload hx hb dX9_isAhead_36 (lv_at hl 0 rfl) ?_
      refine lv_icmp_eq (tgt := 44) hx hb dX9_isAhead_38 (by decide) (fun c7 => ?_) (fun c7 => ?_)
      ·
        have c7 := z_eq (i := k0_3.toInt) (j := k0_6.toInt) rfl rfl c7
        refine lv_aload_n hx hb dX9_isAhead_44 rfl (lv_at hl 1 rfl) ?_
        refine va_get (D := D) (ci := 9) (v := .ref (r0 12)) (C := RX9) (T := TX9) (N := 44) hx hb hts inX9 hown hK hP 0 rfl rfl 21 (by decide) lk48 (fun _ h9 => h9) rfl dX9_isAhead_45 ?_
        refine lv_bipush (v := 60) hx hb dX9_isAhead_48 (by decide) ?_
        refine lv_iload_n hx hb dX9_isAhead_50 rfl (lv_at hl 2 rfl) ?_
        refine lv_imul hx hb dX9_isAhead_51 ?_
        refine lv_topi (fun t8 et8 => ?_)
        try have ht8 : t8.toInt = 60 * p1.toInt := z_mul et8 (by decide) rfl (by omega -splitDisjunctions) (by omega -splitDisjunctions)
        refine lv_iload_n hx hb dX9_isAhead_52 rfl (lv_at hl 3 rfl) ?_
        refine lv_iadd hx hb dX9_isAhead_53 ?_
        refine lv_topi (fun t9 et9 => ?_)
        try have ht9 : t9.toInt = t8.toInt + p2.toInt := z_add et9 rfl rfl (by omega -splitDisjunctions) (by omega -splitDisjunctions)
        have hi10 : vp_in t9 180 := z_in (i := t9.toInt) rfl (by omega) (by omega)
        refine va_iald hx hb hK hP 12 0 rfl rfl hi10 dX9_isAhead_54 ?_
        refine lv_topi (fun t11 et11 => ?_)
        refine lv_aload_n hx hb dX9_isAhead_55 rfl (lv_at hl 1 rfl) ?_
        refine va_get (D := D) (ci := 9) (v := .ref (r0 12)) (C := RX9) (T := TX9) (N := 44) hx hb hts inX9 hown hK hP 0 rfl rfl 21 (by decide) lk48 (fun _ h9 => h9) rfl dX9_isAhead_56 ?_
        refine lv_bipush (v := 60) hx hb dX9_isAhead_59 (by decide) ?_
        refine lv_iload_n hx hb dX9_isAhead_61 rfl (lv_at hl 2 rfl) ?_
        refine lv_imul hx hb dX9_isAhead_62 ?_
        refine lv_topi (fun t12 et12 => ?_)
        try have ht12 : t12.toInt = 60 * p1.toInt := z_mul et12 (by decide) rfl (by omega -splitDisjunctions) (by omega -splitDisjunctions)
        refine lv_iload_n hx hb dX9_isAhead_63 rfl (lv_at hl 4 rfl) ?_
        refine lv_iadd hx hb dX9_isAhead_64 ?_
        refine lv_topi (fun t13 et13 => ?_)
        try have ht13 : t13.toInt = t12.toInt + p3.toInt := z_add et13 rfl rfl (by omega -splitDisjunctions) (by omega -splitDisjunctions)
        have hi14 : vp_in t13 180 := z_in (i := t13.toInt) rfl (by omega) (by omega)
        refine va_iald hx hb hK hP 12 0 rfl rfl hi14 dX9_isAhead_65 ?_
        refine lv_topi (fun t15 et15 => ?_)
        refine lv_isub hx hb dX9_isAhead_66 ?_
        refine lv_topi (fun t16 et16 => ?_)
        try have ht16 : t16.toInt = t11.toInt - t15.toInt := z_sub et16 rfl rfl (by omega -splitDisjunctions) (by omega -splitDisjunctions)
        refine lv_istore (lv' := [(6, .int t16), (5, .int k0_6), (0, .ref (r0 0)), (1, .int p1), (2, .int p2), (3, .int p3), (4, .int k0_3)]) hx hb dX9_isAhead_67 hl (by decide) rfl (fun ls hl => ?_)
        refine lv_iload hx hb dX9_isAhead_69 (lv_at hl 0 rfl) ?_
        have J84_17 : ∀ (ls : Array Slot) (hl : lv_has ls 7 []), W p l e (headSpec wsX9_isAhead ({ frames := 0, cells := 0, slots := 0, locals := 0 })).room s m ([.ref (r0 0), .int p1, .int p2, .int p3] : List Value).toArray below meth c H [] 0 0 Q9 (F0 m 84 ls []) := by
          intro ls hl
          refine lv_iconst (v := 1) hx hb dX9_isAhead_84 (by decide) ?_
          refine lv_goto (tgt := 89) hx hb dX9_isAhead_85 (by decide) ?_
          subst hQ9
          refine lv_topi (fun t18 et18 => ?_)
          have ht18 : t18.toInt = 1 := by rw [et18]; decide
          have hq19 : 0 ≤ t18.toInt ∧ t18.toInt ≤ 1 := by omega
          have hz20 : narrow .boolean (.int t18) = .int t18 := z_nz (by constructor <;> omega)
          exact W.zret (v := t18) hx hb hr hz20 (fun t ht hW => ⟨⟨t18, (), rfl, hq19, ⟨by rw [ht]; exact hP, hD⟩⟩, hS.F ht⟩) hS.2.2 dX9_isAhead_89
        refine lv_if_lt (tgt := 84) hx hb dX9_isAhead_71 (by decide) (fun c21 => ?_) (fun c21 => ?_)
        ·
          have c21 := z_lt (i := t16.toInt) (j := 0) rfl (by decide) c21
          exact J84_17 ls (lv_sub hl [] rfl)
        ·
          have c21 := z_nlt (i := t16.toInt) (j := 0) rfl (by decide) c21
          refine lv_iload hx hb dX9_isAhead_74 (lv_at hl 0 rfl) ?_
          refine lv_if_ne (tgt := 88) hx hb dX9_isAhead_76 (by decide) (fun c22 => ?_) (fun c22 => ?_)
          ·
            have c22 := z_ne (i := t16.toInt) (j := 0) rfl (by decide) c22
            refine lv_iconst (v := 0) hx hb dX9_isAhead_88 (by decide) ?_
            subst hQ9
            refine lv_topi (fun t23 et23 => ?_)
            have ht23 : t23.toInt = 0 := by rw [et23]; decide
            have hq24 : 0 ≤ t23.toInt ∧ t23.toInt ≤ 1 := by omega
            have hz25 : narrow .boolean (.int t23) = .int t23 := z_nz (by constructor <;> omega)
            exact W.zret (v := t23) hx hb hr hz25 (fun t ht hW => ⟨⟨t23, (), rfl, hq24, ⟨by rw [ht]; exact hP, hD⟩⟩, hS.F ht⟩) hS.2.2 dX9_isAhead_89
          ·
            have c22 := z_eq (i := t16.toInt) (j := 0) rfl (by decide) c22
            refine lv_iload_n hx hb dX9_isAhead_79 rfl (lv_at hl 4 rfl) ?_
            refine lv_iload_n hx hb dX9_isAhead_80 rfl (lv_at hl 5 rfl) ?_
            refine lv_icmp_ge (tgt := 88) hx hb dX9_isAhead_81 (by decide) (fun c26 => ?_) (fun c26 => ?_)
            ·
              have c26 := z_le (i := p3.toInt) (j := p2.toInt) rfl rfl c26
              refine lv_iconst (v := 0) hx hb dX9_isAhead_88 (by decide) ?_
              subst hQ9
              refine lv_topi (fun t27 et27 => ?_)
              have ht27 : t27.toInt = 0 := by rw [et27]; decide
              have hq28 : 0 ≤ t27.toInt ∧ t27.toInt ≤ 1 := by omega
              have hz29 : narrow .boolean (.int t27) = .int t27 := z_nz (by constructor <;> omega)
              exact W.zret (v := t27) hx hb hr hz29 (fun t ht hW => ⟨⟨t27, (), rfl, hq28, ⟨by rw [ht]; exact hP, hD⟩⟩, hS.F ht⟩) hS.2.2 dX9_isAhead_89
            ·
              have c26 := z_nle (i := p3.toInt) (j := p2.toInt) rfl rfl c26
              exact J84_17 ls (lv_sub hl [] rfl)
      ·
        have c7 := z_ne (i := k0_3.toInt) (j := k0_6.toInt) rfl rfl c7
        refine lv_iload hx hb dX9_isAhead_41 (lv_at hl 5 rfl) ?_
        subst hQ9
        have hq30 : 0 ≤ k0_3.toInt ∧ k0_3.toInt ≤ 1 := by omega
        have hz31 : narrow .boolean (.int k0_3) = .int k0_3 := z_nz (by constructor <;> omega)
        exact W.zret (v := k0_3) hx hb hr hz31 (fun t ht hW => ⟨⟨k0_3, (), rfl, hq30, ⟨by rw [ht]; exact hP, hD⟩⟩, hS.F ht⟩) hS.2.2 dX9_isAhead_43
    refine lv_icmp_eq (tgt := 31) hx hb dX9_isAhead_24 (by decide) (fun c32 => ?_) (fun c32 => ?_)
    ·
      have c32 := z_eq (i := t5.toInt) (j := (-1)) rfl (by decide) c32
      refine lv_iconst (v := 0) hx hb dX9_isAhead_31 (by decide) ?_
      refine lv_topi (fun t33 et33 => ?_)
      have ht33 : t33.toInt = 0 := by rw [et33]; decide
      have hj34 : 0 ≤ t33.toInt ∧ t33.toInt ≤ 1 := by omega
      exact J32_6 t33 ls (lv_sub hl [1, 2, 3, 4, 0] rfl) hj34
    ·
      have c32 := z_ne (i := t5.toInt) (j := (-1)) rfl (by decide) c32
      refine lv_iconst (v := 1) hx hb dX9_isAhead_27 (by decide) ?_
      refine lv_goto (tgt := 32) hx hb dX9_isAhead_28 (by decide) ?_
      refine lv_topi (fun t35 et35 => ?_)
      have ht35 : t35.toInt = 1 := by rw [et35]; decide
      have hj36 : 0 ≤ t35.toInt ∧ t35.toInt ≤ 1 := by omega
      exact J32_6 t35 ls (lv_sub hl [1, 2, 3, 4, 0] rfl) hj36
  refine lv_icmp_eq (tgt := 14) hx hb dX9_isAhead_7 (by decide) (fun c37 => ?_) (fun c37 => ?_)
  ·
    have c37 := z_eq (i := t2.toInt) (j := (-1)) rfl (by decide) c37
    refine lv_iconst (v := 0) hx hb dX9_isAhead_14 (by decide) ?_
    refine lv_topi (fun t38 et38 => ?_)
    have ht38 : t38.toInt = 0 := by rw [et38]; decide
    have hj39 : 0 ≤ t38.toInt ∧ t38.toInt ≤ 1 := by omega
    exact J15_3 t38 ls (lv_sub hl [0, 1, 2, 3] rfl) hj39
  ·
    have c37 := z_ne (i := t2.toInt) (j := (-1)) rfl (by decide) c37
    refine lv_iconst (v := 1) hx hb dX9_isAhead_10 (by decide) ?_
    refine lv_goto (tgt := 15) hx hb dX9_isAhead_11 (by decide) ?_
    refine lv_topi (fun t40 et40 => ?_)
    have ht40 : t40.toInt = 1 := by rw [et40]; decide
    have hj41 : 0 ≤ t40.toInt ∧ t40.toInt ≤ 1 := by omega
    exact J15_3 t40 ls (lv_sub hl [0, 1, 2, 3] rfl) hj41

set_option maxHeartbeats 8000000 in
set_option maxRecDepth 100000 in
theorem c_X9_unlike (l : Launch) (D : va_G) (ca : Nat → ClassId) (sa : Nat → Nat) (A : Nat → Prop) (rest : va_W) (r0 : Nat → Nat) (fi0 : Nat → Int32) (fl0 : Nat → Int64) (fa0 : Nat → Nat → Int32) (fb0 : Nat → Nat → Int64) (hv0 : Ok_MOD fi0 fa0) (p1 : Int32) (p2 : Int32) (hpre0 : 0 ≤ p1.toInt ∧ p1.toInt ≤ 2) (hpre1 : 0 ≤ p2.toInt ∧ p2.toInt ≤ 59) : Met l yX9_unlike wsX9_unlike ({ frames := 0, cells := 0, slots := 0, locals := 0 }) (va_Pc [.ref (r0 0), .int p1, .int p2] (zPre D ca sa A (w_MOD ca r0 fi0 fl0 fa0 fb0 (rest)))) (va_Qi (fun (r : Int32) (u : Unit) => True) (fun u t => zPost D A (w_MOD ca r0 fi0 fl0 fa0 fb0 (rest)) t) A) 0 0 A := by
  refine Met.ofW (cc := cX9_unlike) (maxL := 6) (ret := (some .int)) (by decide) rfl ?_
  intro p e s m args below meth c s₁ B hml hv9
  obtain ⟨rfl, hE, hP, hD⟩ := hv9
  have hx := B.exec
  have hb := B.bytes
  have hr := B.returns
  have hts := atoms_spec (ws := wsX9_unlike) B.pre
  have hown : s.vm.findClass RX9 = some m.cls := findClass_of_methodNamed B.named
  have hlocks := B.notSynchronized
  have hK := hE.1
  have hF : CallFix p m c cX9_unlike 6 s _ wsX9_unlike RX9 := ⟨hx, hb, hml, hown, hts⟩
  have hS : va_S A s.heap s.heap [] := va_S.rf
  have lk192 := hts (.fieldLink RX9 192 "BranchPlayModel" "changes" "I") (by decide +kernel)
  have inX9 : ∀ w ∈ wsX90, w ∈ wsX9_unlike := by decide +kernel
  have lk24 := hts (.fieldLink RX9 24 "BranchPlayModel" "regions" "[I") (by decide +kernel)
  have lk54 := hts (.fieldLink RX9 54 "BranchPlayModel" "merged" "[I") (by decide +kernel)
  have lk57 := hts (.fieldLink RX9 57 "BranchPlayModel" "place" "[I") (by decide +kernel)
  have lk51 := hts (.fieldLink RX9 51 "BranchPlayModel" "base" "[I") (by decide +kernel)
  obtain ⟨⟨hv0i0, hv0j0⟩, ⟨hv0i1, hv0j1⟩, ⟨hv0i5, hv0j5⟩, ⟨hv0i9, hv0j9⟩, hv0a6, hv0a8, hv0a9, hv0a23, hv0a27, hv0a28, hv0x0, hv0y0⟩ := hv0
  generalize hHe : s.heap = H at hP
  have hS : va_S A s.heap H [] := by rw [← hHe]; exact hS
  have hP : va_P D vwCl (((r0 0), .inr (9, [.ref (r0 1), .int (fi0 0), .int (fi0 1), .int (fi0 2), .int (fi0 3), .int (fi0 4), .int (fi0 5), .int (fi0 6), .int (fi0 7), .int (fi0 8), .ref (r0 2), .int (fi0 9), .ref (r0 3), .ref (r0 4), .ref (r0 5), .ref (r0 6), .ref (r0 7), .ref (r0 8), .ref (r0 9), .ref (r0 10), .ref (r0 11), .ref (r0 12), .ref (r0 13), .ref (r0 14), .ref (r0 15), .ref (r0 16), .ref (r0 17), .ref (r0 18), .ref (r0 19), .ref (r0 20), .ref (r0 21), .ref (r0 22), .ref (r0 23), .ref (r0 24), .ref (r0 25), .ref (r0 26), .ref (r0 27), .ref (r0 28), .ref (r0 29), .ref (r0 30), .ref (r0 31), .ref (r0 32), .int (fi0 10), .ref (r0 33)])) :: ((r0 1), .inl (ca 2, 600, .inl (fa0 0))) :: ((r0 2), .inl (ca 0, 48, .inl (fa0 1))) :: ((r0 3), .inl (ca 0, 60, .inl (fa0 2))) :: ((r0 4), .inl (ca 0, 60, .inl (fa0 3))) :: ((r0 5), .inl (ca 0, 60, .inl (fa0 4))) :: ((r0 6), .inl (ca 0, 60, .inl (fa0 5))) :: ((r0 7), .inl (ca 0, 60, .inl (fa0 6))) :: ((r0 8), .inl (ca 0, 60, .inl (fa0 7))) :: ((r0 9), .inl (ca 0, 180, .inl (fa0 8))) :: ((r0 10), .inl (ca 0, 60, .inl (fa0 9))) :: ((r0 11), .inl (ca 0, 180, .inl (fa0 10))) :: ((r0 12), .inl (ca 0, 180, .inl (fa0 11))) :: ((r0 13), .inl (ca 0, 180, .inl (fa0 12))) :: ((r0 14), .inl (ca 0, 180, .inl (fa0 13))) :: ((r0 15), .inl (ca 0, 180, .inl (fa0 14))) :: ((r0 16), .inl (ca 0, 180, .inl (fa0 15))) :: ((r0 17), .inl (ca 0, 180, .inl (fa0 16))) :: ((r0 18), .inl (ca 0, 180, .inl (fa0 17))) :: ((r0 19), .inl (ca 0, 180, .inl (fa0 18))) :: ((r0 20), .inl (ca 0, 180, .inl (fa0 19))) :: ((r0 21), .inl (ca 0, 3, .inl (fa0 20))) :: ((r0 22), .inl (ca 1, 3, .inr (.inl (fb0 0)))) :: ((r0 23), .inl (ca 1, 3, .inr (.inl (fb0 1)))) :: ((r0 24), .inl (ca 3, 3, .inl (fa0 21))) :: ((r0 25), .inl (ca 0, 3, .inl (fa0 22))) :: ((r0 26), .inl (ca 0, 3, .inl (fa0 23))) :: ((r0 27), .inl (ca 0, 810, .inl (fa0 24))) :: ((r0 28), .inl (ca 3, 810, .inl (fa0 25))) :: ((r0 29), .inl (ca 1, 810, .inr (.inl (fb0 2)))) :: ((r0 30), .inl (ca 0, 810, .inl (fa0 26))) :: ((r0 31), .inl (ca 0, 3, .inl (fa0 27))) :: ((r0 32), .inl (ca 0, 60, .inl (fa0 28))) :: ((r0 33), .inl (ca 0, 4, .inl (fa0 29))) :: rest) H := hP
  have hD : va_D A (((r0 0), .inr (9, [.ref (r0 1), .int (fi0 0), .int (fi0 1), .int (fi0 2), .int (fi0 3), .int (fi0 4), .int (fi0 5), .int (fi0 6), .int (fi0 7), .int (fi0 8), .ref (r0 2), .int (fi0 9), .ref (r0 3), .ref (r0 4), .ref (r0 5), .ref (r0 6), .ref (r0 7), .ref (r0 8), .ref (r0 9), .ref (r0 10), .ref (r0 11), .ref (r0 12), .ref (r0 13), .ref (r0 14), .ref (r0 15), .ref (r0 16), .ref (r0 17), .ref (r0 18), .ref (r0 19), .ref (r0 20), .ref (r0 21), .ref (r0 22), .ref (r0 23), .ref (r0 24), .ref (r0 25), .ref (r0 26), .ref (r0 27), .ref (r0 28), .ref (r0 29), .ref (r0 30), .ref (r0 31), .ref (r0 32), .int (fi0 10), .ref (r0 33)])) :: ((r0 1), .inl (ca 2, 600, .inl (fa0 0))) :: ((r0 2), .inl (ca 0, 48, .inl (fa0 1))) :: ((r0 3), .inl (ca 0, 60, .inl (fa0 2))) :: ((r0 4), .inl (ca 0, 60, .inl (fa0 3))) :: ((r0 5), .inl (ca 0, 60, .inl (fa0 4))) :: ((r0 6), .inl (ca 0, 60, .inl (fa0 5))) :: ((r0 7), .inl (ca 0, 60, .inl (fa0 6))) :: ((r0 8), .inl (ca 0, 60, .inl (fa0 7))) :: ((r0 9), .inl (ca 0, 180, .inl (fa0 8))) :: ((r0 10), .inl (ca 0, 60, .inl (fa0 9))) :: ((r0 11), .inl (ca 0, 180, .inl (fa0 10))) :: ((r0 12), .inl (ca 0, 180, .inl (fa0 11))) :: ((r0 13), .inl (ca 0, 180, .inl (fa0 12))) :: ((r0 14), .inl (ca 0, 180, .inl (fa0 13))) :: ((r0 15), .inl (ca 0, 180, .inl (fa0 14))) :: ((r0 16), .inl (ca 0, 180, .inl (fa0 15))) :: ((r0 17), .inl (ca 0, 180, .inl (fa0 16))) :: ((r0 18), .inl (ca 0, 180, .inl (fa0 17))) :: ((r0 19), .inl (ca 0, 180, .inl (fa0 18))) :: ((r0 20), .inl (ca 0, 180, .inl (fa0 19))) :: ((r0 21), .inl (ca 0, 3, .inl (fa0 20))) :: ((r0 22), .inl (ca 1, 3, .inr (.inl (fb0 0)))) :: ((r0 23), .inl (ca 1, 3, .inr (.inl (fb0 1)))) :: ((r0 24), .inl (ca 3, 3, .inl (fa0 21))) :: ((r0 25), .inl (ca 0, 3, .inl (fa0 22))) :: ((r0 26), .inl (ca 0, 3, .inl (fa0 23))) :: ((r0 27), .inl (ca 0, 810, .inl (fa0 24))) :: ((r0 28), .inl (ca 3, 810, .inl (fa0 25))) :: ((r0 29), .inl (ca 1, 810, .inr (.inl (fb0 2)))) :: ((r0 30), .inl (ca 0, 810, .inl (fa0 26))) :: ((r0 31), .inl (ca 0, 3, .inl (fa0 27))) :: ((r0 32), .inl (ca 0, 60, .inl (fa0 28))) :: ((r0 33), .inl (ca 0, 4, .inl (fa0 29))) :: rest) := hD
  have hl := lv_entry ([.ref (r0 0), .int p1, .int p2]) (n := 6) (Nat.le_of_ble_eq_true rfl)
  rw [lg_entry_eq]
  generalize (lg_sl ([.ref (r0 0), .int p1, .int p2]) ++ List.replicate (6 - (lg_sl ([.ref (r0 0), .int p1, .int p2])).length) Slot.unset).toArray = ls at hl ⊢
  have hl : lv_has ls 6 [(0, .ref (r0 0)), (1, .int p1), (2, .int p2)] := hl
  generalize hQ9 : MQ below _ _ s 0 0 A = Q9
  refine lv_iconst (v := 0) hx hb dX9_unlike_0 (by decide) ?_
  refine lv_topi (fun t1 et1 => ?_)
  have ht1 : t1.toInt = 0 := by rw [et1]; decide
  refine lv_istore_n (lv' := [(3, .int t1), (0, .ref (r0 0)), (1, .int p1), (2, .int p2)]) hx hb dX9_unlike_1 rfl hl (by decide) rfl (fun ls hl => ?_)
  refine lv_iconst (v := 0) hx hb dX9_unlike_2 (by decide) ?_
  refine lv_topi (fun t2 et2 => ?_)
  have ht2 : t2.toInt = 0 := by rw [et2]; decide
  refine lv_istore (lv' := [(4, .int t2), (3, .int t1), (0, .ref (r0 0)), (1, .int p1), (2, .int p2)]) hx hb dX9_unlike_3 hl (by decide) rfl (fun ls hl => ?_)
  have J5_3 : ∀ (n3 : Nat) (x3_3 : Int32) (x4_3 : Int32) (ls : Array Slot) (hl : lv_has ls 6 [(0, .ref (r0 0)), (1, .int p1), (2, .int p2), (3, .int x3_3), (4, .int x4_3)]) (hf3_0 : 0 ≤ x4_3.toInt ∧ x4_3.toInt ≤ 60), (61 - x4_3.toInt).toNat < n3 → W p l e (headSpec wsX9_unlike ({ frames := 0, cells := 0, slots := 0, locals := 0 })).room s m ([.ref (r0 0), .int p1, .int p2] : List Value).toArray below meth c H [] 0 0 Q9 (F0 m 5 ls []) := by
    intro n3
    induction n3 with
    | zero => intro x3_3 x4_3 ls hl hf3_0 hn9; exact absurd hn9 (Nat.not_lt_zero _)
    | succ n3 ih3 =>
      intro x3_3 x4_3 ls hl hf3_0 hn9
      refine lv_iload hx hb dX9_unlike_5 (lv_at hl 4 rfl) ?_
      refine lv_aload_n hx hb dX9_unlike_7 rfl (lv_at hl 0 rfl) ?_
      refine va_get (D := D) (ci := 9) (v := .int (fi0 9)) (C := RX9) (T := TX9) (N := 44) hx hb hts inX9 hown hK hP 0 rfl rfl 11 (by decide) lk192 (fun _ h9 => h9) rfl dX9_unlike_8 ?_
      refine lv_icmp_ge (tgt := 72) hx hb dX9_unlike_11 (by decide) (fun c4 => ?_) (fun c4 => ?_)
      ·
        have c4 := z_le (i := (fi0 9).toInt) (j := x4_3.toInt) rfl rfl c4
        refine lv_iconst (v := 0) hx hb dX9_unlike_72 (by decide) ?_
        refine lv_topi (fun t5 et5 => ?_)
        have ht5 : t5.toInt = 0 := by rw [et5]; decide
        refine lv_istore (lv' := [(4, .int t5), (0, .ref (r0 0)), (1, .int p1), (2, .int p2), (3, .int x3_3)]) hx hb dX9_unlike_73 hl (by decide) rfl (fun ls hl => ?_)
        refine lv_iload_n hx hb dX9_unlike_75 rfl (lv_at hl 4 rfl) ?_
        refine lv_aload_n hx hb dX9_unlike_76 rfl (lv_at hl 1 rfl) ?_
        refine va_get (D := D) (ci := 9) (v := .ref (r0 4)) (C := RX9) (T := TX9) (N := 44) hx hb hts inX9 hown hK hP 0 rfl rfl 13 (by decide) lk24 (fun _ h9 => h9) rfl dX9_unlike_77 ?_
        refine lv_iload_n hx hb dX9_unlike_80 rfl (lv_at hl 3 rfl) ?_
        have hi6 : vp_in p2 60 := z_in (i := p2.toInt) rfl (by omega) (by omega)
        refine va_iald hx hb hK hP 4 0 rfl rfl hi6 dX9_unlike_81 ?_
        refine lv_topi (fun t7 et7 => ?_)
        refine lv_iand hx hb dX9_unlike_82 ?_
        refine lv_topi (fun t8 et8 => ?_)
        refine lv_istore (lv' := [(5, .int t8), (4, .int t5), (0, .ref (r0 0)), (1, .int p1), (2, .int p2), (3, .int x3_3)]) hx hb dX9_unlike_83 hl (by decide) rfl (fun ls hl => ?_)
        have J85_9 : ∀ (n9 : Nat) (x4_9 : Int32) (x5_9 : Int32) (ls : Array Slot) (hl : lv_has ls 6 [(4, .int x4_9), (5, .int x5_9)]), ((x5_9.toBitVec.toNat : Int)).toNat < n9 → W p l e (headSpec wsX9_unlike ({ frames := 0, cells := 0, slots := 0, locals := 0 })).room s m ([.ref (r0 0), .int p1, .int p2] : List Value).toArray below meth c H [] 0 0 Q9 (F0 m 85 ls []) := by
          intro n9
          induction n9 with
          | zero => intro x4_9 x5_9 ls hl hn9; exact absurd hn9 (Nat.not_lt_zero _)
          | succ n9 ih9 =>
            intro x4_9 x5_9 ls hl hn9
            refine lv_iload hx hb dX9_unlike_85 (lv_at hl 1 rfl) ?_
            refine lv_if_eq (tgt := 105) hx hb dX9_unlike_87 (by decide) (fun c10 => ?_) (fun c10 => ?_)
            ·
              have c10 := z_eq (i := x5_9.toInt) (j := 0) rfl (by decide) c10
              refine lv_iload hx hb dX9_unlike_105 (lv_at hl 0 rfl) ?_
              subst hQ9
              exact W.iret (v := x4_9) hx hb hr (fun t ht hW => ⟨⟨x4_9, (), rfl, trivial, ⟨by rw [ht]; exact hP, hD⟩⟩, hS.F ht⟩) hS.2.2 dX9_unlike_107
            ·
              have c10 := z_ne (i := x5_9.toInt) (j := 0) rfl (by decide) c10
              obtain ⟨t11, et11⟩ : ∃ y : Int32, y = x4_9 + 1 := ⟨_, rfl⟩
              try have ht11 : t11.toInt = x4_9.toInt + 1 := z_add et11 rfl (by decide) (by omega -splitDisjunctions) (by omega -splitDisjunctions)
              refine lv_iinc (v := t11) (lv' := [(4, .int t11), (5, .int x5_9)]) hx hb dX9_unlike_90 hl (k := 0) rfl (by rw [et11]; rfl) (by decide) rfl (fun ls hl => ?_)
              refine lv_iload hx hb dX9_unlike_93 (lv_at hl 1 rfl) ?_
              refine lv_iload hx hb dX9_unlike_95 (lv_at hl 1 rfl) ?_
              refine lv_iconst (v := 1) hx hb dX9_unlike_97 (by decide) ?_
              refine lv_isub hx hb dX9_unlike_98 ?_
              refine lv_topi (fun t12 et12 => ?_)
              try have ht12 : t12.toInt = x5_9.toInt - 1 := z_sub et12 rfl (by decide) (by omega -splitDisjunctions) (by omega -splitDisjunctions)
              refine lv_iand hx hb dX9_unlike_99 ?_
              refine lv_topi (fun t13 et13 => ?_)
              refine lv_istore (lv' := [(5, .int t13), (4, .int t11)]) hx hb dX9_unlike_100 hl (by decide) rfl (fun ls hl => ?_)
              refine lv_goto (tgt := 85) hx hb dX9_unlike_102 (by decide) ?_
              have hm14 : ((t13.toBitVec.toNat : Int)).toNat < n9 := by (have h9 := z_bits et13 et12 (by assumption)); omega
              exact ih9 t11 t13 ls (lv_sub hl [1, 0] rfl) hm14
        exact J85_9 (((t8.toBitVec.toNat : Int)).toNat + 1) t5 t8 ls (lv_sub hl [1, 0] rfl) (Nat.lt_succ_self _)
      ·
        have c4 := z_nle (i := (fi0 9).toInt) (j := x4_3.toInt) rfl rfl c4
        refine lv_aload_n hx hb dX9_unlike_14 rfl (lv_at hl 0 rfl) ?_
        refine va_get (D := D) (ci := 9) (v := .ref (r0 14)) (C := RX9) (T := TX9) (N := 44) hx hb hts inX9 hown hK hP 0 rfl rfl 23 (by decide) lk54 (fun _ h9 => h9) rfl dX9_unlike_15 ?_
        refine lv_bipush (v := 60) hx hb dX9_unlike_18 (by decide) ?_
        refine lv_iload_n hx hb dX9_unlike_20 rfl (lv_at hl 1 rfl) ?_
        refine lv_imul hx hb dX9_unlike_21 ?_
        refine lv_topi (fun t15 et15 => ?_)
        try have ht15 : t15.toInt = 60 * p1.toInt := z_mul et15 (by decide) rfl (by omega -splitDisjunctions) (by omega -splitDisjunctions)
        refine lv_iload hx hb dX9_unlike_22 (lv_at hl 4 rfl) ?_
        refine lv_iadd hx hb dX9_unlike_24 ?_
        refine lv_topi (fun t16 et16 => ?_)
        try have ht16 : t16.toInt = t15.toInt + x4_3.toInt := z_add et16 rfl rfl (by omega -splitDisjunctions) (by omega -splitDisjunctions)
        have hi17 : vp_in t16 180 := z_in (i := t16.toInt) rfl (by omega) (by omega)
        refine va_iald hx hb hK hP 14 0 rfl rfl hi17 dX9_unlike_25 ?_
        refine lv_topi (fun t18 et18 => ?_)
        refine lv_iconst (v := (-1)) hx hb dX9_unlike_26 (by decide) ?_
        have J66_19 : ∀ (x3_19 : Int32) (ls : Array Slot) (hl : lv_has ls 6 [(0, .ref (r0 0)), (1, .int p1), (2, .int p2), (3, .int x3_19), (4, .int x4_3)]), W p l e (headSpec wsX9_unlike ({ frames := 0, cells := 0, slots := 0, locals := 0 })).room s m ([.ref (r0 0), .int p1, .int p2] : List Value).toArray below meth c H [] 0 0 Q9 (F0 m 66 ls []) := by
          intro x3_19 ls hl
          obtain ⟨t20, et20⟩ : ∃ y : Int32, y = x4_3 + 1 := ⟨_, rfl⟩
          try have ht20 : t20.toInt = x4_3.toInt + 1 := z_add et20 rfl (by decide) (by omega -splitDisjunctions) (by omega -splitDisjunctions)
          refine lv_iinc (v := t20) (lv' := [(4, .int t20), (0, .ref (r0 0)), (1, .int p1), (2, .int p2), (3, .int x3_19)]) hx hb dX9_unlike_66 hl (k := 4) rfl (by rw [et20]; rfl) (by decide) rfl (fun ls hl => ?_)
          refine lv_goto (tgt := 5) hx hb dX9_unlike_69 (by decide) ?_
          have hj21 : 0 ≤ t20.toInt ∧ t20.toInt ≤ 60 := by omega
          have hm22 : (61 - t20.toInt).toNat < n3 := by omega
          exact ih3 x3_19 t20 ls (lv_sub hl [1, 2, 3, 4, 0] rfl) hj21 hm22
        refine lv_icmp_eq (tgt := 66) hx hb dX9_unlike_27 (by decide) (fun c23 => ?_) (fun c23 => ?_)
        ·
          have c23 := z_eq (i := t18.toInt) (j := (-1)) rfl (by decide) c23
          exact J66_19 x3_3 ls (lv_sub hl [0, 1, 2, 3, 4] rfl)
        ·
          have c23 := z_ne (i := t18.toInt) (j := (-1)) rfl (by decide) c23
          refine lv_aload_n hx hb dX9_unlike_30 rfl (lv_at hl 0 rfl) ?_
          refine va_get (D := D) (ci := 9) (v := .ref (r0 15)) (C := RX9) (T := TX9) (N := 44) hx hb hts inX9 hown hK hP 0 rfl rfl 24 (by decide) lk57 (fun _ h9 => h9) rfl dX9_unlike_31 ?_
          refine lv_bipush (v := 60) hx hb dX9_unlike_34 (by decide) ?_
          refine lv_iload_n hx hb dX9_unlike_36 rfl (lv_at hl 1 rfl) ?_
          refine lv_imul hx hb dX9_unlike_37 ?_
          refine lv_topi (fun t24 et24 => ?_)
          try have ht24 : t24.toInt = 60 * p1.toInt := z_mul et24 (by decide) rfl (by omega -splitDisjunctions) (by omega -splitDisjunctions)
          refine lv_iload hx hb dX9_unlike_38 (lv_at hl 4 rfl) ?_
          refine lv_iadd hx hb dX9_unlike_40 ?_
          refine lv_topi (fun t25 et25 => ?_)
          try have ht25 : t25.toInt = t24.toInt + x4_3.toInt := z_add et25 rfl rfl (by omega -splitDisjunctions) (by omega -splitDisjunctions)
          have hi26 : vp_in t25 180 := z_in (i := t25.toInt) rfl (by omega) (by omega)
          refine va_iald hx hb hK hP 15 0 rfl rfl hi26 dX9_unlike_41 ?_
          refine lv_topi (fun t27 et27 => ?_)
          refine lv_aload_n hx hb dX9_unlike_42 rfl (lv_at hl 0 rfl) ?_
          refine va_get (D := D) (ci := 9) (v := .ref (r0 13)) (C := RX9) (T := TX9) (N := 44) hx hb hts inX9 hown hK hP 0 rfl rfl 22 (by decide) lk51 (fun _ h9 => h9) rfl dX9_unlike_43 ?_
          refine lv_bipush (v := 60) hx hb dX9_unlike_46 (by decide) ?_
          refine lv_iload_n hx hb dX9_unlike_48 rfl (lv_at hl 1 rfl) ?_
          refine lv_imul hx hb dX9_unlike_49 ?_
          refine lv_topi (fun t28 et28 => ?_)
          try have ht28 : t28.toInt = 60 * p1.toInt := z_mul et28 (by decide) rfl (by omega -splitDisjunctions) (by omega -splitDisjunctions)
          refine lv_iload_n hx hb dX9_unlike_50 rfl (lv_at hl 2 rfl) ?_
          refine lv_iadd hx hb dX9_unlike_51 ?_
          refine lv_topi (fun t29 et29 => ?_)
          try have ht29 : t29.toInt = t28.toInt + p2.toInt := z_add et29 rfl rfl (by omega -splitDisjunctions) (by omega -splitDisjunctions)
          have hi30 : vp_in t29 180 := z_in (i := t29.toInt) rfl (by omega) (by omega)
          refine va_iald hx hb hK hP 13 0 rfl rfl hi30 dX9_unlike_52 ?_
          refine lv_topi (fun t31 et31 => ?_)
          refine lv_icmp_lt (tgt := 66) hx hb dX9_unlike_53 (by decide) (fun c32 => ?_) (fun c32 => ?_)
          ·
            have c32 := z_lt (i := t27.toInt) (j := t31.toInt) rfl rfl c32
            exact J66_19 x3_3 ls (lv_sub hl [0, 1, 2, 3, 4] rfl)
          ·
            have c32 := z_nlt (i := t27.toInt) (j := t31.toInt) rfl rfl c32
            refine lv_iload_n hx hb dX9_unlike_56 rfl (lv_at hl 3 rfl) ?_
            refine lv_aload_n hx hb dX9_unlike_57 rfl (lv_at hl 0 rfl) ?_
            refine va_get (D := D) (ci := 9) (v := .ref (r0 4)) (C := RX9) (T := TX9) (N := 44) hx hb hts inX9 hown hK hP 0 rfl rfl 13 (by decide) lk24 (fun _ h9 => h9) rfl dX9_unlike_58 ?_
            refine lv_iload hx hb dX9_unlike_61 (lv_at hl 4 rfl) ?_
            have hi33 : vp_in x4_3 60 := z_in (i := x4_3.toInt) rfl (by omega) (by omega)
            refine va_iald hx hb hK hP 4 0 rfl rfl hi33 dX9_unlike_63 ?_
            refine lv_topi (fun t34 et34 => ?_)
            refine lv_ior hx hb dX9_unlike_64 ?_
            refine lv_topi (fun t35 et35 => ?_)
            refine lv_istore_n (lv' := [(3, .int t35), (0, .ref (r0 0)), (1, .int p1), (2, .int p2), (4, .int x4_3)]) hx hb dX9_unlike_65 rfl hl (by decide) rfl (fun ls hl => ?_)
            exact J66_19 t35 ls (lv_sub hl [1, 2, 3, 0, 4] rfl)
  have hj36 : 0 ≤ t2.toInt ∧ t2.toInt ≤ 60 := by omega
  exact J5_3 ((61 - t2.toInt).toNat + 1) t1 t2 ls (lv_sub hl [2, 3, 4, 1, 0] rfl) hj36 (Nat.lt_succ_self _)

set_option maxHeartbeats 8000000 in
set_option maxRecDepth 100000 in
theorem c_X9_trunk (l : Launch) (D : va_G) (ca : Nat → ClassId) (sa : Nat → Nat) (A : Nat → Prop) (rest : va_W) (r0 : Nat → Nat) (fi0 : Nat → Int32) (fl0 : Nat → Int64) (fa0 : Nat → Nat → Int32) (fb0 : Nat → Nat → Int64) (hv0 : Ok_MOD fi0 fa0) (p1 : Int32) (hpre0 : 0 ≤ p1.toInt ∧ p1.toInt ≤ 2) : Met l yX9_trunk wsX9_trunk ({ frames := 0, cells := 0, slots := 0, locals := 0 }) (va_Pc [.ref (r0 0), .int p1] (zPre D ca sa A (w_MOD ca r0 fi0 fl0 fa0 fb0 (rest)))) (va_Ql (fun (r : Int64) (u : Unit) => True) (fun u t => zPost D A (w_MOD ca r0 fi0 fl0 fa0 fb0 (rest)) t) A) 0 0 A := by
  refine Met.ofW (cc := cX9_trunk) (maxL := 5) (ret := (some .long)) (by decide) rfl ?_
  intro p e s m args below meth c s₁ B hml hv9
  obtain ⟨rfl, hE, hP, hD⟩ := hv9
  have hx := B.exec
  have hb := B.bytes
  have hr := B.returns
  have hts := atoms_spec (ws := wsX9_trunk) B.pre
  have hown : s.vm.findClass RX9 = some m.cls := findClass_of_methodNamed B.named
  have hlocks := B.notSynchronized
  have hK := hE.1
  have hF : CallFix p m c cX9_trunk 5 s _ wsX9_trunk RX9 := ⟨hx, hb, hml, hown, hts⟩
  have hS : va_S A s.heap s.heap [] := va_S.rf
  have lk192 := hts (.fieldLink RX9 192 "BranchPlayModel" "changes" "I") (by decide +kernel)
  have inX9 : ∀ w ∈ wsX90, w ∈ wsX9_trunk := by decide +kernel
  have lk54 := hts (.fieldLink RX9 54 "BranchPlayModel" "merged" "[I") (by decide +kernel)
  obtain ⟨⟨hv0i0, hv0j0⟩, ⟨hv0i1, hv0j1⟩, ⟨hv0i5, hv0j5⟩, ⟨hv0i9, hv0j9⟩, hv0a6, hv0a8, hv0a9, hv0a23, hv0a27, hv0a28, hv0x0, hv0y0⟩ := hv0
  generalize hHe : s.heap = H at hP
  have hS : va_S A s.heap H [] := by rw [← hHe]; exact hS
  have hP : va_P D vwCl (((r0 0), .inr (9, [.ref (r0 1), .int (fi0 0), .int (fi0 1), .int (fi0 2), .int (fi0 3), .int (fi0 4), .int (fi0 5), .int (fi0 6), .int (fi0 7), .int (fi0 8), .ref (r0 2), .int (fi0 9), .ref (r0 3), .ref (r0 4), .ref (r0 5), .ref (r0 6), .ref (r0 7), .ref (r0 8), .ref (r0 9), .ref (r0 10), .ref (r0 11), .ref (r0 12), .ref (r0 13), .ref (r0 14), .ref (r0 15), .ref (r0 16), .ref (r0 17), .ref (r0 18), .ref (r0 19), .ref (r0 20), .ref (r0 21), .ref (r0 22), .ref (r0 23), .ref (r0 24), .ref (r0 25), .ref (r0 26), .ref (r0 27), .ref (r0 28), .ref (r0 29), .ref (r0 30), .ref (r0 31), .ref (r0 32), .int (fi0 10), .ref (r0 33)])) :: ((r0 1), .inl (ca 2, 600, .inl (fa0 0))) :: ((r0 2), .inl (ca 0, 48, .inl (fa0 1))) :: ((r0 3), .inl (ca 0, 60, .inl (fa0 2))) :: ((r0 4), .inl (ca 0, 60, .inl (fa0 3))) :: ((r0 5), .inl (ca 0, 60, .inl (fa0 4))) :: ((r0 6), .inl (ca 0, 60, .inl (fa0 5))) :: ((r0 7), .inl (ca 0, 60, .inl (fa0 6))) :: ((r0 8), .inl (ca 0, 60, .inl (fa0 7))) :: ((r0 9), .inl (ca 0, 180, .inl (fa0 8))) :: ((r0 10), .inl (ca 0, 60, .inl (fa0 9))) :: ((r0 11), .inl (ca 0, 180, .inl (fa0 10))) :: ((r0 12), .inl (ca 0, 180, .inl (fa0 11))) :: ((r0 13), .inl (ca 0, 180, .inl (fa0 12))) :: ((r0 14), .inl (ca 0, 180, .inl (fa0 13))) :: ((r0 15), .inl (ca 0, 180, .inl (fa0 14))) :: ((r0 16), .inl (ca 0, 180, .inl (fa0 15))) :: ((r0 17), .inl (ca 0, 180, .inl (fa0 16))) :: ((r0 18), .inl (ca 0, 180, .inl (fa0 17))) :: ((r0 19), .inl (ca 0, 180, .inl (fa0 18))) :: ((r0 20), .inl (ca 0, 180, .inl (fa0 19))) :: ((r0 21), .inl (ca 0, 3, .inl (fa0 20))) :: ((r0 22), .inl (ca 1, 3, .inr (.inl (fb0 0)))) :: ((r0 23), .inl (ca 1, 3, .inr (.inl (fb0 1)))) :: ((r0 24), .inl (ca 3, 3, .inl (fa0 21))) :: ((r0 25), .inl (ca 0, 3, .inl (fa0 22))) :: ((r0 26), .inl (ca 0, 3, .inl (fa0 23))) :: ((r0 27), .inl (ca 0, 810, .inl (fa0 24))) :: ((r0 28), .inl (ca 3, 810, .inl (fa0 25))) :: ((r0 29), .inl (ca 1, 810, .inr (.inl (fb0 2)))) :: ((r0 30), .inl (ca 0, 810, .inl (fa0 26))) :: ((r0 31), .inl (ca 0, 3, .inl (fa0 27))) :: ((r0 32), .inl (ca 0, 60, .inl (fa0 28))) :: ((r0 33), .inl (ca 0, 4, .inl (fa0 29))) :: rest) H := hP
  have hD : va_D A (((r0 0), .inr (9, [.ref (r0 1), .int (fi0 0), .int (fi0 1), .int (fi0 2), .int (fi0 3), .int (fi0 4), .int (fi0 5), .int (fi0 6), .int (fi0 7), .int (fi0 8), .ref (r0 2), .int (fi0 9), .ref (r0 3), .ref (r0 4), .ref (r0 5), .ref (r0 6), .ref (r0 7), .ref (r0 8), .ref (r0 9), .ref (r0 10), .ref (r0 11), .ref (r0 12), .ref (r0 13), .ref (r0 14), .ref (r0 15), .ref (r0 16), .ref (r0 17), .ref (r0 18), .ref (r0 19), .ref (r0 20), .ref (r0 21), .ref (r0 22), .ref (r0 23), .ref (r0 24), .ref (r0 25), .ref (r0 26), .ref (r0 27), .ref (r0 28), .ref (r0 29), .ref (r0 30), .ref (r0 31), .ref (r0 32), .int (fi0 10), .ref (r0 33)])) :: ((r0 1), .inl (ca 2, 600, .inl (fa0 0))) :: ((r0 2), .inl (ca 0, 48, .inl (fa0 1))) :: ((r0 3), .inl (ca 0, 60, .inl (fa0 2))) :: ((r0 4), .inl (ca 0, 60, .inl (fa0 3))) :: ((r0 5), .inl (ca 0, 60, .inl (fa0 4))) :: ((r0 6), .inl (ca 0, 60, .inl (fa0 5))) :: ((r0 7), .inl (ca 0, 60, .inl (fa0 6))) :: ((r0 8), .inl (ca 0, 60, .inl (fa0 7))) :: ((r0 9), .inl (ca 0, 180, .inl (fa0 8))) :: ((r0 10), .inl (ca 0, 60, .inl (fa0 9))) :: ((r0 11), .inl (ca 0, 180, .inl (fa0 10))) :: ((r0 12), .inl (ca 0, 180, .inl (fa0 11))) :: ((r0 13), .inl (ca 0, 180, .inl (fa0 12))) :: ((r0 14), .inl (ca 0, 180, .inl (fa0 13))) :: ((r0 15), .inl (ca 0, 180, .inl (fa0 14))) :: ((r0 16), .inl (ca 0, 180, .inl (fa0 15))) :: ((r0 17), .inl (ca 0, 180, .inl (fa0 16))) :: ((r0 18), .inl (ca 0, 180, .inl (fa0 17))) :: ((r0 19), .inl (ca 0, 180, .inl (fa0 18))) :: ((r0 20), .inl (ca 0, 180, .inl (fa0 19))) :: ((r0 21), .inl (ca 0, 3, .inl (fa0 20))) :: ((r0 22), .inl (ca 1, 3, .inr (.inl (fb0 0)))) :: ((r0 23), .inl (ca 1, 3, .inr (.inl (fb0 1)))) :: ((r0 24), .inl (ca 3, 3, .inl (fa0 21))) :: ((r0 25), .inl (ca 0, 3, .inl (fa0 22))) :: ((r0 26), .inl (ca 0, 3, .inl (fa0 23))) :: ((r0 27), .inl (ca 0, 810, .inl (fa0 24))) :: ((r0 28), .inl (ca 3, 810, .inl (fa0 25))) :: ((r0 29), .inl (ca 1, 810, .inr (.inl (fb0 2)))) :: ((r0 30), .inl (ca 0, 810, .inl (fa0 26))) :: ((r0 31), .inl (ca 0, 3, .inl (fa0 27))) :: ((r0 32), .inl (ca 0, 60, .inl (fa0 28))) :: ((r0 33), .inl (ca 0, 4, .inl (fa0 29))) :: rest) := hD
  have hl := lv_entry ([.ref (r0 0), .int p1]) (n := 5) (Nat.le_of_ble_eq_true rfl)
  rw [lg_entry_eq]
  generalize (lg_sl ([.ref (r0 0), .int p1]) ++ List.replicate (5 - (lg_sl ([.ref (r0 0), .int p1])).length) Slot.unset).toArray = ls at hl ⊢
  have hl : lv_has ls 5 [(0, .ref (r0 0)), (1, .int p1)] := hl
  generalize hQ9 : MQ below _ _ s 0 0 A = Q9
  refine lv_lconst (v := 0) hx hb dX9_trunk_0 (by decide) ?_
  refine lv_lstore_n (lv' := [(2, .long 0), (0, .ref (r0 0)), (1, .int p1)]) hx hb dX9_trunk_1 rfl hl (by decide) rfl (fun ls hl => ?_)
  refine lv_iconst (v := 0) hx hb dX9_trunk_2 (by decide) ?_
  refine lv_topi (fun t1 et1 => ?_)
  have ht1 : t1.toInt = 0 := by rw [et1]; decide
  refine lv_istore (lv' := [(4, .int t1), (2, .long 0), (0, .ref (r0 0)), (1, .int p1)]) hx hb dX9_trunk_3 hl (by decide) rfl (fun ls hl => ?_)
  have J5_2 : ∀ (n2 : Nat) (x2_2 : Int64) (x4_2 : Int32) (ls : Array Slot) (hl : lv_has ls 5 [(0, .ref (r0 0)), (1, .int p1), (2, .long x2_2), (4, .int x4_2)]) (hf2_0 : 0 ≤ x4_2.toInt ∧ x4_2.toInt ≤ 60), (61 - x4_2.toInt).toNat < n2 → W p l e (headSpec wsX9_trunk ({ frames := 0, cells := 0, slots := 0, locals := 0 })).room s m ([.ref (r0 0), .int p1] : List Value).toArray below meth c H [] 0 0 Q9 (F0 m 5 ls []) := by
    intro n2
    induction n2 with
    | zero => intro x2_2 x4_2 ls hl hf2_0 hn9; exact absurd hn9 (Nat.not_lt_zero _)
    | succ n2 ih2 =>
      intro x2_2 x4_2 ls hl hf2_0 hn9
      refine lv_iload hx hb dX9_trunk_5 (lv_at hl 3 rfl) ?_
      refine lv_aload_n hx hb dX9_trunk_7 rfl (lv_at hl 0 rfl) ?_
      refine va_get (D := D) (ci := 9) (v := .int (fi0 9)) (C := RX9) (T := TX9) (N := 44) hx hb hts inX9 hown hK hP 0 rfl rfl 11 (by decide) lk192 (fun _ h9 => h9) rfl dX9_trunk_8 ?_
      refine lv_icmp_ge (tgt := 43) hx hb dX9_trunk_11 (by decide) (fun c3 => ?_) (fun c3 => ?_)
      ·
        have c3 := z_le (i := (fi0 9).toInt) (j := x4_2.toInt) rfl rfl c3
        refine lv_lload_n hx hb dX9_trunk_43 rfl (lv_at hl 2 rfl) ?_
        subst hQ9
        exact W.lret (v := x2_2) hx hb hr (fun t ht hW => ⟨⟨x2_2, (), rfl, trivial, ⟨by rw [ht]; exact hP, hD⟩⟩, hS.F ht⟩) hS.2.2 dX9_trunk_44
      ·
        have c3 := z_nle (i := (fi0 9).toInt) (j := x4_2.toInt) rfl rfl c3
        refine lv_aload_n hx hb dX9_trunk_14 rfl (lv_at hl 0 rfl) ?_
        refine va_get (D := D) (ci := 9) (v := .ref (r0 14)) (C := RX9) (T := TX9) (N := 44) hx hb hts inX9 hown hK hP 0 rfl rfl 23 (by decide) lk54 (fun _ h9 => h9) rfl dX9_trunk_15 ?_
        refine lv_bipush (v := 60) hx hb dX9_trunk_18 (by decide) ?_
        refine lv_iload_n hx hb dX9_trunk_20 rfl (lv_at hl 1 rfl) ?_
        refine lv_imul hx hb dX9_trunk_21 ?_
        refine lv_topi (fun t4 et4 => ?_)
        try have ht4 : t4.toInt = 60 * p1.toInt := z_mul et4 (by decide) rfl (by omega -splitDisjunctions) (by omega -splitDisjunctions)
        refine lv_iload hx hb dX9_trunk_22 (lv_at hl 3 rfl) ?_
        refine lv_iadd hx hb dX9_trunk_24 ?_
        refine lv_topi (fun t5 et5 => ?_)
        try have ht5 : t5.toInt = t4.toInt + x4_2.toInt := z_add et5 rfl rfl (by omega -splitDisjunctions) (by omega -splitDisjunctions)
        have hi6 : vp_in t5 180 := z_in (i := t5.toInt) rfl (by omega) (by omega)
        refine va_iald hx hb hK hP 14 0 rfl rfl hi6 dX9_trunk_25 ?_
        refine lv_topi (fun t7 et7 => ?_)
        refine lv_iconst (v := (-1)) hx hb dX9_trunk_26 (by decide) ?_
        have J37_8 : ∀ (x2_8 : Int64) (ls : Array Slot) (hl : lv_has ls 5 [(0, .ref (r0 0)), (1, .int p1), (2, .long x2_8), (4, .int x4_2)]), W p l e (headSpec wsX9_trunk ({ frames := 0, cells := 0, slots := 0, locals := 0 })).room s m ([.ref (r0 0), .int p1] : List Value).toArray below meth c H [] 0 0 Q9 (F0 m 37 ls []) := by
          intro x2_8 ls hl
          obtain ⟨t9, et9⟩ : ∃ y : Int32, y = x4_2 + 1 := ⟨_, rfl⟩
          try have ht9 : t9.toInt = x4_2.toInt + 1 := z_add et9 rfl (by decide) (by omega -splitDisjunctions) (by omega -splitDisjunctions)
          refine lv_iinc (v := t9) (lv' := [(4, .int t9), (0, .ref (r0 0)), (1, .int p1), (2, .long x2_8)]) hx hb dX9_trunk_37 hl (k := 3) rfl (by rw [et9]; rfl) (by decide) rfl (fun ls hl => ?_)
          refine lv_goto (tgt := 5) hx hb dX9_trunk_40 (by decide) ?_
          have hj10 : 0 ≤ t9.toInt ∧ t9.toInt ≤ 60 := by omega
          have hm11 : (61 - t9.toInt).toNat < n2 := by omega
          exact ih2 x2_8 t9 ls (lv_sub hl [1, 2, 3, 0] rfl) hj10 hm11
        refine lv_icmp_eq (tgt := 37) hx hb dX9_trunk_27 (by decide) (fun c12 => ?_) (fun c12 => ?_)
        ·
          have c12 := z_eq (i := t7.toInt) (j := (-1)) rfl (by decide) c12
          exact J37_8 x2_2 ls (lv_sub hl [0, 1, 2, 3] rfl)
        ·
          have c12 := z_ne (i := t7.toInt) (j := (-1)) rfl (by decide) c12
          refine lv_lload_n hx hb dX9_trunk_30 rfl (lv_at hl 2 rfl) ?_
          refine lv_lconst (v := 1) hx hb dX9_trunk_31 (by decide) ?_
          refine lv_iload hx hb dX9_trunk_32 (lv_at hl 3 rfl) ?_
          refine lv_lshl hx hb dX9_trunk_34 rfl ?_
          refine lv_topl (fun t13 et13 => ?_)
          refine lv_lor hx hb dX9_trunk_35 ?_
          refine lv_topl (fun t14 et14 => ?_)
          refine lv_lstore_n (lv' := [(2, .long t14), (0, .ref (r0 0)), (1, .int p1), (4, .int x4_2)]) hx hb dX9_trunk_36 rfl hl (by decide) rfl (fun ls hl => ?_)
          exact J37_8 t14 ls (lv_sub hl [1, 2, 0, 3] rfl)
  have hj15 : 0 ≤ t1.toInt ∧ t1.toInt ≤ 60 := by omega
  exact J5_2 ((61 - t1.toInt).toNat + 1) 0 t1 ls (lv_sub hl [2, 3, 1, 0] rfl) hj15 (Nat.lt_succ_self _)
