def zBt (x : Int64) (c : Int32) : Prop := ¬ ((x.toUInt64 >>> (c.toInt64.toUInt64 &&& Int64.toUInt64 63)).toInt64 &&& 1) = 0
def zHs (f : Nat → Int32) (c n : Nat) (o : Int32) : Prop := ∃ k : Nat, k < n ∧ f (3 * c + k) = o

set_option maxHeartbeats 8000000 in
set_option maxRecDepth 100000 in
theorem c_X8_isIn_R (l : Launch) (D : va_G) (ca : Nat → ClassId) (sa : Nat → Nat) (A : Nat → Prop) (rest : va_W) (p0 : Int64) (p2 : Int32) : Met l yX8_isIn wsX8_isIn ({ frames := 0, cells := 0, slots := 0, locals := 0 }) (va_Pc [.long p0, .int p2] (zPre D ca sa A (rest))) (va_Qi (fun (r : Int32) (u : Unit) => (0 ≤ r.toInt ∧ r.toInt ≤ 1) ∧ (((r).toInt = 1 ∧ zBt p0 p2) ∨ ((r).toInt = 0 ∧ ¬ zBt p0 p2))) (fun u t => zPost D A (rest) t) A) 0 0 A := by
  refine Met.ofW (cc := cX8_isIn) (maxL := 3) (ret := (some .boolean)) (by decide) rfl ?_
  intro p e s m args below meth c s₁ B hml hv9
  obtain ⟨rfl, hE, hP, hD⟩ := hv9
  have hx := B.exec
  have hb := B.bytes
  have hr := B.returns
  have hts := atoms_spec (ws := wsX8_isIn) B.pre
  have hown : s.vm.findClass RX8 = some m.cls := findClass_of_methodNamed B.named
  have hlocks := B.notSynchronized
  have hK := hE.1
  have hF : CallFix p m c cX8_isIn 3 s _ wsX8_isIn RX8 := ⟨hx, hb, hml, hown, hts⟩
  have hS : va_S A s.heap s.heap [] := va_S.rf
  generalize hHe : s.heap = H at hP
  have hS : va_S A s.heap H [] := by rw [← hHe]; exact hS
  have hl := lv_entry ([.long p0, .int p2]) (n := 3) (Nat.le_of_ble_eq_true rfl)
  rw [lg_entry_eq]
  generalize (lg_sl ([.long p0, .int p2]) ++ List.replicate (3 - (lg_sl ([.long p0, .int p2])).length) Slot.unset).toArray = ls at hl ⊢
  have hl : lv_has ls 3 [(0, .long p0), (2, .int p2)] := hl
  generalize hQ9 : MQ below _ _ s 0 0 A = Q9
  refine lv_lload_n hx hb dX8_isIn_0 rfl (lv_at hl 0 rfl) ?_
  refine lv_iload_n hx hb dX8_isIn_1 rfl (lv_at hl 1 rfl) ?_
  refine lv_lushr hx hb dX8_isIn_2 rfl ?_
  refine lv_topl (fun t1 et1 => ?_)
  refine lv_lconst (v := 1) hx hb dX8_isIn_3 (by decide) ?_
  refine lv_land hx hb dX8_isIn_4 ?_
  refine lv_topl (fun t2 et2 => ?_)
  refine lv_lconst (v := 0) hx hb dX8_isIn_5 (by decide) ?_
  refine W.lcmp hx hb dX8_isIn_6 ?_
  refine lv_topi (fun t3 et3 => ?_)
  refine lv_if_eq (tgt := 14) hx hb dX8_isIn_7 (by decide) (fun c4 => ?_) (fun c4 => ?_)
  ·
    have c4 := z_eq (i := t3.toInt) (j := 0) rfl (by decide) c4
    refine lv_iconst (v := 0) hx hb dX8_isIn_14 (by decide) ?_
    rw [← hQ9]
    refine lv_topi (fun t5 et5 => ?_)
    have ht5 : t5.toInt = 0 := by rw [et5]; decide
    have hq6 : 0 ≤ t5.toInt ∧ t5.toInt ≤ 1 := by omega
    have hq7 : ((t5).toInt = 1 ∧ zBt p0 p2) ∨ ((t5).toInt = 0 ∧ ¬ zBt p0 p2) := Or.inr ⟨by omega, fun h => h (by have q : t3 = 0 := Int32.toInt_inj.mp (by rw [show (t3).toInt = 0 by omega]; decide); rw [et3] at q; have q2 := (lg_cmp_eq t2 0).mp q; rw [et2, et1] at q2; exact q2)⟩
    have hz8 : narrow .boolean (.int t5) = .int t5 := z_nz (by constructor <;> omega)
    exact W.zret (v := t5) hx hb hr hz8 (fun t ht hW => ⟨⟨t5, (), rfl, ⟨hq6, hq7⟩, ⟨by rw [ht]; exact hP, hD⟩⟩, hS.F ht⟩) hS.2.2 dX8_isIn_15
  ·
    have c4 := z_ne (i := t3.toInt) (j := 0) rfl (by decide) c4
    refine lv_iconst (v := 1) hx hb dX8_isIn_10 (by decide) ?_
    refine lv_goto (tgt := 15) hx hb dX8_isIn_11 (by decide) ?_
    rw [← hQ9]
    refine lv_topi (fun t9 et9 => ?_)
    have ht9 : t9.toInt = 1 := by rw [et9]; decide
    have hq10 : 0 ≤ t9.toInt ∧ t9.toInt ≤ 1 := by omega
    have hq11 : ((t9).toInt = 1 ∧ zBt p0 p2) ∨ ((t9).toInt = 0 ∧ ¬ zBt p0 p2) := Or.inl ⟨by omega, fun h => absurd (show t3.toInt = 0 from by rw [et3, (lg_cmp_eq t2 0).mpr (by rw [et2, et1]; exact h)]; decide) (by omega)⟩
    have hz12 : narrow .boolean (.int t9) = .int t9 := z_nz (by constructor <;> omega)
    exact W.zret (v := t9) hx hb hr hz12 (fun t ht hW => ⟨⟨t9, (), rfl, ⟨hq10, hq11⟩, ⟨by rw [ht]; exact hP, hD⟩⟩, hS.F ht⟩) hS.2.2 dX8_isIn_15

set_option maxHeartbeats 8000000 in
set_option maxRecDepth 100000 in
theorem c_X8_only_R (l : Launch) (D : va_G) (ca : Nat → ClassId) (sa : Nat → Nat) (A : Nat → Prop) (rest : va_W) (p0 : Int32) : Met l yX8_only wsX8_only ({ frames := 0, cells := 0, slots := 0, locals := 0 }) (va_Pc [.int p0] (zPre D ca sa A (rest))) (va_Ql (fun (r : Int64) (u : Unit) => (r = (1 : Int64) <<< (p0.toInt64 &&& 63))) (fun u t => zPost D A (rest) t) A) 0 0 A := by
  refine Met.ofW (cc := cX8_only) (maxL := 1) (ret := (some .long)) (by decide) rfl ?_
  intro p e s m args below meth c s₁ B hml hv9
  obtain ⟨rfl, hE, hP, hD⟩ := hv9
  have hx := B.exec
  have hb := B.bytes
  have hr := B.returns
  have hts := atoms_spec (ws := wsX8_only) B.pre
  have hown : s.vm.findClass RX8 = some m.cls := findClass_of_methodNamed B.named
  have hlocks := B.notSynchronized
  have hK := hE.1
  have hF : CallFix p m c cX8_only 1 s _ wsX8_only RX8 := ⟨hx, hb, hml, hown, hts⟩
  have hS : va_S A s.heap s.heap [] := va_S.rf
  generalize hHe : s.heap = H at hP
  have hS : va_S A s.heap H [] := by rw [← hHe]; exact hS
  have hl := lv_entry ([.int p0]) (n := 1) (Nat.le_of_ble_eq_true rfl)
  rw [lg_entry_eq]
  generalize (lg_sl ([.int p0]) ++ List.replicate (1 - (lg_sl ([.int p0])).length) Slot.unset).toArray = ls at hl ⊢
  have hl : lv_has ls 1 [(0, .int p0)] := hl
  generalize hQ9 : MQ below _ _ s 0 0 A = Q9
  refine lv_lconst (v := 1) hx hb dX8_only_0 (by decide) ?_
  refine lv_iload_n hx hb dX8_only_1 rfl (lv_at hl 0 rfl) ?_
  refine lv_lshl hx hb dX8_only_2 rfl ?_
  refine lv_topl (fun t1 et1 => ?_)
  rw [← hQ9]
  have hq2 : t1 = (1 : Int64) <<< (p0.toInt64 &&& 63) := et1
  exact W.lret (v := t1) hx hb hr (fun t ht hW => ⟨⟨t1, (), rfl, hq2, ⟨by rw [ht]; exact hP, hD⟩⟩, hS.F ht⟩) hS.2.2 dX8_only_3

set_option maxHeartbeats 8000000 in
set_option maxRecDepth 100000 in
theorem c_X1_addHang_R (l : Launch) (D : va_G) (ca : Nat → ClassId) (sa : Nat → Nat) (A : Nat → Prop) (rest : va_W) (r0 : Nat → Nat) (fi0 : Nat → Int32) (fl0 : Nat → Int64) (fa0 : Nat → Nat → Int32) (fb0 : Nat → Nat → Int64) (hv0 : Ok_CHG fi0 fa0) (p1 : Int32) (p2 : Int32) (hpre0 : 0 ≤ p1.toInt ∧ p1.toInt ≤ 59) : Met l yX1_addHang wsX1_addHang ({ frames := 1, cells := 0, slots := 0, locals := 20 }) (va_Pc [.ref (r0 0), .int p1, .int p2] (zPre D ca sa A (w_CHG ca r0 fi0 fl0 fa0 fb0 (rest)))) (va_Qi (fun (r : Int32) (u : zS) => Ok_CHG (zx [] fi0 u.1) (zx [6, 7] fa0 u.2.2.1) ∧ (((r).toInt = -3 ∧ 3 ≤ ((fa0 6) p1.toNatClampNeg).toInt ∧ (u.2.2.1 6) = (fa0 6) ∧ (u.2.2.1 7) = (fa0 7) ∧ (u.2.2.2 0) = (fb0 0)) ∨ (((fa0 6) p1.toNatClampNeg).toInt < 3 ∧ (r).toInt = ((fa0 6) p1.toNatClampNeg).toInt + 1 ∧ (u.2.2.1 7) = upd (fa0 7) (3 * p1.toNatClampNeg + ((fa0 6) p1.toNatClampNeg).toNatClampNeg) p2 ∧ (u.2.2.1 6) = upd (fa0 6) p1.toNatClampNeg r ∧ (u.2.2.2 0) = vp_updL (fb0 0) p1.toNatClampNeg ((fb0 0) p1.toNatClampNeg ||| ((1 : Int64) <<< (p2.toInt64 &&& 63)))))) (fun u t => zPost D A (w_CHG ca r0 (zx [] fi0 u.1) (zx [] fl0 u.2.1) (zx [6, 7] fa0 u.2.2.1) (zx [0] fb0 u.2.2.2) (rest)) t) A) 0 0 A := by
  refine Met.ofW (cc := cX1_addHang) (maxL := 4) (ret := (some .int)) (by decide) rfl ?_
  intro p e s m args below meth c s₁ B hml hv9
  obtain ⟨rfl, hE, hP, hD⟩ := hv9
  have hx := B.exec
  have hb := B.bytes
  have hr := B.returns
  have hts := atoms_spec (ws := wsX1_addHang) B.pre
  have hown : s.vm.findClass RX1 = some m.cls := findClass_of_methodNamed B.named
  have hlocks := B.notSynchronized
  have hK := hE.1
  have hF : CallFix p m c cX1_addHang 4 s _ wsX1_addHang RX1 := ⟨hx, hb, hml, hown, hts⟩
  have hS : va_S A s.heap s.heap [] := va_S.rf
  have lk34 := hts (.fieldLink RX1 34 "BranchPlay$Changes" "hangCount" "[I") (by decide +kernel)
  have inX1 : ∀ w ∈ wsX10, w ∈ wsX1_addHang := by decide +kernel
  have lk37 := hts (.fieldLink RX1 37 "BranchPlay$Changes" "hangs" "[I") (by decide +kernel)
  have lk40 := hts (.fieldLink RX1 40 "BranchPlay$Changes" "hangSet" "[J") (by decide +kernel)
  have liX8 := hts (.initialized RX8) (by decide +kernel)
  have lsX8_only := hts (.static yX8_only) (by decide +kernel)
  obtain ⟨⟨hv0i0, hv0j0⟩, hv0a6⟩ := hv0
  generalize hHe : s.heap = H at hP
  have hS : va_S A s.heap H [] := by rw [← hHe]; exact hS
  have hP : va_P D vwCl (((r0 0), .inr (1, [.int (fi0 0), .ref (r0 1), .ref (r0 2), .ref (r0 3), .ref (r0 4), .ref (r0 5), .ref (r0 6), .ref (r0 7), .ref (r0 8), .ref (r0 9), .long (fl0 0), .ref (r0 10)])) :: ((r0 1), .inl (ca 0, 60, .inl (fa0 0))) :: ((r0 2), .inl (ca 0, 60, .inl (fa0 1))) :: ((r0 3), .inl (ca 0, 60, .inl (fa0 2))) :: ((r0 4), .inl (ca 0, 60, .inl (fa0 3))) :: ((r0 5), .inl (ca 0, 60, .inl (fa0 4))) :: ((r0 6), .inl (ca 0, 60, .inl (fa0 5))) :: ((r0 7), .inl (ca 0, 60, .inl (fa0 6))) :: ((r0 8), .inl (ca 0, 180, .inl (fa0 7))) :: ((r0 9), .inl (ca 1, 60, .inr (.inl (fb0 0)))) :: ((r0 10), .inr (0, [.ref (r0 11)])) :: ((r0 11), .inl (ca 1, 400, .inr (.inl (fb0 1)))) :: rest) H := hP
  have hD : va_D A (((r0 0), .inr (1, [.int (fi0 0), .ref (r0 1), .ref (r0 2), .ref (r0 3), .ref (r0 4), .ref (r0 5), .ref (r0 6), .ref (r0 7), .ref (r0 8), .ref (r0 9), .long (fl0 0), .ref (r0 10)])) :: ((r0 1), .inl (ca 0, 60, .inl (fa0 0))) :: ((r0 2), .inl (ca 0, 60, .inl (fa0 1))) :: ((r0 3), .inl (ca 0, 60, .inl (fa0 2))) :: ((r0 4), .inl (ca 0, 60, .inl (fa0 3))) :: ((r0 5), .inl (ca 0, 60, .inl (fa0 4))) :: ((r0 6), .inl (ca 0, 60, .inl (fa0 5))) :: ((r0 7), .inl (ca 0, 60, .inl (fa0 6))) :: ((r0 8), .inl (ca 0, 180, .inl (fa0 7))) :: ((r0 9), .inl (ca 1, 60, .inr (.inl (fb0 0)))) :: ((r0 10), .inr (0, [.ref (r0 11)])) :: ((r0 11), .inl (ca 1, 400, .inr (.inl (fb0 1)))) :: rest) := hD
  have hl := lv_entry ([.ref (r0 0), .int p1, .int p2]) (n := 4) (Nat.le_of_ble_eq_true rfl)
  rw [lg_entry_eq]
  generalize (lg_sl ([.ref (r0 0), .int p1, .int p2]) ++ List.replicate (4 - (lg_sl ([.ref (r0 0), .int p1, .int p2])).length) Slot.unset).toArray = ls at hl ⊢
  have hl : lv_has ls 4 [(0, .ref (r0 0)), (1, .int p1), (2, .int p2)] := hl
  generalize hQ9 : MQ below _ _ s 0 0 A = Q9
  have hpc : (p1.toNatClampNeg : Int) = p1.toInt := by rw [z_cl]; omega
  refine lv_aload_n hx hb dX1_addHang_0 rfl (lv_at hl 0 rfl) ?_
  refine va_get (D := D) (ci := 1) (v := .ref (r0 7)) (C := RX1) (T := TX1) (N := 12) hx hb hts inX1 hown hK hP 0 rfl rfl 7 (by decide) lk34 (fun _ h9 => h9) rfl dX1_addHang_1 ?_
  refine lv_iload_n hx hb dX1_addHang_4 rfl (lv_at hl 1 rfl) ?_
  have hi1 : vp_in p1 60 := z_in (i := p1.toInt) rfl (by omega) (by omega)
  refine va_iald hx hb hK hP 7 0 rfl rfl hi1 dX1_addHang_5 ?_
  refine lv_topi (fun t2 et2 => ?_)
  have ht2v : t2.toInt = ((fa0 6) p1.toNatClampNeg).toInt := by rw [et2]
  have ht2 := z_at hv0a6 et2
  refine lv_istore_n (lv' := [(3, .int t2), (0, .ref (r0 0)), (1, .int p1), (2, .int p2)]) hx hb dX1_addHang_6 rfl hl (by decide) rfl (fun ls hl => ?_)
  refine lv_iload_n hx hb dX1_addHang_7 rfl (lv_at hl 0 rfl) ?_
  refine lv_iconst (v := 3) hx hb dX1_addHang_8 (by decide) ?_
  refine lv_icmp_lt (tgt := 15) hx hb dX1_addHang_9 (by decide) (fun c3 => ?_) (fun c3 => ?_)
  ·
    have c3 := z_lt (i := t2.toInt) (j := 3) rfl (by decide) c3
    refine lv_aload_n hx hb dX1_addHang_15 rfl (lv_at hl 1 rfl) ?_
    refine va_get (D := D) (ci := 1) (v := .ref (r0 8)) (C := RX1) (T := TX1) (N := 12) hx hb hts inX1 hown hK hP 0 rfl rfl 8 (by decide) lk37 (fun _ h9 => h9) rfl dX1_addHang_16 ?_
    refine lv_iload_n hx hb dX1_addHang_19 rfl (lv_at hl 2 rfl) ?_
    refine lv_iconst (v := 3) hx hb dX1_addHang_20 (by decide) ?_
    refine lv_imul hx hb dX1_addHang_21 ?_
    refine lv_topi (fun t4 et4 => ?_)
    try have ht4 : t4.toInt = p1.toInt * 3 := z_mul et4 rfl (by decide) (by omega -splitDisjunctions) (by omega -splitDisjunctions)
    refine lv_iload_n hx hb dX1_addHang_22 rfl (lv_at hl 0 rfl) ?_
    refine lv_iadd hx hb dX1_addHang_23 ?_
    refine lv_topi (fun t5 et5 => ?_)
    try have ht5 : t5.toInt = t4.toInt + t2.toInt := z_add et5 rfl rfl (by omega -splitDisjunctions) (by omega -splitDisjunctions)
    refine lv_iload_n hx hb dX1_addHang_24 rfl (lv_at hl 3 rfl) ?_
    have hi6 : vp_in t5 180 := z_in (i := t5.toInt) rfl (by omega) (by omega)
    refine va_iast hx hb hK hP hD hS 8 0 rfl rfl hi6 dX1_addHang_25 (fun H locs hP hD hS => ?_)
    generalize eg7 : upd (fa0 7) t5.toNatClampNeg p2 = g7 at hP hD
    have hP : va_P D vwCl (((r0 0), .inr (1, [.int (fi0 0), .ref (r0 1), .ref (r0 2), .ref (r0 3), .ref (r0 4), .ref (r0 5), .ref (r0 6), .ref (r0 7), .ref (r0 8), .ref (r0 9), .long (fl0 0), .ref (r0 10)])) :: ((r0 1), .inl (ca 0, 60, .inl (fa0 0))) :: ((r0 2), .inl (ca 0, 60, .inl (fa0 1))) :: ((r0 3), .inl (ca 0, 60, .inl (fa0 2))) :: ((r0 4), .inl (ca 0, 60, .inl (fa0 3))) :: ((r0 5), .inl (ca 0, 60, .inl (fa0 4))) :: ((r0 6), .inl (ca 0, 60, .inl (fa0 5))) :: ((r0 7), .inl (ca 0, 60, .inl (fa0 6))) :: ((r0 8), .inl (ca 0, 180, .inl g7)) :: ((r0 9), .inl (ca 1, 60, .inr (.inl (fb0 0)))) :: ((r0 10), .inr (0, [.ref (r0 11)])) :: ((r0 11), .inl (ca 1, 400, .inr (.inl (fb0 1)))) :: rest) H := hP
    have hD : va_D A (((r0 0), .inr (1, [.int (fi0 0), .ref (r0 1), .ref (r0 2), .ref (r0 3), .ref (r0 4), .ref (r0 5), .ref (r0 6), .ref (r0 7), .ref (r0 8), .ref (r0 9), .long (fl0 0), .ref (r0 10)])) :: ((r0 1), .inl (ca 0, 60, .inl (fa0 0))) :: ((r0 2), .inl (ca 0, 60, .inl (fa0 1))) :: ((r0 3), .inl (ca 0, 60, .inl (fa0 2))) :: ((r0 4), .inl (ca 0, 60, .inl (fa0 3))) :: ((r0 5), .inl (ca 0, 60, .inl (fa0 4))) :: ((r0 6), .inl (ca 0, 60, .inl (fa0 5))) :: ((r0 7), .inl (ca 0, 60, .inl (fa0 6))) :: ((r0 8), .inl (ca 0, 180, .inl g7)) :: ((r0 9), .inl (ca 1, 60, .inr (.inl (fb0 0)))) :: ((r0 10), .inr (0, [.ref (r0 11)])) :: ((r0 11), .inl (ca 1, 400, .inr (.inl (fb0 1)))) :: rest) := hD
    refine lv_aload_n hx hb dX1_addHang_26 rfl (lv_at hl 1 rfl) ?_
    refine va_get (D := D) (ci := 1) (v := .ref (r0 7)) (C := RX1) (T := TX1) (N := 12) hx hb hts inX1 hown hK hP 0 rfl rfl 7 (by decide) lk34 (fun _ h9 => h9) rfl dX1_addHang_27 ?_
    refine lv_iload_n hx hb dX1_addHang_30 rfl (lv_at hl 2 rfl) ?_
    refine lv_iload_n hx hb dX1_addHang_31 rfl (lv_at hl 0 rfl) ?_
    refine lv_iconst (v := 1) hx hb dX1_addHang_32 (by decide) ?_
    refine lv_iadd hx hb dX1_addHang_33 ?_
    refine lv_topi (fun t8 et8 => ?_)
    try have ht8 : t8.toInt = t2.toInt + 1 := z_add et8 rfl (by decide) (by omega -splitDisjunctions) (by omega -splitDisjunctions)
    have hi9 : vp_in p1 60 := z_in (i := p1.toInt) rfl (by omega) (by omega)
    refine va_iast hx hb hK hP hD hS 7 0 rfl rfl hi9 dX1_addHang_34 (fun H locs hP hD hS => ?_)
    generalize eg10 : upd (fa0 6) p1.toNatClampNeg t8 = g10 at hP hD
    have hg10 : z_rng 0 3 g10 := z_upd (i := t8.toInt) eg10.symm hv0a6 rfl (by omega) (by omega)
    have hP : va_P D vwCl (((r0 0), .inr (1, [.int (fi0 0), .ref (r0 1), .ref (r0 2), .ref (r0 3), .ref (r0 4), .ref (r0 5), .ref (r0 6), .ref (r0 7), .ref (r0 8), .ref (r0 9), .long (fl0 0), .ref (r0 10)])) :: ((r0 1), .inl (ca 0, 60, .inl (fa0 0))) :: ((r0 2), .inl (ca 0, 60, .inl (fa0 1))) :: ((r0 3), .inl (ca 0, 60, .inl (fa0 2))) :: ((r0 4), .inl (ca 0, 60, .inl (fa0 3))) :: ((r0 5), .inl (ca 0, 60, .inl (fa0 4))) :: ((r0 6), .inl (ca 0, 60, .inl (fa0 5))) :: ((r0 7), .inl (ca 0, 60, .inl g10)) :: ((r0 8), .inl (ca 0, 180, .inl g7)) :: ((r0 9), .inl (ca 1, 60, .inr (.inl (fb0 0)))) :: ((r0 10), .inr (0, [.ref (r0 11)])) :: ((r0 11), .inl (ca 1, 400, .inr (.inl (fb0 1)))) :: rest) H := hP
    have hD : va_D A (((r0 0), .inr (1, [.int (fi0 0), .ref (r0 1), .ref (r0 2), .ref (r0 3), .ref (r0 4), .ref (r0 5), .ref (r0 6), .ref (r0 7), .ref (r0 8), .ref (r0 9), .long (fl0 0), .ref (r0 10)])) :: ((r0 1), .inl (ca 0, 60, .inl (fa0 0))) :: ((r0 2), .inl (ca 0, 60, .inl (fa0 1))) :: ((r0 3), .inl (ca 0, 60, .inl (fa0 2))) :: ((r0 4), .inl (ca 0, 60, .inl (fa0 3))) :: ((r0 5), .inl (ca 0, 60, .inl (fa0 4))) :: ((r0 6), .inl (ca 0, 60, .inl (fa0 5))) :: ((r0 7), .inl (ca 0, 60, .inl g10)) :: ((r0 8), .inl (ca 0, 180, .inl g7)) :: ((r0 9), .inl (ca 1, 60, .inr (.inl (fb0 0)))) :: ((r0 10), .inr (0, [.ref (r0 11)])) :: ((r0 11), .inl (ca 1, 400, .inr (.inl (fb0 1)))) :: rest) := hD
    refine lv_aload_n hx hb dX1_addHang_35 rfl (lv_at hl 1 rfl) ?_
    refine va_get (D := D) (ci := 1) (v := .ref (r0 9)) (C := RX1) (T := TX1) (N := 12) hx hb hts inX1 hown hK hP 0 rfl rfl 9 (by decide) lk40 (fun _ h9 => h9) rfl dX1_addHang_36 ?_
    refine lv_iload_n hx hb dX1_addHang_39 rfl (lv_at hl 2 rfl) ?_
    refine lv_dup2_11 hx hb dX1_addHang_40 rfl rfl ?_
    have hi11 : vp_in p1 60 := z_in (i := p1.toInt) rfl (by omega) (by omega)
    refine va_lald hx hb hK hP 9 1 rfl rfl hi11 dX1_addHang_41 ?_
    refine lv_topl (fun t12 et12 => ?_)
    refine lv_iload_n hx hb dX1_addHang_42 rfl (lv_at hl 3 rfl) ?_
    refine z_lN (As := [.int p2]) (rest := [.long t12, .int p1, .ref (r0 9)]) (host := RX8) hF (c_X8_only_R l D ca sa A _ p2) ⟨va_cnB 1 hts ggX1_addHang_X8_only rfl rfl rfl (hE.2.1 _ (by decide +kernel)) liX8 (by decide +kernel) ⟨Nat.le_of_ble_eq_true rfl, Nat.le_of_ble_eq_true rfl⟩, lsX8_only, trivial⟩ hE hP hD hS rfl hl.1 rfl (Nat.le_of_ble_eq_true rfl) dX1_addHang_43 ⟨Nat.zero_le _, Nat.zero_le _⟩ (fun t14 u13 H locs hw15 hP hD hS => ?_)
    have hw15 : (t14 = (1 : Int64) <<< (p2.toInt64 &&& 63)) := hw15
    have hq16 := hw15
    clear hw15
    refine lv_lor hx hb dX1_addHang_46 ?_
    refine lv_topl (fun t17 et17 => ?_)
    have hi18 : vp_in p1 60 := z_in (i := p1.toInt) rfl (by omega) (by omega)
    refine va_last hx hb hK hP hD hS 9 1 rfl rfl hi18 dX1_addHang_47 (fun H locs hP hD hS => ?_)
    generalize eg19 : vp_updL (fb0 0) p1.toNatClampNeg t17 = g19 at hP hD
    have hP : va_P D vwCl (((r0 0), .inr (1, [.int (fi0 0), .ref (r0 1), .ref (r0 2), .ref (r0 3), .ref (r0 4), .ref (r0 5), .ref (r0 6), .ref (r0 7), .ref (r0 8), .ref (r0 9), .long (fl0 0), .ref (r0 10)])) :: ((r0 1), .inl (ca 0, 60, .inl (fa0 0))) :: ((r0 2), .inl (ca 0, 60, .inl (fa0 1))) :: ((r0 3), .inl (ca 0, 60, .inl (fa0 2))) :: ((r0 4), .inl (ca 0, 60, .inl (fa0 3))) :: ((r0 5), .inl (ca 0, 60, .inl (fa0 4))) :: ((r0 6), .inl (ca 0, 60, .inl (fa0 5))) :: ((r0 7), .inl (ca 0, 60, .inl g10)) :: ((r0 8), .inl (ca 0, 180, .inl g7)) :: ((r0 9), .inl (ca 1, 60, .inr (.inl g19))) :: ((r0 10), .inr (0, [.ref (r0 11)])) :: ((r0 11), .inl (ca 1, 400, .inr (.inl (fb0 1)))) :: rest) H := hP
    have hD : va_D A (((r0 0), .inr (1, [.int (fi0 0), .ref (r0 1), .ref (r0 2), .ref (r0 3), .ref (r0 4), .ref (r0 5), .ref (r0 6), .ref (r0 7), .ref (r0 8), .ref (r0 9), .long (fl0 0), .ref (r0 10)])) :: ((r0 1), .inl (ca 0, 60, .inl (fa0 0))) :: ((r0 2), .inl (ca 0, 60, .inl (fa0 1))) :: ((r0 3), .inl (ca 0, 60, .inl (fa0 2))) :: ((r0 4), .inl (ca 0, 60, .inl (fa0 3))) :: ((r0 5), .inl (ca 0, 60, .inl (fa0 4))) :: ((r0 6), .inl (ca 0, 60, .inl (fa0 5))) :: ((r0 7), .inl (ca 0, 60, .inl g10)) :: ((r0 8), .inl (ca 0, 180, .inl g7)) :: ((r0 9), .inl (ca 1, 60, .inr (.inl g19))) :: ((r0 10), .inr (0, [.ref (r0 11)])) :: ((r0 11), .inl (ca 1, 400, .inr (.inl (fb0 1)))) :: rest) := hD
    refine lv_iload_n hx hb dX1_addHang_48 rfl (lv_at hl 0 rfl) ?_
    refine lv_iconst (v := 1) hx hb dX1_addHang_49 (by decide) ?_
    refine lv_iadd hx hb dX1_addHang_50 ?_
    refine lv_topi (fun t20 et20 => ?_)
    try have ht20 : t20.toInt = t2.toInt + 1 := z_add et20 rfl (by decide) (by omega -splitDisjunctions) (by omega -splitDisjunctions)
    rw [← hQ9]
    have ho21 : (0 ≤ (fi0 0).toInt ∧ (fi0 0).toInt ≤ 60) ∧ z_rng 0 3 g10 := ⟨⟨by omega, by omega⟩, hg10⟩
    have hq22 : ((t20).toInt = -3 ∧ 3 ≤ ((fa0 6) p1.toNatClampNeg).toInt ∧ g10 = (fa0 6) ∧ g7 = (fa0 7) ∧ g19 = (fb0 0)) ∨ (((fa0 6) p1.toNatClampNeg).toInt < 3 ∧ (t20).toInt = ((fa0 6) p1.toNatClampNeg).toInt + 1 ∧ g7 = upd (fa0 7) (3 * p1.toNatClampNeg + ((fa0 6) p1.toNatClampNeg).toNatClampNeg) p2 ∧ g10 = upd (fa0 6) p1.toNatClampNeg t20 ∧ g19 = vp_updL (fb0 0) p1.toNatClampNeg ((fb0 0) p1.toNatClampNeg ||| ((1 : Int64) <<< (p2.toInt64 &&& 63)))) := Or.inr ⟨by omega, by omega, by rw [← eg7, show t5.toNatClampNeg = 3 * p1.toNatClampNeg + (fa0 6 p1.toNatClampNeg).toNatClampNeg from by (rw [z_cl t5, z_cl (fa0 6 p1.toNatClampNeg)]; omega)], by rw [← eg10, et8, et20], by rw [← eg19, et17, et12, hq16]⟩
    exact W.iret (v := t20) hx hb hr (fun t ht hW => ⟨⟨t20, ((zl 0 [(fi0 0)]), (zl 0 [(fl0 0)]), (zl (fun _ => 0) [(fa0 0), (fa0 1), (fa0 2), (fa0 3), (fa0 4), (fa0 5), g10, g7]), (zl (fun _ => 0) [g19, (fb0 1)])), rfl, ⟨ho21, hq22⟩, ⟨by rw [ht]; exact hP, hD⟩⟩, hS.F ht⟩) hS.2.2 dX1_addHang_51
  ·
    have c3 := z_nlt (i := t2.toInt) (j := 3) rfl (by decide) c3
    refine lv_bipush (v := (-3)) hx hb dX1_addHang_12 (by decide) ?_
    rw [← hQ9]
    refine lv_topi (fun t23 et23 => ?_)
    have ht23 : t23.toInt = (-3) := by rw [et23]; decide
    have ho24 : (0 ≤ (fi0 0).toInt ∧ (fi0 0).toInt ≤ 60) ∧ z_rng 0 3 (fa0 6) := ⟨⟨by omega, by omega⟩, hv0a6⟩
    have hq25 : ((t23).toInt = -3 ∧ 3 ≤ ((fa0 6) p1.toNatClampNeg).toInt ∧ (fa0 6) = (fa0 6) ∧ (fa0 7) = (fa0 7) ∧ (fb0 0) = (fb0 0)) ∨ (((fa0 6) p1.toNatClampNeg).toInt < 3 ∧ (t23).toInt = ((fa0 6) p1.toNatClampNeg).toInt + 1 ∧ (fa0 7) = upd (fa0 7) (3 * p1.toNatClampNeg + ((fa0 6) p1.toNatClampNeg).toNatClampNeg) p2 ∧ (fa0 6) = upd (fa0 6) p1.toNatClampNeg t23 ∧ (fb0 0) = vp_updL (fb0 0) p1.toNatClampNeg ((fb0 0) p1.toNatClampNeg ||| ((1 : Int64) <<< (p2.toInt64 &&& 63)))) := Or.inl ⟨by omega, by omega, rfl, rfl, rfl⟩
    exact W.iret (v := t23) hx hb hr (fun t ht hW => ⟨⟨t23, ((zl 0 [(fi0 0)]), (zl 0 [(fl0 0)]), (zl (fun _ => 0) [(fa0 0), (fa0 1), (fa0 2), (fa0 3), (fa0 4), (fa0 5), (fa0 6), (fa0 7)]), (zl (fun _ => 0) [(fb0 0), (fb0 1)])), rfl, ⟨ho24, hq25⟩, ⟨by rw [ht]; exact hP, hD⟩⟩, hS.F ht⟩) hS.2.2 dX1_addHang_14

