def zBt (x : Int64) (c : Int32) : Prop := ¬ ((x.toUInt64 >>> (c.toInt64.toUInt64 &&& Int64.toUInt64 63)).toInt64 &&& 1) = 0
def zHs (f : Nat → Int32) (c n : Nat) (o : Int32) : Prop := ∃ k : Nat, k < n ∧ f (3 * c + k) = o

set_option maxHeartbeats 8000000 in
set_option maxRecDepth 100000 in
theorem c_X8_isIn_R (l : Launch) (D : va_G) (ca : Nat → ClassId) (sa : Nat → Nat) (A : Nat → Prop) (rest : va_W) (p0 : Int64) (p2 : Int32) : Met l yX8_isIn wsX8_isIn ({ frames := 0, cells := 0, slots := 0, locals := 0 }) (va_Pc [.long p0, .int p2] (zPre D ca sa A (rest))) (va_Qi (fun (r : Int32) (u : Unit) => (0 ≤ r.toInt ∧ r.toInt ≤ 1) ∧ (((r).toInt = 1 ∧ zBt p0 p2) ∨ ((r).toInt = 0 ∧ ¬ zBt p0 p2))) (fun u t => zPost D A (rest) t) A) 0 0 A := by
  refine Met.ofW (cc := cX8_isIn) (maxL := 3) (ret := (some .boolean)) (by decide) rfl ?_
  intro p e s m args below meth c s₁ B hml hv9
  obtain ⟨rfl, hE, hP, hD⟩ := hv9
  have hx := B.exec
  have hb := B.bytes
  have hr := B.returns
  have hts := atoms_spec (ws := wsX8_isIn) B.pre
  have hown : s.vm.findClass RX8 = some m.cls := findClass_of_methodNamed B.named
  have hlocks := B.notSynchronized
  have hK := hE.1
  have hF : CallFix p m c cX8_isIn 3 s _ wsX8_isIn RX8 := ⟨hx, hb, hml, hown, hts⟩
  have hS : va_S A s.heap s.heap [] := va_S.rf
  generalize hHe : s.heap = H at hP
  have hS : va_S A s.heap H [] := by rw [← hHe]; exact hS
  have hl := lv_entry ([.long p0, .int p2]) (n := 3) (Nat.le_of_ble_eq_true rfl)
  rw [lg_entry_eq]
  generalize (lg_sl ([.long p0, .int p2]) ++ List.replicate (3 - (lg_sl ([.long p0, .int p2])).length) Slot.unset).toArray = ls at hl ⊢
  have hl : lv_has ls 3 [(0, .long p0), (2, .int p2)] := hl
  generalize hQ9 : MQ below _ _ s 0 0 A = Q9
  refine lv_lload_n hx hb dX8_isIn_0 rfl (lv_at hl 0 rfl) ?_
  refine lv_iload_n hx hb dX8_isIn_1 rfl (lv_at hl 1 rfl) ?_
  refine lv_lushr hx hb dX8_isIn_2 rfl ?_
  refine lv_topl (fun t1 et1 => ?_)
  refine lv_lconst (v := 1) hx hb dX8_isIn_3 (by decide) ?_
  refine lv_land hx hb dX8_isIn_4 ?_
  refine lv_topl (fun t2 et2 => ?_)
  refine lv_lconst (v := 0) hx hb dX8_isIn_5 (by decide) ?_
  refine W.lcmp hx hb dX8_isIn_6 ?_
  refine lv_topi (fun t3 et3 => ?_)
  refine lv_if_eq (tgt := 14) hx hb dX8_isIn_7 (by decide) (fun c4 => ?_) (fun c4 => ?_)
  ·
    have c4 := z_eq (i := t3.toInt) (j := 0) rfl (by decide) c4
    refine lv_iconst (v := 0) hx hb dX8_isIn_14 (by decide) ?_
    rw [← hQ9]
    refine lv_topi (fun t5 et5 => ?_)
    have ht5 : t5.toInt = 0 := by rw [et5]; decide
    have hq6 : 0 ≤ t5.toInt ∧ t5.toInt ≤ 1 := by omega
    have hq7 : ((t5).toInt = 1 ∧ zBt p0 p2) ∨ ((t5).toInt = 0 ∧ ¬ zBt p0 p2) := Or.inr ⟨by omega, fun h => h (by have q : t3 = 0 := Int32.toInt_inj.mp (by rw [show (t3).toInt = 0 by omega]; decide); rw [et3] at q; have q2 := (lg_cmp_eq t2 0).mp q; rw [et2, et1] at q2; exact q2)⟩
    have hz8 : narrow .boolean (.int t5) = .int t5 := z_nz (by constructor <;> omega)
    exact W.zret (v := t5) hx hb hr hz8 (fun t ht hW => ⟨⟨t5, (), rfl, ⟨hq6, hq7⟩, ⟨by rw [ht]; exact hP, hD⟩⟩, hS.F ht⟩) hS.2.2 dX8_isIn_15
  ·
    have c4 := z_ne (i := t3.toInt) (j := 0) rfl (by decide) c4
    refine lv_iconst (v := 1) hx hb dX8_isIn_10 (by decide) ?_
    refine lv_goto (tgt := 15) hx hb dX8_isIn_11 (by decide) ?_
    rw [← hQ9]
    refine lv_topi (fun t9 et9 => ?_)
    have ht9 : t9.toInt = 1 := by rw [et9]; decide
    have hq10 : 0 ≤ t9.toInt ∧ t9.toInt ≤ 1 := by omega
    have hq11 : ((t9).toInt = 1 ∧ zBt p0 p2) ∨ ((t9).toInt = 0 ∧ ¬ zBt p0 p2) := Or.inl ⟨by omega, fun h => absurd (show t3.toInt = 0 from by rw [et3, (lg_cmp_eq t2 0).mpr (by rw [et2, et1]; exact h)]; decide) (by omega)⟩
    have hz12 : narrow .boolean (.int t9) = .int t9 := z_nz (by constructor <;> omega)
    exact W.zret (v := t9) hx hb hr hz12 (fun t ht hW => ⟨⟨t9, (), rfl, ⟨hq10, hq11⟩, ⟨by rw [ht]; exact hP, hD⟩⟩, hS.F ht⟩) hS.2.2 dX8_isIn_15

set_option maxHeartbeats 8000000 in
set_option maxRecDepth 100000 in
theorem c_X8_only_R (l : Launch) (D : va_G) (ca : Nat → ClassId) (sa : Nat → Nat) (A : Nat → Prop) (rest : va_W) (p0 : Int32) : Met l yX8_only wsX8_only ({ frames := 0, cells := 0, slots := 0, locals := 0 }) (va_Pc [.int p0] (zPre D ca sa A (rest))) (va_Ql (fun (r : Int64) (u : Unit) => (r = (1 : Int64) <<< (p0.toInt64 &&& 63))) (fun u t => zPost D A (rest) t) A) 0 0 A := by
  refine Met.ofW (cc := cX8_only) (maxL := 1) (ret := (some .long)) (by decide) rfl ?_
  intro p e s m args below meth c s₁ B hml hv9
  obtain ⟨rfl, hE, hP, hD⟩ := hv9
  have hx := B.exec
  have hb := B.bytes
  have hr := B.returns
  have hts := atoms_spec (ws := wsX8_only) B.pre
  have hown : s.vm.findClass RX8 = some m.cls := findClass_of_methodNamed B.named
  have hlocks := B.notSynchronized
  have hK := hE.1
  have hF : CallFix p m c cX8_only 1 s _ wsX8_only RX8 := ⟨hx, hb, hml, hown, hts⟩
  have hS : va_S A s.heap s.heap [] := va_S.rf
  generalize hHe : s.heap = H at hP
  have hS : va_S A s.heap H [] := by rw [← hHe]; exact hS
  have hl := lv_entry ([.int p0]) (n := 1) (Nat.le_of_ble_eq_true rfl)
  rw [lg_entry_eq]
  generalize (lg_sl ([.int p0]) ++ List.replicate (1 - (lg_sl ([.int p0])).length) Slot.unset).toArray = ls at hl ⊢
  have hl : lv_has ls 1 [(0, .int p0)] := hl
  generalize hQ9 : MQ below _ _ s 0 0 A = Q9
  refine lv_lconst (v := 1) hx hb dX8_only_0 (by decide) ?_
  refine lv_iload_n hx hb dX8_only_1 rfl (lv_at hl 0 rfl) ?_
  refine lv_lshl hx hb dX8_only_2 rfl ?_
  refine lv_topl (fun t1 et1 => ?_)
  rw [← hQ9]
  have hq2 : t1 = (1 : Int64) <<< (p0.toInt64 &&& 63) := et1
  exact W.lret (v := t1) hx hb hr (fun t ht hW => ⟨⟨t1, (), rfl, hq2, ⟨by rw [ht]; exact hP, hD⟩⟩, hS.F ht⟩) hS.2.2 dX8_only_3

set_option maxHeartbeats 8000000 in
set_option maxRecDepth 100000 in
theorem c_X1_addHang_R (l : Launch) (D : va_G) (ca : Nat → ClassId) (sa : Nat → Nat) (A : Nat → Prop) (rest : va_W) (r0 : Nat → Nat) (fi0 : Nat → Int32) (fl0 : Nat → Int64) (fa0 : Nat → Nat → Int32) (fb0 : Nat → Nat → Int64) (hv0 : Ok_CHG fi0 fa0) (p1 : Int32) (p2 : Int32) (hpre0 : 0 ≤ p1.toInt ∧ p1.toInt ≤ 59) : Met l yX1_addHang wsX1_addHang ({ frames := 1, cells := 0, slots := 0, locals := 20 }) (va_Pc [.ref (r0 0), .int p1, .int p2] (zPre D ca sa A (w_CHG ca r0 fi0 fl0 fa0 fb0 (rest)))) (va_Qi (fun (r : Int32) (u : zS) => Ok_CHG (zx [] fi0 u.1) (zx [6, 7] fa0 u.2.2.1) ∧ (((r).toInt = -3 ∧ 3 ≤ ((fa0 6) p1.toNatClampNeg).toInt ∧ (u.2.2.1 6) = (fa0 6) ∧ (u.2.2.1 7) = (fa0 7) ∧ (u.2.2.2 0) = (fb0 0)) ∨ (((fa0 6) p1.toNatClampNeg).toInt < 3 ∧ (r).toInt = ((fa0 6) p1.toNatClampNeg).toInt + 1 ∧ (u.2.2.1 7) = upd (fa0 7) (3 * p1.toNatClampNeg + ((fa0 6) p1.toNatClampNeg).toNatClampNeg) p2 ∧ (u.2.2.1 6) = upd (fa0 6) p1.toNatClampNeg r ∧ (u.2.2.2 0) = vp_updL (fb0 0) p1.toNatClampNeg ((fb0 0) p1.toNatClampNeg ||| ((1 : Int64) <<< (p2.toInt64 &&& 63)))))) (fun u t => zPost D A (w_CHG ca r0 (zx [] fi0 u.1) (zx [] fl0 u.2.1) (zx [6, 7] fa0 u.2.2.1) (zx [0] fb0 u.2.2.2) (rest)) t) A) 0 0 A := by
  refine Met.ofW (cc := cX1_addHang) (maxL := 4) (ret := (some .int)) (by decide) rfl ?_
  intro p e s m args below meth c s₁ B hml hv9
  obtain ⟨rfl, hE, hP, hD⟩ := hv9
  have hx := B.exec
  have hb := B.bytes
  have hr := B.returns
  have hts := atoms_spec (ws := wsX1_addHang) B.pre
  have hown : s.vm.findClass RX1 = some m.cls := findClass_of_methodNamed B.named
  have hlocks := B.notSynchronized
  have hK := hE.1
  have hF : CallFix p m c cX1_addHang 4 s _ wsX1_addHang RX1 := ⟨hx, hb, hml, hown, hts⟩
  have hS : va_S A s.heap s.heap [] := va_S.rf
  have lk34 := hts (.fieldLink RX1 34 "BranchPlay$Changes" "hangCount" "[I") (by decide +kernel)
  have inX1 : ∀ w ∈ wsX10, w ∈ wsX1_addHang := by decide +kernel
  have lk37 := hts (.fieldLink RX1 37 "BranchPlay$Changes" "hangs" "[I") (by decide +kernel)
  have lk40 := hts (.fieldLink RX1 40 "BranchPlay$Changes" "hangSet" "[J") (by decide +kernel)
  have liX8 := hts (.initialized RX8) (by decide +kernel)
  have lsX8_only := hts (.static yX8_only) (by decide +kernel)
  obtain ⟨⟨hv0i0, hv0j0⟩, hv0a6⟩ := hv0
  generalize hHe : s.heap = H at hP
  have hS : va_S A s.heap H [] := by rw [← hHe]; exact hS
  have hP : va_P D vwCl (((r0 0), .inr (1, [.int (fi0 0), .ref (r0 1), .ref (r0 2), .ref (r0 3), .ref (r0 4), .ref (r0 5), .ref (r0 6), .ref (r0 7), .ref (r0 8), .ref (r0 9), .long (fl0 0), .ref (r0 10)])) :: ((r0 1), .inl (ca 0, 60, .inl (fa0 0))) :: ((r0 2), .inl (ca 0, 60, .inl (fa0 1))) :: ((r0 3), .inl (ca 0, 60, .inl (fa0 2))) :: ((r0 4), .inl (ca 0, 60, .inl (fa0 3))) :: ((r0 5), .inl (ca 0, 60, .inl (fa0 4))) :: ((r0 6), .inl (ca 0, 60, .inl (fa0 5))) :: ((r0 7), .inl (ca 0, 60, .inl (fa0 6))) :: ((r0 8), .inl (ca 0, 180, .inl (fa0 7))) :: ((r0 9), .inl (ca 1, 60, .inr (.inl (fb0 0)))) :: ((r0 10), .inr (0, [.ref (r0 11)])) :: ((r0 11), .inl (ca 1, 400, .inr (.inl (fb0 1)))) :: rest) H := hP
  have hD : va_D A (((r0 0), .inr (1, [.int (fi0 0), .ref (r0 1), .ref (r0 2), .ref (r0 3), .ref (r0 4), .ref (r0 5), .ref (r0 6), .ref (r0 7), .ref (r0 8), .ref (r0 9), .long (fl0 0), .ref (r0 10)])) :: ((r0 1), .inl (ca 0, 60, .inl (fa0 0))) :: ((r0 2), .inl (ca 0, 60, .inl (fa0 1))) :: ((r0 3), .inl (ca 0, 60, .inl (fa0 2))) :: ((r0 4), .inl (ca 0, 60, .inl (fa0 3))) :: ((r0 5), .inl (ca 0, 60, .inl (fa0 4))) :: ((r0 6), .inl (ca 0, 60, .inl (fa0 5))) :: ((r0 7), .inl (ca 0, 60, .inl (fa0 6))) :: ((r0 8), .inl (ca 0, 180, .inl (fa0 7))) :: ((r0 9), .inl (ca 1, 60, .inr (.inl (fb0 0)))) :: ((r0 10), .inr (0, [.ref (r0 11)])) :: ((r0 11), .inl (ca 1, 400, .inr (.inl (fb0 1)))) :: rest) := hD
  have hl := lv_entry ([.ref (r0 0), .int p1, .int p2]) (n := 4) (Nat.le_of_ble_eq_true rfl)
  rw [lg_entry_eq]
  generalize (lg_sl ([.ref (r0 0), .int p1, .int p2]) ++ List.replicate (4 - (lg_sl ([.ref (r0 0), .int p1, .int p2])).length) Slot.unset).toArray = ls at hl ⊢
  have hl : lv_has ls 4 [(0, .ref (r0 0)), (1, .int p1), (2, .int p2)] := hl
  generalize hQ9 : MQ below _ _ s 0 0 A = Q9
  have hpc : (p1.toNatClampNeg : Int) = p1.toInt := by rw [z_cl]; omega
  refine lv_aload_n hx hb dX1_addHang_0 rfl (lv_at hl 0 rfl) ?_
  refine va_get (D := D) (ci := 1) (v := .ref (r0 7)) (C := RX1) (T := TX1) (N := 12) hx hb hts inX1 hown hK hP 0 rfl rfl 7 (by decide) lk34 (fun _ h9 => h9) rfl dX1_addHang_1 ?_
  refine lv_iload_n hx hb dX1_addHang_4 rfl (lv_at hl 1 rfl) ?_
  have hi1 : vp_in p1 60 := z_in (i := p1.toInt) rfl (by omega) (by omega)
  refine va_iald hx hb hK hP 7 0 rfl rfl hi1 dX1_addHang_5 ?_
  refine lv_topi (fun t2 et2 => ?_)
  have ht2v : t2.toInt = ((fa0 6) p1.toNatClampNeg).toInt := by rw [et2]
  have ht2 := z_at hv0a6 et2
  refine lv_istore_n (lv' := [(3, .int t2), (0, .ref (r0 0)), (1, .int p1), (2, .int p2)]) hx hb dX1_addHang_6 rfl hl (by decide) rfl (fun ls hl => ?_)
  refine lv_iload_n hx hb dX1_addHang_7 rfl (lv_at hl 0 rfl) ?_
  refine lv_iconst (v := 3) hx hb dX1_addHang_8 (by decide) ?_
  refine lv_icmp_lt (tgt := 15) hx hb dX1_addHang_9 (by decide) (fun c3 => ?_) (fun c3 => ?_)
  ·
    have c3 := z_lt (i := t2.toInt) (j := 3) rfl (by decide) c3
    refine lv_aload_n hx hb dX1_addHang_15 rfl (lv_at hl 1 rfl) ?_
    refine va_get (D := D) (ci := 1) (v := .ref (r0 8)) (C := RX1) (T := TX1) (N := 12) hx hb hts inX1 hown hK hP 0 rfl rfl 8 (by decide) lk37 (fun _ h9 => h9) rfl dX1_addHang_16 ?_
    refine lv_iload_n hx hb dX1_addHang_19 rfl (lv_at hl 2 rfl) ?_
    refine lv_iconst (v := 3) hx hb dX1_addHang_20 (by decide) ?_
    refine lv_imul hx hb dX1_addHang_21 ?_
    refine lv_topi (fun t4 et4 => ?_)
    try have ht4 : t4.toInt = p1.toInt * 3 := z_mul et4 rfl (by decide) (by omega -splitDisjunctions) (by omega -splitDisjunctions)
    refine lv_iload_n hx hb dX1_addHang_22 rfl (lv_at hl 0 rfl) ?_
    refine lv_iadd hx hb dX1_addHang_23 ?_
    refine lv_topi (fun t5 et5 => ?_)
    try have ht5 : t5.toInt = t4.toInt + t2.toInt := z_add et5 rfl rfl (by omega -splitDisjunctions) (by omega -splitDisjunctions)
    refine lv_iload_n hx hb dX1_addHang_24 rfl (lv_at hl 3 rfl) ?_
    have hi6 : vp_in t5 180 := z_in (i := t5.toInt) rfl (by omega) (by omega)
    refine va_iast hx hb hK hP hD hS 8 0 rfl rfl hi6 dX1_addHang_25 (fun H locs hP hD hS => ?_)
    generalize eg7 : upd (fa0 7) t5.toNatClampNeg p2 = g7 at hP hD
    have hP : va_P D vwCl (((r0 0), .inr (1, [.int (fi0 0), .ref (r0 1), .ref (r0 2), .ref (r0 3), .ref (r0 4), .ref (r0 5), .ref (r0 6), .ref (r0 7), .ref (r0 8), .ref (r0 9), .long (fl0 0), .ref (r0 10)])) :: ((r0 1), .inl (ca 0, 60, .inl (fa0 0))) :: ((r0 2), .inl (ca 0, 60, .inl (fa0 1))) :: ((r0 3), .inl (ca 0, 60, .inl (fa0 2))) :: ((r0 4), .inl (ca 0, 60, .inl (fa0 3))) :: ((r0 5), .inl (ca 0, 60, .inl (fa0 4))) :: ((r0 6), .inl (ca 0, 60, .inl (fa0 5))) :: ((r0 7), .inl (ca 0, 60, .inl (fa0 6))) :: ((r0 8), .inl (ca 0, 180, .inl g7)) :: ((r0 9), .inl (ca 1, 60, .inr (.inl (fb0 0)))) :: ((r0 10), .inr (0, [.ref (r0 11)])) :: ((r0 11), .inl (ca 1, 400, .inr (.inl (fb0 1)))) :: rest) H := hP
    have hD : va_D A (((r0 0), .inr (1, [.int (fi0 0), .ref (r0 1), .ref (r0 2), .ref (r0 3), .ref (r0 4), .ref (r0 5), .ref (r0 6), .ref (r0 7), .ref (r0 8), .ref (r0 9), .long (fl0 0), .ref (r0 10)])) :: ((r0 1), .inl (ca 0, 60, .inl (fa0 0))) :: ((r0 2), .inl (ca 0, 60, .inl (fa0 1))) :: ((r0 3), .inl (ca 0, 60, .inl (fa0 2))) :: ((r0 4), .inl (ca 0, 60, .inl (fa0 3))) :: ((r0 5), .inl (ca 0, 60, .inl (fa0 4))) :: ((r0 6), .inl (ca 0, 60, .inl (fa0 5))) :: ((r0 7), .inl (ca 0, 60, .inl (fa0 6))) :: ((r0 8), .inl (ca 0, 180, .inl g7)) :: ((r0 9), .inl (ca 1, 60, .inr (.inl (fb0 0)))) :: ((r0 10), .inr (0, [.ref (r0 11)])) :: ((r0 11), .inl (ca 1, 400, .inr (.inl (fb0 1)))) :: rest) := hD
    refine lv_aload_n hx hb dX1_addHang_26 rfl (lv_at hl 1 rfl) ?_
    refine va_get (D := D) (ci := 1) (v := .ref (r0 7)) (C := RX1) (T := TX1) (N := 12) hx hb hts inX1 hown hK hP 0 rfl rfl 7 (by decide) lk34 (fun _ h9 => h9) rfl dX1_addHang_27 ?_
    refine lv_iload_n hx hb dX1_addHang_30 rfl (lv_at hl 2 rfl) ?_
    refine lv_iload_n hx hb dX1_addHang_31 rfl (lv_at hl 0 rfl) ?_
    refine lv_iconst (v := 1) hx hb dX1_addHang_32 (by decide) ?_
    refine lv_iadd hx hb dX1_addHang_33 ?_
    refine lv_topi (fun t8 et8 => ?_)
    try have ht8 : t8.toInt = t2.toInt + 1 := z_add et8 rfl (by decide) (by omega -splitDisjunctions) (by omega -splitDisjunctions)
    have hi9 : vp_in p1 60 := z_in (i := p1.toInt) rfl (by omega) (by omega)
    refine va_iast hx hb hK hP hD hS 7 0 rfl rfl hi9 dX1_addHang_34 (fun H locs hP hD hS => ?_)
    generalize eg10 : upd (fa0 6) p1.toNatClampNeg t8 = g10 at hP hD
    have hg10 : z_rng 0 3 g10 := z_upd (i := t8.toInt) eg10.symm hv0a6 rfl (by omega) (by omega)
    have hP : va_P D vwCl (((r0 0), .inr (1, [.int (fi0 0), .ref (r0 1), .ref (r0 2), .ref (r0 3), .ref (r0 4), .ref (r0 5), .ref (r0 6), .ref (r0 7), .ref (r0 8), .ref (r0 9), .long (fl0 0), .ref (r0 10)])) :: ((r0 1), .inl (ca 0, 60, .inl (fa0 0))) :: ((r0 2), .inl (ca 0, 60, .inl (fa0 1))) :: ((r0 3), .inl (ca 0, 60, .inl (fa0 2))) :: ((r0 4), .inl (ca 0, 60, .inl (fa0 3))) :: ((r0 5), .inl (ca 0, 60, .inl (fa0 4))) :: ((r0 6), .inl (ca 0, 60, .inl (fa0 5))) :: ((r0 7), .inl (ca 0, 60, .inl g10)) :: ((r0 8), .inl (ca 0, 180, .inl g7)) :: ((r0 9), .inl (ca 1, 60, .inr (.inl (fb0 0)))) :: ((r0 10), .inr (0, [.ref (r0 11)])) :: ((r0 11), .inl (ca 1, 400, .inr (.inl (fb0 1)))) :: rest) H := hP
    have hD : va_D A (((r0 0), .inr (1, [.int (fi0 0), .ref (r0 1), .ref (r0 2), .ref (r0 3), .ref (r0 4), .ref (r0 5), .ref (r0 6), .ref (r0 7), .ref (r0 8), .ref (r0 9), .long (fl0 0), .ref (r0 10)])) :: ((r0 1), .inl (ca 0, 60, .inl (fa0 0))) :: ((r0 2), .inl (ca 0, 60, .inl (fa0 1))) :: ((r0 3), .inl (ca 0, 60, .inl (fa0 2))) :: ((r0 4), .inl (ca 0, 60, .inl (fa0 3))) :: ((r0 5), .inl (ca 0, 60, .inl (fa0 4))) :: ((r0 6), .inl (ca 0, 60, .inl (fa0 5))) :: ((r0 7), .inl (ca 0, 60, .inl g10)) :: ((r0 8), .inl (ca 0, 180, .inl g7)) :: ((r0 9), .inl (ca 1, 60, .inr (.inl (fb0 0)))) :: ((r0 10), .inr (0, [.ref (r0 11)])) :: ((r0 11), .inl (ca 1, 400, .inr (.inl (fb0 1)))) :: rest) := hD
    refine lv_aload_n hx hb dX1_addHang_35 rfl (lv_at hl 1 rfl) ?_
    refine va_get (D := D) (ci := 1) (v := .ref (r0 9)) (C := RX1) (T := TX1) (N := 12) hx hb hts inX1 hown hK hP 0 rfl rfl 9 (by decide) lk40 (fun _ h9 => h9) rfl dX1_addHang_36 ?_
    refine lv_iload_n hx hb dX1_addHang_39 rfl (lv_at hl 2 rfl) ?_
    refine lv_dup2_11 hx hb dX1_addHang_40 rfl rfl ?_
    have hi11 : vp_in p1 60 := z_in (i := p1.toInt) rfl (by omega) (by omega)
    refine va_lald hx hb hK hP 9 1 rfl rfl hi11 dX1_addHang_41 ?_
    refine lv_topl (fun t12 et12 => ?_)
    refine lv_iload_n hx hb dX1_addHang_42 rfl (lv_at hl 3 rfl) ?_
    refine z_lN (As := [.int p2]) (rest := [.long t12, .int p1, .ref (r0 9)]) (host := RX8) hF (c_X8_only_R l D ca sa A _ p2) ⟨va_cnB 1 hts ggX1_addHang_X8_only rfl rfl rfl (hE.2.1 _ (by decide +kernel)) liX8 (by decide +kernel) ⟨Nat.le_of_ble_eq_true rfl, Nat.le_of_ble_eq_true rfl⟩, lsX8_only, trivial⟩ hE hP hD hS rfl hl.1 rfl (Nat.le_of_ble_eq_true rfl) dX1_addHang_43 ⟨Nat.zero_le _, Nat.zero_le _⟩ (fun t14 u13 H locs hw15 hP hD hS => ?_)
    have hw15 : (t14 = (1 : Int64) <<< (p2.toInt64 &&& 63)) := hw15
    have hq16 := hw15
    clear hw15
    refine lv_lor hx hb dX1_addHang_46 ?_
    refine lv_topl (fun t17 et17 => ?_)
    have hi18 : vp_in p1 60 := z_in (i := p1.toInt) rfl (by omega) (by omega)
    refine va_last hx hb hK hP hD hS 9 1 rfl rfl hi18 dX1_addHang_47 (fun H locs hP hD hS => ?_)
    generalize eg19 : vp_updL (fb0 0) p1.toNatClampNeg t17 = g19 at hP hD
    have hP : va_P D vwCl (((r0 0), .inr (1, [.int (fi0 0), .ref (r0 1), .ref (r0 2), .ref (r0 3), .ref (r0 4), .ref (r0 5), .ref (r0 6), .ref (r0 7), .ref (r0 8), .ref (r0 9), .long (fl0 0), .ref (r0 10)])) :: ((r0 1), .inl (ca 0, 60, .inl (fa0 0))) :: ((r0 2), .inl (ca 0, 60, .inl (fa0 1))) :: ((r0 3), .inl (ca 0, 60, .inl (fa0 2))) :: ((r0 4), .inl (ca 0, 60, .inl (fa0 3))) :: ((r0 5), .inl (ca 0, 60, .inl (fa0 4))) :: ((r0 6), .inl (ca 0, 60, .inl (fa0 5))) :: ((r0 7), .inl (ca 0, 60, .inl g10)) :: ((r0 8), .inl (ca 0, 180, .inl g7)) :: ((r0 9), .inl (ca 1, 60, .inr (.inl g19))) :: ((r0 10), .inr (0, [.ref (r0 11)])) :: ((r0 11), .inl (ca 1, 400, .inr (.inl (fb0 1)))) :: rest) H := hP
    have hD : va_D A (((r0 0), .inr (1, [.int (fi0 0), .ref (r0 1), .ref (r0 2), .ref (r0 3), .ref (r0 4), .ref (r0 5), .ref (r0 6), .ref (r0 7), .ref (r0 8), .ref (r0 9), .long (fl0 0), .ref (r0 10)])) :: ((r0 1), .inl (ca 0, 60, .inl (fa0 0))) :: ((r0 2), .inl (ca 0, 60, .inl (fa0 1))) :: ((r0 3), .inl (ca 0, 60, .inl (fa0 2))) :: ((r0 4), .inl (ca 0, 60, .inl (fa0 3))) :: ((r0 5), .inl (ca 0, 60, .inl (fa0 4))) :: ((r0 6), .inl (ca 0, 60, .inl (fa0 5))) :: ((r0 7), .inl (ca 0, 60, .inl g10)) :: ((r0 8), .inl (ca 0, 180, .inl g7)) :: ((r0 9), .inl (ca 1, 60, .inr (.inl g19))) :: ((r0 10), .inr (0, [.ref (r0 11)])) :: ((r0 11), .inl (ca 1, 400, .inr (.inl (fb0 1)))) :: rest) := hD
    refine lv_iload_n hx hb dX1_addHang_48 rfl (lv_at hl 0 rfl) ?_
    refine lv_iconst (v := 1) hx hb dX1_addHang_49 (by decide) ?_
    refine lv_iadd hx hb dX1_addHang_50 ?_
    refine lv_topi (fun t20 et20 => ?_)
    try have ht20 : t20.toInt = t2.toInt + 1 := z_add et20 rfl (by decide) (by omega -splitDisjunctions) (by omega -splitDisjunctions)
    rw [← hQ9]
    have ho21 : (0 ≤ (fi0 0).toInt ∧ (fi0 0).toInt ≤ 60) ∧ z_rng 0 3 g10 := ⟨⟨by omega, by omega⟩, hg10⟩
    have hq22 : ((t20).toInt = -3 ∧ 3 ≤ ((fa0 6) p1.toNatClampNeg).toInt ∧ g10 = (fa0 6) ∧ g7 = (fa0 7) ∧ g19 = (fb0 0)) ∨ (((fa0 6) p1.toNatClampNeg).toInt < 3 ∧ (t20).toInt = ((fa0 6) p1.toNatClampNeg).toInt + 1 ∧ g7 = upd (fa0 7) (3 * p1.toNatClampNeg + ((fa0 6) p1.toNatClampNeg).toNatClampNeg) p2 ∧ g10 = upd (fa0 6) p1.toNatClampNeg t20 ∧ g19 = vp_updL (fb0 0) p1.toNatClampNeg ((fb0 0) p1.toNatClampNeg ||| ((1 : Int64) <<< (p2.toInt64 &&& 63)))) := Or.inr ⟨by omega, by omega, by rw [← eg7, show t5.toNatClampNeg = 3 * p1.toNatClampNeg + (fa0 6 p1.toNatClampNeg).toNatClampNeg from by (rw [z_cl t5, z_cl (fa0 6 p1.toNatClampNeg)]; omega)], by rw [← eg10, et8, et20], by rw [← eg19, et17, et12, hq16]⟩
    exact W.iret (v := t20) hx hb hr (fun t ht hW => ⟨⟨t20, ((zl 0 [(fi0 0)]), (zl 0 [(fl0 0)]), (zl (fun _ => 0) [(fa0 0), (fa0 1), (fa0 2), (fa0 3), (fa0 4), (fa0 5), g10, g7]), (zl (fun _ => 0) [g19, (fb0 1)])), rfl, ⟨ho21, hq22⟩, ⟨by rw [ht]; exact hP, hD⟩⟩, hS.F ht⟩) hS.2.2 dX1_addHang_51
  ·
    have c3 := z_nlt (i := t2.toInt) (j := 3) rfl (by decide) c3
    refine lv_bipush (v := (-3)) hx hb dX1_addHang_12 (by decide) ?_
    rw [← hQ9]
    refine lv_topi (fun t23 et23 => ?_)
    have ht23 : t23.toInt = (-3) := by rw [et23]; decide
    have ho24 : (0 ≤ (fi0 0).toInt ∧ (fi0 0).toInt ≤ 60) ∧ z_rng 0 3 (fa0 6) := ⟨⟨by omega, by omega⟩, hv0a6⟩
    have hq25 : ((t23).toInt = -3 ∧ 3 ≤ ((fa0 6) p1.toNatClampNeg).toInt ∧ (fa0 6) = (fa0 6) ∧ (fa0 7) = (fa0 7) ∧ (fb0 0) = (fb0 0)) ∨ (((fa0 6) p1.toNatClampNeg).toInt < 3 ∧ (t23).toInt = ((fa0 6) p1.toNatClampNeg).toInt + 1 ∧ (fa0 7) = upd (fa0 7) (3 * p1.toNatClampNeg + ((fa0 6) p1.toNatClampNeg).toNatClampNeg) p2 ∧ (fa0 6) = upd (fa0 6) p1.toNatClampNeg t23 ∧ (fb0 0) = vp_updL (fb0 0) p1.toNatClampNeg ((fb0 0) p1.toNatClampNeg ||| ((1 : Int64) <<< (p2.toInt64 &&& 63)))) := Or.inl ⟨by omega, by omega, rfl, rfl, rfl⟩
    exact W.iret (v := t23) hx hb hr (fun t ht hW => ⟨⟨t23, ((zl 0 [(fi0 0)]), (zl 0 [(fl0 0)]), (zl (fun _ => 0) [(fa0 0), (fa0 1), (fa0 2), (fa0 3), (fa0 4), (fa0 5), (fa0 6), (fa0 7)]), (zl (fun _ => 0) [(fb0 0), (fb0 1)])), rfl, ⟨ho24, hq25⟩, ⟨by rw [ht]; exact hP, hD⟩⟩, hS.F ht⟩) hS.2.2 dX1_addHang_14

set_option maxHeartbeats 8000000 in
set_option maxRecDepth 100000 in
theorem c_X8_hang_R (l : Launch) (D : va_G) (ca : Nat → ClassId) (sa : Nat → Nat) (A : Nat → Prop) (rest : va_W) (r0 : Nat → Nat) (r1 : Nat → Nat) (y0 : Nat) (y1 : Nat) (y2 : Nat) (y4 : Nat) (y5 : Nat) (y6 : Nat) (y7 : Nat) (fi0 : Nat → Int32) (fl0 : Nat → Int64) (fa0 : Nat → Nat → Int32) (fb0 : Nat → Nat → Int64) (hv0 : Ok_BP fi0 fa0) (fi1 : Nat → Int32) (fl1 : Nat → Int64) (fa1 : Nat → Nat → Int32) (fb1 : Nat → Nat → Int64) (hv1 : Ok_CHG fi1 fa1) (p1 : Int32) (p2 : Int32) : Met l yX8_hang wsX8_hang ({ frames := 2, cells := 0, slots := 0, locals := 43 }) (va_Pc [.ref (r0 0), .int p1, .int p2] (zPre D ca sa A (w_BP ca r0 y0 y1 y2 (r1 0) y4 y5 y6 y7 fi0 fl0 fa0 fb0 (w_CHG ca r1 fi1 fl1 fa1 fb1 (rest))))) (va_Qi (fun (r : Int32) (u : zS × zS) => Ok_BP u.1.1 u.1.2.2.1 ∧ Ok_CHG (zx [] fi1 u.2.1) (zx [6, 7] fa1 u.2.2.2.1) ∧ (((r).toInt = -2 ∧ ¬ (0 ≤ p2.toInt ∧ p2.toInt < p1.toInt ∧ p1.toInt < ((fi1 0)).toInt) ∧ (u.2.2.2.1 6) = (fa1 6) ∧ (u.2.2.2.1 7) = (fa1 7) ∧ (u.2.2.2.2 0) = (fb1 0)) ∨ ((0 ≤ p2.toInt ∧ p2.toInt < p1.toInt ∧ p1.toInt < ((fi1 0)).toInt) ∧ zBt ((fb1 0) p1.toNatClampNeg) p2 ∧ r = (fa1 6) p1.toNatClampNeg ∧ (u.2.2.2.1 6) = (fa1 6) ∧ (u.2.2.2.1 7) = (fa1 7) ∧ (u.2.2.2.2 0) = (fb1 0)) ∨ ((0 ≤ p2.toInt ∧ p2.toInt < p1.toInt ∧ p1.toInt < ((fi1 0)).toInt) ∧ ¬ zBt ((fb1 0) p1.toNatClampNeg) p2 ∧ (r).toInt = -3 ∧ 3 ≤ ((fa1 6) p1.toNatClampNeg).toInt ∧ (u.2.2.2.1 6) = (fa1 6) ∧ (u.2.2.2.1 7) = (fa1 7) ∧ (u.2.2.2.2 0) = (fb1 0)) ∨ ((0 ≤ p2.toInt ∧ p2.toInt < p1.toInt ∧ p1.toInt < ((fi1 0)).toInt) ∧ ¬ zBt ((fb1 0) p1.toNatClampNeg) p2 ∧ ((fa1 6) p1.toNatClampNeg).toInt < 3 ∧ (r).toInt = ((fa1 6) p1.toNatClampNeg).toInt + 1 ∧ (u.2.2.2.1 7) = upd (fa1 7) (3 * p1.toNatClampNeg + ((fa1 6) p1.toNatClampNeg).toNatClampNeg) p2 ∧ (u.2.2.2.1 6) = upd (fa1 6) p1.toNatClampNeg r ∧ (u.2.2.2.2 0) = vp_updL (fb1 0) p1.toNatClampNeg ((fb1 0) p1.toNatClampNeg ||| ((1 : Int64) <<< (p2.toInt64 &&& 63)))))) (fun u t => zPost D A (w_BP ca r0 y0 y1 y2 (r1 0) y4 y5 y6 y7 u.1.1 u.1.2.1 u.1.2.2.1 u.1.2.2.2 (w_CHG ca r1 (zx [] fi1 u.2.1) (zx [] fl1 u.2.2.1) (zx [6, 7] fa1 u.2.2.2.1) (zx [0] fb1 u.2.2.2.2) (rest))) t) A) 0 0 A := by
  refine Met.ofW (cc := cX8_hang) (maxL := 4) (ret := (some .int)) (by decide) rfl ?_
  intro p e s m args below meth c s₁ B hml hv9
  obtain ⟨rfl, hE, hP, hD⟩ := hv9
  have hx := B.exec
  have hb := B.bytes
  have hr := B.returns
  have hts := atoms_spec (ws := wsX8_hang) B.pre
  have hown : s.vm.findClass RX8 = some m.cls := findClass_of_methodNamed B.named
  have hlocks := B.notSynchronized
  have hK := hE.1
  have hF : CallFix p m c cX8_hang 4 s _ wsX8_hang RX8 := ⟨hx, hb, hml, hown, hts⟩
  have hS : va_S A s.heap s.heap [] := va_S.rf
  have lk39 := hts (.fieldLink RX8 39 "BranchPlay" "changes" "LBranchPlay$Changes;") (by decide +kernel)
  have inX8 : ∀ w ∈ wsX80, w ∈ wsX8_hang := by decide +kernel
  have lk101 := hts (.fieldLink RX8 101 "BranchPlay$Changes" "hangSet" "[J") (by decide +kernel)
  have inX1 : ∀ w ∈ wsX10, w ∈ wsX8_hang := by decide +kernel
  have lk65 := hts (.fieldLink RX8 65 "BranchPlay" "playedWay" "I") (by decide +kernel)
  have lk109 := hts (.fieldLink RX8 109 "BranchPlay$Changes" "hangCount" "[I") (by decide +kernel)
  obtain ⟨⟨hv1i0, hv1j0⟩, hv1a6⟩ := hv1
  generalize hHe : s.heap = H at hP
  have hS : va_S A s.heap H [] := by rw [← hHe]; exact hS
  have hP : va_P D vwCl (((r0 0), .inr (8, [.ref y0, .ref y1, .ref y2, .ref (r1 0), .ref y4, .ref y5, .ref y6, .ref y7, .int (fi0 0)])) :: ((r1 0), .inr (1, [.int (fi1 0), .ref (r1 1), .ref (r1 2), .ref (r1 3), .ref (r1 4), .ref (r1 5), .ref (r1 6), .ref (r1 7), .ref (r1 8), .ref (r1 9), .long (fl1 0), .ref (r1 10)])) :: ((r1 1), .inl (ca 0, 60, .inl (fa1 0))) :: ((r1 2), .inl (ca 0, 60, .inl (fa1 1))) :: ((r1 3), .inl (ca 0, 60, .inl (fa1 2))) :: ((r1 4), .inl (ca 0, 60, .inl (fa1 3))) :: ((r1 5), .inl (ca 0, 60, .inl (fa1 4))) :: ((r1 6), .inl (ca 0, 60, .inl (fa1 5))) :: ((r1 7), .inl (ca 0, 60, .inl (fa1 6))) :: ((r1 8), .inl (ca 0, 180, .inl (fa1 7))) :: ((r1 9), .inl (ca 1, 60, .inr (.inl (fb1 0)))) :: ((r1 10), .inr (0, [.ref (r1 11)])) :: ((r1 11), .inl (ca 1, 400, .inr (.inl (fb1 1)))) :: rest) H := hP
  have hD : va_D A (((r0 0), .inr (8, [.ref y0, .ref y1, .ref y2, .ref (r1 0), .ref y4, .ref y5, .ref y6, .ref y7, .int (fi0 0)])) :: ((r1 0), .inr (1, [.int (fi1 0), .ref (r1 1), .ref (r1 2), .ref (r1 3), .ref (r1 4), .ref (r1 5), .ref (r1 6), .ref (r1 7), .ref (r1 8), .ref (r1 9), .long (fl1 0), .ref (r1 10)])) :: ((r1 1), .inl (ca 0, 60, .inl (fa1 0))) :: ((r1 2), .inl (ca 0, 60, .inl (fa1 1))) :: ((r1 3), .inl (ca 0, 60, .inl (fa1 2))) :: ((r1 4), .inl (ca 0, 60, .inl (fa1 3))) :: ((r1 5), .inl (ca 0, 60, .inl (fa1 4))) :: ((r1 6), .inl (ca 0, 60, .inl (fa1 5))) :: ((r1 7), .inl (ca 0, 60, .inl (fa1 6))) :: ((r1 8), .inl (ca 0, 180, .inl (fa1 7))) :: ((r1 9), .inl (ca 1, 60, .inr (.inl (fb1 0)))) :: ((r1 10), .inr (0, [.ref (r1 11)])) :: ((r1 11), .inl (ca 1, 400, .inr (.inl (fb1 1)))) :: rest) := hD
  have hl := lv_entry ([.ref (r0 0), .int p1, .int p2]) (n := 4) (Nat.le_of_ble_eq_true rfl)
  rw [lg_entry_eq]
  generalize (lg_sl ([.ref (r0 0), .int p1, .int p2]) ++ List.replicate (4 - (lg_sl ([.ref (r0 0), .int p1, .int p2])).length) Slot.unset).toArray = ls at hl ⊢
  have hl : lv_has ls 4 [(0, .ref (r0 0)), (1, .int p1), (2, .int p2)] := hl
  generalize hQ9 : MQ below _ _ s 0 0 A = Q9
  refine lv_aload_n hx hb dX8_hang_0 rfl (lv_at hl 0 rfl) ?_
  refine va_get (D := D) (ci := 8) (v := .ref (r1 0)) (C := RX8) (T := TX8) (N := 9) hx hb hts inX8 hown hK hP 0 rfl rfl 3 (by decide) lk39 (fun _ h9 => h9) rfl dX8_hang_1 ?_
  refine lv_iload_n hx hb dX8_hang_4 rfl (lv_at hl 2 rfl) ?_
  refine lv_iload_n hx hb dX8_hang_5 rfl (lv_at hl 1 rfl) ?_
  have ho1 : (0 ≤ (fi1 0).toInt ∧ (fi1 0).toInt ≤ 60) ∧ z_rng 0 3 (fa1 6) := ⟨⟨by omega, by omega⟩, hv1a6⟩
  have hP9 := va_P.part (pl := rest) (X := [((r0 0), .inr (8, [.ref y0, .ref y1, .ref y2, .ref (r1 0), .ref y4, .ref y5, .ref y6, .ref y7, .int (fi0 0)])), ((r1 0), .inr (1, [.int (fi1 0), .ref (r1 1), .ref (r1 2), .ref (r1 3), .ref (r1 4), .ref (r1 5), .ref (r1 6), .ref (r1 7), .ref (r1 8), .ref (r1 9), .long (fl1 0), .ref (r1 10)])), ((r1 1), .inl (ca 0, 60, .inl (fa1 0))), ((r1 2), .inl (ca 0, 60, .inl (fa1 1))), ((r1 3), .inl (ca 0, 60, .inl (fa1 2))), ((r1 4), .inl (ca 0, 60, .inl (fa1 3))), ((r1 5), .inl (ca 0, 60, .inl (fa1 4))), ((r1 6), .inl (ca 0, 60, .inl (fa1 5))), ((r1 7), .inl (ca 0, 60, .inl (fa1 6))), ((r1 8), .inl (ca 0, 180, .inl (fa1 7))), ((r1 9), .inl (ca 1, 60, .inr (.inl (fb1 0)))), ((r1 10), .inr (0, [.ref (r1 11)])), ((r1 11), .inl (ca 1, 400, .inr (.inl (fb1 1))))]) (cx := [((r1 0), .inr (1, [.int (fi1 0), .ref (r1 1), .ref (r1 2), .ref (r1 3), .ref (r1 4), .ref (r1 5), .ref (r1 6), .ref (r1 7), .ref (r1 8), .ref (r1 9), .long (fl1 0), .ref (r1 10)])), ((r1 1), .inl (ca 0, 60, .inl (fa1 0))), ((r1 2), .inl (ca 0, 60, .inl (fa1 1))), ((r1 3), .inl (ca 0, 60, .inl (fa1 2))), ((r1 4), .inl (ca 0, 60, .inl (fa1 3))), ((r1 5), .inl (ca 0, 60, .inl (fa1 4))), ((r1 6), .inl (ca 0, 60, .inl (fa1 5))), ((r1 7), .inl (ca 0, 60, .inl (fa1 6))), ((r1 8), .inl (ca 0, 180, .inl (fa1 7))), ((r1 9), .inl (ca 1, 60, .inr (.inl (fb1 0)))), ((r1 10), .inr (0, [.ref (r1 11)])), ((r1 11), .inl (ca 1, 400, .inr (.inl (fb1 1)))), ((r0 0), .inr (8, [.ref y0, .ref y1, .ref y2, .ref (r1 0), .ref y4, .ref y5, .ref y6, .ref y7, .int (fi0 0)]))]) hP [1, 2, 3, 4, 5, 6, 7, 8, 9, 10, 11, 12, 0] rfl
  have hD9 := va_D.part (pl := rest) (X := [((r0 0), .inr (8, [.ref y0, .ref y1, .ref y2, .ref (r1 0), .ref y4, .ref y5, .ref y6, .ref y7, .int (fi0 0)])), ((r1 0), .inr (1, [.int (fi1 0), .ref (r1 1), .ref (r1 2), .ref (r1 3), .ref (r1 4), .ref (r1 5), .ref (r1 6), .ref (r1 7), .ref (r1 8), .ref (r1 9), .long (fl1 0), .ref (r1 10)])), ((r1 1), .inl (ca 0, 60, .inl (fa1 0))), ((r1 2), .inl (ca 0, 60, .inl (fa1 1))), ((r1 3), .inl (ca 0, 60, .inl (fa1 2))), ((r1 4), .inl (ca 0, 60, .inl (fa1 3))), ((r1 5), .inl (ca 0, 60, .inl (fa1 4))), ((r1 6), .inl (ca 0, 60, .inl (fa1 5))), ((r1 7), .inl (ca 0, 60, .inl (fa1 6))), ((r1 8), .inl (ca 0, 180, .inl (fa1 7))), ((r1 9), .inl (ca 1, 60, .inr (.inl (fb1 0)))), ((r1 10), .inr (0, [.ref (r1 11)])), ((r1 11), .inl (ca 1, 400, .inr (.inl (fb1 1))))]) (cx := [((r1 0), .inr (1, [.int (fi1 0), .ref (r1 1), .ref (r1 2), .ref (r1 3), .ref (r1 4), .ref (r1 5), .ref (r1 6), .ref (r1 7), .ref (r1 8), .ref (r1 9), .long (fl1 0), .ref (r1 10)])), ((r1 1), .inl (ca 0, 60, .inl (fa1 0))), ((r1 2), .inl (ca 0, 60, .inl (fa1 1))), ((r1 3), .inl (ca 0, 60, .inl (fa1 2))), ((r1 4), .inl (ca 0, 60, .inl (fa1 3))), ((r1 5), .inl (ca 0, 60, .inl (fa1 4))), ((r1 6), .inl (ca 0, 60, .inl (fa1 5))), ((r1 7), .inl (ca 0, 60, .inl (fa1 6))), ((r1 8), .inl (ca 0, 180, .inl (fa1 7))), ((r1 9), .inl (ca 1, 60, .inr (.inl (fb1 0)))), ((r1 10), .inr (0, [.ref (r1 11)])), ((r1 11), .inl (ca 1, 400, .inr (.inl (fb1 1)))), ((r0 0), .inr (8, [.ref y0, .ref y1, .ref y2, .ref (r1 0), .ref y4, .ref y5, .ref y6, .ref y7, .int (fi0 0)]))]) hD [1, 2, 3, 4, 5, 6, 7, 8, 9, 10, 11, 12, 0] (by decide) rfl
  refine z_iV (As := [.int p2, .int p1]) (rest := []) hF (c_X1_isLesser l D ca sa A (((r0 0), .inr (8, [.ref y0, .ref y1, .ref y2, .ref (r1 0), .ref y4, .ref y5, .ref y6, .ref y7, .int (fi0 0)])) :: rest) (zl 0 [(r1 0), (r1 1), (r1 2), (r1 3), (r1 4), (r1 5), (r1 6), (r1 7), (r1 8), (r1 9), (r1 10), (r1 11)]) (zl 0 [(fi1 0)]) (zl 0 [(fl1 0)]) (zl (fun _ => 0) [(fa1 0), (fa1 1), (fa1 2), (fa1 3), (fa1 4), (fa1 5), (fa1 6), (fa1 7)]) (zl (fun _ => 0) [(fb1 0), (fb1 1)]) ho1 p2 p1) (cwV 2 hts gX8_hang_X1_isLesser rfl rfl rfl (by decide +kernel) ⟨Nat.le_of_ble_eq_true rfl, Nat.le_of_ble_eq_true rfl⟩) hE hP9 hD9 hS 1 0 rfl rfl rfl hl.1 rfl (Nat.le_of_ble_eq_true rfl) dX8_hang_6 ⟨Nat.zero_le _, Nat.zero_le _⟩ (fun t3 u2 H locs hw4 hP hD hS => ?_)
  have hw4 : ((t3.toInt = 1 ∧ 0 ≤ p2.toInt ∧ p2.toInt < p1.toInt ∧ p1.toInt < (fi1 0).toInt) ∨ (t3.toInt = 0 ∧ (p2.toInt < 0 ∨ p1.toInt ≤ p2.toInt ∨ p1.toInt < 0 ∨ (fi1 0).toInt ≤ p1.toInt))) := hw4
  have hq5 := hw4
  clear hw4
  have hP := va_P.part (pl := rest) (X := [((r1 0), .inr (1, [.int (fi1 0), .ref (r1 1), .ref (r1 2), .ref (r1 3), .ref (r1 4), .ref (r1 5), .ref (r1 6), .ref (r1 7), .ref (r1 8), .ref (r1 9), .long (fl1 0), .ref (r1 10)])), ((r1 1), .inl (ca 0, 60, .inl (fa1 0))), ((r1 2), .inl (ca 0, 60, .inl (fa1 1))), ((r1 3), .inl (ca 0, 60, .inl (fa1 2))), ((r1 4), .inl (ca 0, 60, .inl (fa1 3))), ((r1 5), .inl (ca 0, 60, .inl (fa1 4))), ((r1 6), .inl (ca 0, 60, .inl (fa1 5))), ((r1 7), .inl (ca 0, 60, .inl (fa1 6))), ((r1 8), .inl (ca 0, 180, .inl (fa1 7))), ((r1 9), .inl (ca 1, 60, .inr (.inl (fb1 0)))), ((r1 10), .inr (0, [.ref (r1 11)])), ((r1 11), .inl (ca 1, 400, .inr (.inl (fb1 1)))), ((r0 0), .inr (8, [.ref y0, .ref y1, .ref y2, .ref (r1 0), .ref y4, .ref y5, .ref y6, .ref y7, .int (fi0 0)]))]) (cx := [((r0 0), .inr (8, [.ref y0, .ref y1, .ref y2, .ref (r1 0), .ref y4, .ref y5, .ref y6, .ref y7, .int (fi0 0)])), ((r1 0), .inr (1, [.int (fi1 0), .ref (r1 1), .ref (r1 2), .ref (r1 3), .ref (r1 4), .ref (r1 5), .ref (r1 6), .ref (r1 7), .ref (r1 8), .ref (r1 9), .long (fl1 0), .ref (r1 10)])), ((r1 1), .inl (ca 0, 60, .inl (fa1 0))), ((r1 2), .inl (ca 0, 60, .inl (fa1 1))), ((r1 3), .inl (ca 0, 60, .inl (fa1 2))), ((r1 4), .inl (ca 0, 60, .inl (fa1 3))), ((r1 5), .inl (ca 0, 60, .inl (fa1 4))), ((r1 6), .inl (ca 0, 60, .inl (fa1 5))), ((r1 7), .inl (ca 0, 60, .inl (fa1 6))), ((r1 8), .inl (ca 0, 180, .inl (fa1 7))), ((r1 9), .inl (ca 1, 60, .inr (.inl (fb1 0)))), ((r1 10), .inr (0, [.ref (r1 11)])), ((r1 11), .inl (ca 1, 400, .inr (.inl (fb1 1))))]) hP [12, 0, 1, 2, 3, 4, 5, 6, 7, 8, 9, 10, 11] rfl
  have hD := va_D.part (pl := rest) (X := [((r1 0), .inr (1, [.int (fi1 0), .ref (r1 1), .ref (r1 2), .ref (r1 3), .ref (r1 4), .ref (r1 5), .ref (r1 6), .ref (r1 7), .ref (r1 8), .ref (r1 9), .long (fl1 0), .ref (r1 10)])), ((r1 1), .inl (ca 0, 60, .inl (fa1 0))), ((r1 2), .inl (ca 0, 60, .inl (fa1 1))), ((r1 3), .inl (ca 0, 60, .inl (fa1 2))), ((r1 4), .inl (ca 0, 60, .inl (fa1 3))), ((r1 5), .inl (ca 0, 60, .inl (fa1 4))), ((r1 6), .inl (ca 0, 60, .inl (fa1 5))), ((r1 7), .inl (ca 0, 60, .inl (fa1 6))), ((r1 8), .inl (ca 0, 180, .inl (fa1 7))), ((r1 9), .inl (ca 1, 60, .inr (.inl (fb1 0)))), ((r1 10), .inr (0, [.ref (r1 11)])), ((r1 11), .inl (ca 1, 400, .inr (.inl (fb1 1)))), ((r0 0), .inr (8, [.ref y0, .ref y1, .ref y2, .ref (r1 0), .ref y4, .ref y5, .ref y6, .ref y7, .int (fi0 0)]))]) (cx := [((r0 0), .inr (8, [.ref y0, .ref y1, .ref y2, .ref (r1 0), .ref y4, .ref y5, .ref y6, .ref y7, .int (fi0 0)])), ((r1 0), .inr (1, [.int (fi1 0), .ref (r1 1), .ref (r1 2), .ref (r1 3), .ref (r1 4), .ref (r1 5), .ref (r1 6), .ref (r1 7), .ref (r1 8), .ref (r1 9), .long (fl1 0), .ref (r1 10)])), ((r1 1), .inl (ca 0, 60, .inl (fa1 0))), ((r1 2), .inl (ca 0, 60, .inl (fa1 1))), ((r1 3), .inl (ca 0, 60, .inl (fa1 2))), ((r1 4), .inl (ca 0, 60, .inl (fa1 3))), ((r1 5), .inl (ca 0, 60, .inl (fa1 4))), ((r1 6), .inl (ca 0, 60, .inl (fa1 5))), ((r1 7), .inl (ca 0, 60, .inl (fa1 6))), ((r1 8), .inl (ca 0, 180, .inl (fa1 7))), ((r1 9), .inl (ca 1, 60, .inr (.inl (fb1 0)))), ((r1 10), .inr (0, [.ref (r1 11)])), ((r1 11), .inl (ca 1, 400, .inr (.inl (fb1 1))))]) hD [12, 0, 1, 2, 3, 4, 5, 6, 7, 8, 9, 10, 11] (by decide) rfl
  have hP : va_P D vwCl (((r0 0), .inr (8, [.ref y0, .ref y1, .ref y2, .ref (r1 0), .ref y4, .ref y5, .ref y6, .ref y7, .int (fi0 0)])) :: ((r1 0), .inr (1, [.int (fi1 0), .ref (r1 1), .ref (r1 2), .ref (r1 3), .ref (r1 4), .ref (r1 5), .ref (r1 6), .ref (r1 7), .ref (r1 8), .ref (r1 9), .long (fl1 0), .ref (r1 10)])) :: ((r1 1), .inl (ca 0, 60, .inl (fa1 0))) :: ((r1 2), .inl (ca 0, 60, .inl (fa1 1))) :: ((r1 3), .inl (ca 0, 60, .inl (fa1 2))) :: ((r1 4), .inl (ca 0, 60, .inl (fa1 3))) :: ((r1 5), .inl (ca 0, 60, .inl (fa1 4))) :: ((r1 6), .inl (ca 0, 60, .inl (fa1 5))) :: ((r1 7), .inl (ca 0, 60, .inl (fa1 6))) :: ((r1 8), .inl (ca 0, 180, .inl (fa1 7))) :: ((r1 9), .inl (ca 1, 60, .inr (.inl (fb1 0)))) :: ((r1 10), .inr (0, [.ref (r1 11)])) :: ((r1 11), .inl (ca 1, 400, .inr (.inl (fb1 1)))) :: rest) H := hP
  have hD : va_D A (((r0 0), .inr (8, [.ref y0, .ref y1, .ref y2, .ref (r1 0), .ref y4, .ref y5, .ref y6, .ref y7, .int (fi0 0)])) :: ((r1 0), .inr (1, [.int (fi1 0), .ref (r1 1), .ref (r1 2), .ref (r1 3), .ref (r1 4), .ref (r1 5), .ref (r1 6), .ref (r1 7), .ref (r1 8), .ref (r1 9), .long (fl1 0), .ref (r1 10)])) :: ((r1 1), .inl (ca 0, 60, .inl (fa1 0))) :: ((r1 2), .inl (ca 0, 60, .inl (fa1 1))) :: ((r1 3), .inl (ca 0, 60, .inl (fa1 2))) :: ((r1 4), .inl (ca 0, 60, .inl (fa1 3))) :: ((r1 5), .inl (ca 0, 60, .inl (fa1 4))) :: ((r1 6), .inl (ca 0, 60, .inl (fa1 5))) :: ((r1 7), .inl (ca 0, 60, .inl (fa1 6))) :: ((r1 8), .inl (ca 0, 180, .inl (fa1 7))) :: ((r1 9), .inl (ca 1, 60, .inr (.inl (fb1 0)))) :: ((r1 10), .inr (0, [.ref (r1 11)])) :: ((r1 11), .inl (ca 1, 400, .inr (.inl (fb1 1)))) :: rest) := hD
  refine lv_if_ne (tgt := 15) hx hb dX8_hang_9 (by decide) (fun c6 => ?_) (fun c6 => ?_)
  ·
    have c6 := z_ne (i := t3.toInt) (j := 0) rfl (by decide) c6
    refine lv_aload_n hx hb dX8_hang_15 rfl (lv_at hl 0 rfl) ?_
    refine va_get (D := D) (ci := 8) (v := .ref (r1 0)) (C := RX8) (T := TX8) (N := 9) hx hb hts inX8 hown hK hP 0 rfl rfl 3 (by decide) lk39 (fun _ h9 => h9) rfl dX8_hang_16 ?_
    refine va_get (D := D) (ci := 1) (v := .ref (r1 9)) (C := RX1) (T := TX1) (N := 12) hx hb hts inX1 hown hK hP 1 rfl rfl 9 (by decide) lk101 (fun _ h9 => h9) rfl dX8_hang_19 ?_
    refine lv_iload_n hx hb dX8_hang_22 rfl (lv_at hl 1 rfl) ?_
    have hi7 : vp_in p1 60 := z_in (i := p1.toInt) rfl (by omega) (by omega)
    refine va_lald hx hb hK hP 10 1 rfl rfl hi7 dX8_hang_23 ?_
    refine lv_topl (fun t8 et8 => ?_)
    refine lv_iload_n hx hb dX8_hang_24 rfl (lv_at hl 2 rfl) ?_
    refine z_iS (As := [.long t8, .int p2]) (rest := []) hF (c_X8_isIn_R l D ca sa A _ t8 p2) (va_cwS 2 hts gX8_hang_X8_isIn rfl rfl rfl (by decide +kernel) ⟨Nat.le_of_ble_eq_true rfl, Nat.le_of_ble_eq_true rfl⟩) hE hP hD hS rfl hl.1 rfl (Nat.le_of_ble_eq_true rfl) dX8_hang_25 ⟨Nat.zero_le _, Nat.zero_le _⟩ (fun t10 u9 H locs hw11 hP hD hS => ?_)
    have hw11 : (0 ≤ t10.toInt ∧ t10.toInt ≤ 1) ∧ (((t10).toInt = 1 ∧ zBt t8 p2) ∨ ((t10).toInt = 0 ∧ ¬ zBt t8 p2)) := hw11
    obtain ⟨hq12, hq13⟩ := hw11
    have hbi : (t10.toInt = 1 ∧ zBt ((fb1 0) p1.toNatClampNeg) p2) ∨ (t10.toInt = 0 ∧ ¬ zBt ((fb1 0) p1.toNatClampNeg) p2) := by rw [← et8]; exact hq13
    refine lv_if_eq (tgt := 41) hx hb dX8_hang_28 (by decide) (fun c14 => ?_) (fun c14 => ?_)
    ·
      have c14 := z_eq (i := t10.toInt) (j := 0) rfl (by decide) c14
      refine lv_aload_n hx hb dX8_hang_41 rfl (lv_at hl 0 rfl) ?_
      refine va_get (D := D) (ci := 8) (v := .ref (r1 0)) (C := RX8) (T := TX8) (N := 9) hx hb hts inX8 hown hK hP 0 rfl rfl 3 (by decide) lk39 (fun _ h9 => h9) rfl dX8_hang_42 ?_
      refine lv_iload_n hx hb dX8_hang_45 rfl (lv_at hl 1 rfl) ?_
      refine lv_iload_n hx hb dX8_hang_46 rfl (lv_at hl 2 rfl) ?_
      have ho15 : (0 ≤ (fi1 0).toInt ∧ (fi1 0).toInt ≤ 60) ∧ z_rng 0 3 (fa1 6) := ⟨⟨by omega, by omega⟩, hv1a6⟩
      have hp16 : 0 ≤ p1.toInt ∧ p1.toInt ≤ 59 := by omega
      have hP9 := va_P.part (pl := rest) (X := [((r0 0), .inr (8, [.ref y0, .ref y1, .ref y2, .ref (r1 0), .ref y4, .ref y5, .ref y6, .ref y7, .int (fi0 0)])), ((r1 0), .inr (1, [.int (fi1 0), .ref (r1 1), .ref (r1 2), .ref (r1 3), .ref (r1 4), .ref (r1 5), .ref (r1 6), .ref (r1 7), .ref (r1 8), .ref (r1 9), .long (fl1 0), .ref (r1 10)])), ((r1 1), .inl (ca 0, 60, .inl (fa1 0))), ((r1 2), .inl (ca 0, 60, .inl (fa1 1))), ((r1 3), .inl (ca 0, 60, .inl (fa1 2))), ((r1 4), .inl (ca 0, 60, .inl (fa1 3))), ((r1 5), .inl (ca 0, 60, .inl (fa1 4))), ((r1 6), .inl (ca 0, 60, .inl (fa1 5))), ((r1 7), .inl (ca 0, 60, .inl (fa1 6))), ((r1 8), .inl (ca 0, 180, .inl (fa1 7))), ((r1 9), .inl (ca 1, 60, .inr (.inl (fb1 0)))), ((r1 10), .inr (0, [.ref (r1 11)])), ((r1 11), .inl (ca 1, 400, .inr (.inl (fb1 1))))]) (cx := [((r1 0), .inr (1, [.int (fi1 0), .ref (r1 1), .ref (r1 2), .ref (r1 3), .ref (r1 4), .ref (r1 5), .ref (r1 6), .ref (r1 7), .ref (r1 8), .ref (r1 9), .long (fl1 0), .ref (r1 10)])), ((r1 1), .inl (ca 0, 60, .inl (fa1 0))), ((r1 2), .inl (ca 0, 60, .inl (fa1 1))), ((r1 3), .inl (ca 0, 60, .inl (fa1 2))), ((r1 4), .inl (ca 0, 60, .inl (fa1 3))), ((r1 5), .inl (ca 0, 60, .inl (fa1 4))), ((r1 6), .inl (ca 0, 60, .inl (fa1 5))), ((r1 7), .inl (ca 0, 60, .inl (fa1 6))), ((r1 8), .inl (ca 0, 180, .inl (fa1 7))), ((r1 9), .inl (ca 1, 60, .inr (.inl (fb1 0)))), ((r1 10), .inr (0, [.ref (r1 11)])), ((r1 11), .inl (ca 1, 400, .inr (.inl (fb1 1)))), ((r0 0), .inr (8, [.ref y0, .ref y1, .ref y2, .ref (r1 0), .ref y4, .ref y5, .ref y6, .ref y7, .int (fi0 0)]))]) hP [1, 2, 3, 4, 5, 6, 7, 8, 9, 10, 11, 12, 0] rfl
      have hD9 := va_D.part (pl := rest) (X := [((r0 0), .inr (8, [.ref y0, .ref y1, .ref y2, .ref (r1 0), .ref y4, .ref y5, .ref y6, .ref y7, .int (fi0 0)])), ((r1 0), .inr (1, [.int (fi1 0), .ref (r1 1), .ref (r1 2), .ref (r1 3), .ref (r1 4), .ref (r1 5), .ref (r1 6), .ref (r1 7), .ref (r1 8), .ref (r1 9), .long (fl1 0), .ref (r1 10)])), ((r1 1), .inl (ca 0, 60, .inl (fa1 0))), ((r1 2), .inl (ca 0, 60, .inl (fa1 1))), ((r1 3), .inl (ca 0, 60, .inl (fa1 2))), ((r1 4), .inl (ca 0, 60, .inl (fa1 3))), ((r1 5), .inl (ca 0, 60, .inl (fa1 4))), ((r1 6), .inl (ca 0, 60, .inl (fa1 5))), ((r1 7), .inl (ca 0, 60, .inl (fa1 6))), ((r1 8), .inl (ca 0, 180, .inl (fa1 7))), ((r1 9), .inl (ca 1, 60, .inr (.inl (fb1 0)))), ((r1 10), .inr (0, [.ref (r1 11)])), ((r1 11), .inl (ca 1, 400, .inr (.inl (fb1 1))))]) (cx := [((r1 0), .inr (1, [.int (fi1 0), .ref (r1 1), .ref (r1 2), .ref (r1 3), .ref (r1 4), .ref (r1 5), .ref (r1 6), .ref (r1 7), .ref (r1 8), .ref (r1 9), .long (fl1 0), .ref (r1 10)])), ((r1 1), .inl (ca 0, 60, .inl (fa1 0))), ((r1 2), .inl (ca 0, 60, .inl (fa1 1))), ((r1 3), .inl (ca 0, 60, .inl (fa1 2))), ((r1 4), .inl (ca 0, 60, .inl (fa1 3))), ((r1 5), .inl (ca 0, 60, .inl (fa1 4))), ((r1 6), .inl (ca 0, 60, .inl (fa1 5))), ((r1 7), .inl (ca 0, 60, .inl (fa1 6))), ((r1 8), .inl (ca 0, 180, .inl (fa1 7))), ((r1 9), .inl (ca 1, 60, .inr (.inl (fb1 0)))), ((r1 10), .inr (0, [.ref (r1 11)])), ((r1 11), .inl (ca 1, 400, .inr (.inl (fb1 1)))), ((r0 0), .inr (8, [.ref y0, .ref y1, .ref y2, .ref (r1 0), .ref y4, .ref y5, .ref y6, .ref y7, .int (fi0 0)]))]) hD [1, 2, 3, 4, 5, 6, 7, 8, 9, 10, 11, 12, 0] (by decide) rfl
      refine z_iV (As := [.int p1, .int p2]) (rest := []) hF (c_X1_addHang_R l D ca sa A (((r0 0), .inr (8, [.ref y0, .ref y1, .ref y2, .ref (r1 0), .ref y4, .ref y5, .ref y6, .ref y7, .int (fi0 0)])) :: rest) (zl 0 [(r1 0), (r1 1), (r1 2), (r1 3), (r1 4), (r1 5), (r1 6), (r1 7), (r1 8), (r1 9), (r1 10), (r1 11)]) (zl 0 [(fi1 0)]) (zl 0 [(fl1 0)]) (zl (fun _ => 0) [(fa1 0), (fa1 1), (fa1 2), (fa1 3), (fa1 4), (fa1 5), (fa1 6), (fa1 7)]) (zl (fun _ => 0) [(fb1 0), (fb1 1)]) ho15 p1 p2 hp16) (cwV 2 hts gX8_hang_X1_addHang rfl rfl rfl (by decide +kernel) ⟨Nat.le_of_ble_eq_true rfl, Nat.le_of_ble_eq_true rfl⟩) hE hP9 hD9 hS 1 0 rfl rfl rfl hl.1 rfl (Nat.le_of_ble_eq_true rfl) dX8_hang_47 ⟨Nat.zero_le _, Nat.zero_le _⟩ (fun t18 u17 H locs hw19 hP hD hS => ?_)
      obtain ⟨im20, lm20, am20, bm20⟩ := u17
      have hw19 : ((0 ≤ (fi1 0).toInt ∧ (fi1 0).toInt ≤ 60) ∧ z_rng 0 3 (am20 6)) ∧ (((t18).toInt = -3 ∧ 3 ≤ ((fa1 6) p1.toNatClampNeg).toInt ∧ (am20 6) = (fa1 6) ∧ (am20 7) = (fa1 7) ∧ (bm20 0) = (fb1 0)) ∨ (((fa1 6) p1.toNatClampNeg).toInt < 3 ∧ (t18).toInt = ((fa1 6) p1.toNatClampNeg).toInt + 1 ∧ (am20 7) = upd (fa1 7) (3 * p1.toNatClampNeg + ((fa1 6) p1.toNatClampNeg).toNatClampNeg) p2 ∧ (am20 6) = upd (fa1 6) p1.toNatClampNeg t18 ∧ (bm20 0) = vp_updL (fb1 0) p1.toNatClampNeg ((fb1 0) p1.toNatClampNeg ||| ((1 : Int64) <<< (p2.toInt64 &&& 63))))) := hw19
      obtain ⟨⟨-, hm20a6⟩, hq21⟩ := hw19
      have hP := va_P.part (pl := rest) (X := [((r1 0), .inr (1, [.int (fi1 0), .ref (r1 1), .ref (r1 2), .ref (r1 3), .ref (r1 4), .ref (r1 5), .ref (r1 6), .ref (r1 7), .ref (r1 8), .ref (r1 9), .long (fl1 0), .ref (r1 10)])), ((r1 1), .inl (ca 0, 60, .inl (fa1 0))), ((r1 2), .inl (ca 0, 60, .inl (fa1 1))), ((r1 3), .inl (ca 0, 60, .inl (fa1 2))), ((r1 4), .inl (ca 0, 60, .inl (fa1 3))), ((r1 5), .inl (ca 0, 60, .inl (fa1 4))), ((r1 6), .inl (ca 0, 60, .inl (fa1 5))), ((r1 7), .inl (ca 0, 60, .inl (am20 6))), ((r1 8), .inl (ca 0, 180, .inl (am20 7))), ((r1 9), .inl (ca 1, 60, .inr (.inl (bm20 0)))), ((r1 10), .inr (0, [.ref (r1 11)])), ((r1 11), .inl (ca 1, 400, .inr (.inl (fb1 1)))), ((r0 0), .inr (8, [.ref y0, .ref y1, .ref y2, .ref (r1 0), .ref y4, .ref y5, .ref y6, .ref y7, .int (fi0 0)]))]) (cx := [((r0 0), .inr (8, [.ref y0, .ref y1, .ref y2, .ref (r1 0), .ref y4, .ref y5, .ref y6, .ref y7, .int (fi0 0)])), ((r1 0), .inr (1, [.int (fi1 0), .ref (r1 1), .ref (r1 2), .ref (r1 3), .ref (r1 4), .ref (r1 5), .ref (r1 6), .ref (r1 7), .ref (r1 8), .ref (r1 9), .long (fl1 0), .ref (r1 10)])), ((r1 1), .inl (ca 0, 60, .inl (fa1 0))), ((r1 2), .inl (ca 0, 60, .inl (fa1 1))), ((r1 3), .inl (ca 0, 60, .inl (fa1 2))), ((r1 4), .inl (ca 0, 60, .inl (fa1 3))), ((r1 5), .inl (ca 0, 60, .inl (fa1 4))), ((r1 6), .inl (ca 0, 60, .inl (fa1 5))), ((r1 7), .inl (ca 0, 60, .inl (am20 6))), ((r1 8), .inl (ca 0, 180, .inl (am20 7))), ((r1 9), .inl (ca 1, 60, .inr (.inl (bm20 0)))), ((r1 10), .inr (0, [.ref (r1 11)])), ((r1 11), .inl (ca 1, 400, .inr (.inl (fb1 1))))]) hP [12, 0, 1, 2, 3, 4, 5, 6, 7, 8, 9, 10, 11] rfl
      have hD := va_D.part (pl := rest) (X := [((r1 0), .inr (1, [.int (fi1 0), .ref (r1 1), .ref (r1 2), .ref (r1 3), .ref (r1 4), .ref (r1 5), .ref (r1 6), .ref (r1 7), .ref (r1 8), .ref (r1 9), .long (fl1 0), .ref (r1 10)])), ((r1 1), .inl (ca 0, 60, .inl (fa1 0))), ((r1 2), .inl (ca 0, 60, .inl (fa1 1))), ((r1 3), .inl (ca 0, 60, .inl (fa1 2))), ((r1 4), .inl (ca 0, 60, .inl (fa1 3))), ((r1 5), .inl (ca 0, 60, .inl (fa1 4))), ((r1 6), .inl (ca 0, 60, .inl (fa1 5))), ((r1 7), .inl (ca 0, 60, .inl (am20 6))), ((r1 8), .inl (ca 0, 180, .inl (am20 7))), ((r1 9), .inl (ca 1, 60, .inr (.inl (bm20 0)))), ((r1 10), .inr (0, [.ref (r1 11)])), ((r1 11), .inl (ca 1, 400, .inr (.inl (fb1 1)))), ((r0 0), .inr (8, [.ref y0, .ref y1, .ref y2, .ref (r1 0), .ref y4, .ref y5, .ref y6, .ref y7, .int (fi0 0)]))]) (cx := [((r0 0), .inr (8, [.ref y0, .ref y1, .ref y2, .ref (r1 0), .ref y4, .ref y5, .ref y6, .ref y7, .int (fi0 0)])), ((r1 0), .inr (1, [.int (fi1 0), .ref (r1 1), .ref (r1 2), .ref (r1 3), .ref (r1 4), .ref (r1 5), .ref (r1 6), .ref (r1 7), .ref (r1 8), .ref (r1 9), .long (fl1 0), .ref (r1 10)])), ((r1 1), .inl (ca 0, 60, .inl (fa1 0))), ((r1 2), .inl (ca 0, 60, .inl (fa1 1))), ((r1 3), .inl (ca 0, 60, .inl (fa1 2))), ((r1 4), .inl (ca 0, 60, .inl (fa1 3))), ((r1 5), .inl (ca 0, 60, .inl (fa1 4))), ((r1 6), .inl (ca 0, 60, .inl (fa1 5))), ((r1 7), .inl (ca 0, 60, .inl (am20 6))), ((r1 8), .inl (ca 0, 180, .inl (am20 7))), ((r1 9), .inl (ca 1, 60, .inr (.inl (bm20 0)))), ((r1 10), .inr (0, [.ref (r1 11)])), ((r1 11), .inl (ca 1, 400, .inr (.inl (fb1 1))))]) hD [12, 0, 1, 2, 3, 4, 5, 6, 7, 8, 9, 10, 11] (by decide) rfl
      have hP : va_P D vwCl (((r0 0), .inr (8, [.ref y0, .ref y1, .ref y2, .ref (r1 0), .ref y4, .ref y5, .ref y6, .ref y7, .int (fi0 0)])) :: ((r1 0), .inr (1, [.int (fi1 0), .ref (r1 1), .ref (r1 2), .ref (r1 3), .ref (r1 4), .ref (r1 5), .ref (r1 6), .ref (r1 7), .ref (r1 8), .ref (r1 9), .long (fl1 0), .ref (r1 10)])) :: ((r1 1), .inl (ca 0, 60, .inl (fa1 0))) :: ((r1 2), .inl (ca 0, 60, .inl (fa1 1))) :: ((r1 3), .inl (ca 0, 60, .inl (fa1 2))) :: ((r1 4), .inl (ca 0, 60, .inl (fa1 3))) :: ((r1 5), .inl (ca 0, 60, .inl (fa1 4))) :: ((r1 6), .inl (ca 0, 60, .inl (fa1 5))) :: ((r1 7), .inl (ca 0, 60, .inl (am20 6))) :: ((r1 8), .inl (ca 0, 180, .inl (am20 7))) :: ((r1 9), .inl (ca 1, 60, .inr (.inl (bm20 0)))) :: ((r1 10), .inr (0, [.ref (r1 11)])) :: ((r1 11), .inl (ca 1, 400, .inr (.inl (fb1 1)))) :: rest) H := hP
      have hD : va_D A (((r0 0), .inr (8, [.ref y0, .ref y1, .ref y2, .ref (r1 0), .ref y4, .ref y5, .ref y6, .ref y7, .int (fi0 0)])) :: ((r1 0), .inr (1, [.int (fi1 0), .ref (r1 1), .ref (r1 2), .ref (r1 3), .ref (r1 4), .ref (r1 5), .ref (r1 6), .ref (r1 7), .ref (r1 8), .ref (r1 9), .long (fl1 0), .ref (r1 10)])) :: ((r1 1), .inl (ca 0, 60, .inl (fa1 0))) :: ((r1 2), .inl (ca 0, 60, .inl (fa1 1))) :: ((r1 3), .inl (ca 0, 60, .inl (fa1 2))) :: ((r1 4), .inl (ca 0, 60, .inl (fa1 3))) :: ((r1 5), .inl (ca 0, 60, .inl (fa1 4))) :: ((r1 6), .inl (ca 0, 60, .inl (fa1 5))) :: ((r1 7), .inl (ca 0, 60, .inl (am20 6))) :: ((r1 8), .inl (ca 0, 180, .inl (am20 7))) :: ((r1 9), .inl (ca 1, 60, .inr (.inl (bm20 0)))) :: ((r1 10), .inr (0, [.ref (r1 11)])) :: ((r1 11), .inl (ca 1, 400, .inr (.inl (fb1 1)))) :: rest) := hD
      refine lv_istore_n (lv' := [(3, .int t18), (0, .ref (r0 0)), (1, .int p1), (2, .int p2)]) hx hb dX8_hang_50 rfl hl (by decide) rfl (fun ls hl => ?_)
      refine lv_iload_n hx hb dX8_hang_51 rfl (lv_at hl 0 rfl) ?_
      refine lv_if_lt (tgt := 60) hx hb dX8_hang_52 (by decide) (fun c22 => ?_) (fun c22 => ?_)
      ·
        have c22 := z_lt (i := t18.toInt) (j := 0) rfl (by decide) c22
        refine lv_iload_n hx hb dX8_hang_60 rfl (lv_at hl 0 rfl) ?_
        rw [← hQ9]
        have ho23 : True := trivial
        have ho24 : (0 ≤ (fi1 0).toInt ∧ (fi1 0).toInt ≤ 60) ∧ z_rng 0 3 (am20 6) := ⟨⟨by omega, by omega⟩, hm20a6⟩
        have hq25 : ((t18).toInt = -2 ∧ ¬ (0 ≤ p2.toInt ∧ p2.toInt < p1.toInt ∧ p1.toInt < ((fi1 0)).toInt) ∧ (am20 6) = (fa1 6) ∧ (am20 7) = (fa1 7) ∧ (bm20 0) = (fb1 0)) ∨ ((0 ≤ p2.toInt ∧ p2.toInt < p1.toInt ∧ p1.toInt < ((fi1 0)).toInt) ∧ zBt ((fb1 0) p1.toNatClampNeg) p2 ∧ t18 = (fa1 6) p1.toNatClampNeg ∧ (am20 6) = (fa1 6) ∧ (am20 7) = (fa1 7) ∧ (bm20 0) = (fb1 0)) ∨ ((0 ≤ p2.toInt ∧ p2.toInt < p1.toInt ∧ p1.toInt < ((fi1 0)).toInt) ∧ ¬ zBt ((fb1 0) p1.toNatClampNeg) p2 ∧ (t18).toInt = -3 ∧ 3 ≤ ((fa1 6) p1.toNatClampNeg).toInt ∧ (am20 6) = (fa1 6) ∧ (am20 7) = (fa1 7) ∧ (bm20 0) = (fb1 0)) ∨ ((0 ≤ p2.toInt ∧ p2.toInt < p1.toInt ∧ p1.toInt < ((fi1 0)).toInt) ∧ ¬ zBt ((fb1 0) p1.toNatClampNeg) p2 ∧ ((fa1 6) p1.toNatClampNeg).toInt < 3 ∧ (t18).toInt = ((fa1 6) p1.toNatClampNeg).toInt + 1 ∧ (am20 7) = upd (fa1 7) (3 * p1.toNatClampNeg + ((fa1 6) p1.toNatClampNeg).toNatClampNeg) p2 ∧ (am20 6) = upd (fa1 6) p1.toNatClampNeg t18 ∧ (bm20 0) = vp_updL (fb1 0) p1.toNatClampNeg ((fb1 0) p1.toNatClampNeg ||| ((1 : Int64) <<< (p2.toInt64 &&& 63)))) := hq21.elim (fun q => Or.inr (Or.inr (Or.inl ⟨by omega, hbi.elim (fun q => absurd q.1 (by omega)) (fun q => q.2), q.1, q.2.1, q.2.2.1, q.2.2.2.1, q.2.2.2.2⟩))) (fun q => Or.inr (Or.inr (Or.inr ⟨by omega, hbi.elim (fun q => absurd q.1 (by omega)) (fun q => q.2), q.1, q.2.1, q.2.2.1, q.2.2.2.1, q.2.2.2.2⟩)))
        exact W.iret (v := t18) hx hb hr (fun t ht hW => ⟨⟨t18, (((zl 0 [(fi0 0)]), (zl 0 []), (zl (fun _ => 0) []), (zl (fun _ => 0) [])), ((zl 0 [(fi1 0)]), (zl 0 [(fl1 0)]), (zl (fun _ => 0) [(fa1 0), (fa1 1), (fa1 2), (fa1 3), (fa1 4), (fa1 5), (am20 6), (am20 7)]), (zl (fun _ => 0) [(bm20 0), (fb1 1)]))), rfl, ⟨ho23, ho24, hq25⟩, ⟨by rw [ht]; exact hP, hD⟩⟩, hS.F ht⟩) hS.2.2 dX8_hang_61
      ·
        have c22 := z_nlt (i := t18.toInt) (j := 0) rfl (by decide) c22
        refine lv_aload_n hx hb dX8_hang_55 rfl (lv_at hl 1 rfl) ?_
        refine lv_iconst (v := (-1)) hx hb dX8_hang_56 (by decide) ?_
        refine lv_topi (fun t26 et26 => ?_)
        have ht26 : t26.toInt = (-1) := by rw [et26]; decide
        refine va_put (D := D) (ci := 8) (v := .int t26) (ty := .int) (C := RX8) (T := TX8) (N := 9) hx hb hts inX8 tyX8 tyX8_ok nmX8 hown hK hP hD hS 0 rfl rfl 8 (by decide) lk65 (fun _ h9 => h9) rfl (by decide +kernel) rfl rfl (Nat.le_of_ble_eq_true rfl) dX8_hang_57 (fun H locs hP hD hS => ?_)
        have hP : va_P D vwCl (((r0 0), .inr (8, [.ref y0, .ref y1, .ref y2, .ref (r1 0), .ref y4, .ref y5, .ref y6, .ref y7, .int t26])) :: ((r1 0), .inr (1, [.int (fi1 0), .ref (r1 1), .ref (r1 2), .ref (r1 3), .ref (r1 4), .ref (r1 5), .ref (r1 6), .ref (r1 7), .ref (r1 8), .ref (r1 9), .long (fl1 0), .ref (r1 10)])) :: ((r1 1), .inl (ca 0, 60, .inl (fa1 0))) :: ((r1 2), .inl (ca 0, 60, .inl (fa1 1))) :: ((r1 3), .inl (ca 0, 60, .inl (fa1 2))) :: ((r1 4), .inl (ca 0, 60, .inl (fa1 3))) :: ((r1 5), .inl (ca 0, 60, .inl (fa1 4))) :: ((r1 6), .inl (ca 0, 60, .inl (fa1 5))) :: ((r1 7), .inl (ca 0, 60, .inl (am20 6))) :: ((r1 8), .inl (ca 0, 180, .inl (am20 7))) :: ((r1 9), .inl (ca 1, 60, .inr (.inl (bm20 0)))) :: ((r1 10), .inr (0, [.ref (r1 11)])) :: ((r1 11), .inl (ca 1, 400, .inr (.inl (fb1 1)))) :: rest) H := hP
        have hD : va_D A (((r0 0), .inr (8, [.ref y0, .ref y1, .ref y2, .ref (r1 0), .ref y4, .ref y5, .ref y6, .ref y7, .int t26])) :: ((r1 0), .inr (1, [.int (fi1 0), .ref (r1 1), .ref (r1 2), .ref (r1 3), .ref (r1 4), .ref (r1 5), .ref (r1 6), .ref (r1 7), .ref (r1 8), .ref (r1 9), .long (fl1 0), .ref (r1 10)])) :: ((r1 1), .inl (ca 0, 60, .inl (fa1 0))) :: ((r1 2), .inl (ca 0, 60, .inl (fa1 1))) :: ((r1 3), .inl (ca 0, 60, .inl (fa1 2))) :: ((r1 4), .inl (ca 0, 60, .inl (fa1 3))) :: ((r1 5), .inl (ca 0, 60, .inl (fa1 4))) :: ((r1 6), .inl (ca 0, 60, .inl (fa1 5))) :: ((r1 7), .inl (ca 0, 60, .inl (am20 6))) :: ((r1 8), .inl (ca 0, 180, .inl (am20 7))) :: ((r1 9), .inl (ca 1, 60, .inr (.inl (bm20 0)))) :: ((r1 10), .inr (0, [.ref (r1 11)])) :: ((r1 11), .inl (ca 1, 400, .inr (.inl (fb1 1)))) :: rest) := hD
        refine lv_iload_n hx hb dX8_hang_60 rfl (lv_at hl 0 rfl) ?_
        rw [← hQ9]
        have ho27 : True := trivial
        have ho28 : (0 ≤ (fi1 0).toInt ∧ (fi1 0).toInt ≤ 60) ∧ z_rng 0 3 (am20 6) := ⟨⟨by omega, by omega⟩, hm20a6⟩
        have hq29 : ((t18).toInt = -2 ∧ ¬ (0 ≤ p2.toInt ∧ p2.toInt < p1.toInt ∧ p1.toInt < ((fi1 0)).toInt) ∧ (am20 6) = (fa1 6) ∧ (am20 7) = (fa1 7) ∧ (bm20 0) = (fb1 0)) ∨ ((0 ≤ p2.toInt ∧ p2.toInt < p1.toInt ∧ p1.toInt < ((fi1 0)).toInt) ∧ zBt ((fb1 0) p1.toNatClampNeg) p2 ∧ t18 = (fa1 6) p1.toNatClampNeg ∧ (am20 6) = (fa1 6) ∧ (am20 7) = (fa1 7) ∧ (bm20 0) = (fb1 0)) ∨ ((0 ≤ p2.toInt ∧ p2.toInt < p1.toInt ∧ p1.toInt < ((fi1 0)).toInt) ∧ ¬ zBt ((fb1 0) p1.toNatClampNeg) p2 ∧ (t18).toInt = -3 ∧ 3 ≤ ((fa1 6) p1.toNatClampNeg).toInt ∧ (am20 6) = (fa1 6) ∧ (am20 7) = (fa1 7) ∧ (bm20 0) = (fb1 0)) ∨ ((0 ≤ p2.toInt ∧ p2.toInt < p1.toInt ∧ p1.toInt < ((fi1 0)).toInt) ∧ ¬ zBt ((fb1 0) p1.toNatClampNeg) p2 ∧ ((fa1 6) p1.toNatClampNeg).toInt < 3 ∧ (t18).toInt = ((fa1 6) p1.toNatClampNeg).toInt + 1 ∧ (am20 7) = upd (fa1 7) (3 * p1.toNatClampNeg + ((fa1 6) p1.toNatClampNeg).toNatClampNeg) p2 ∧ (am20 6) = upd (fa1 6) p1.toNatClampNeg t18 ∧ (bm20 0) = vp_updL (fb1 0) p1.toNatClampNeg ((fb1 0) p1.toNatClampNeg ||| ((1 : Int64) <<< (p2.toInt64 &&& 63)))) := hq21.elim (fun q => Or.inr (Or.inr (Or.inl ⟨by omega, hbi.elim (fun q => absurd q.1 (by omega)) (fun q => q.2), q.1, q.2.1, q.2.2.1, q.2.2.2.1, q.2.2.2.2⟩))) (fun q => Or.inr (Or.inr (Or.inr ⟨by omega, hbi.elim (fun q => absurd q.1 (by omega)) (fun q => q.2), q.1, q.2.1, q.2.2.1, q.2.2.2.1, q.2.2.2.2⟩)))
        exact W.iret (v := t18) hx hb hr (fun t ht hW => ⟨⟨t18, (((zl 0 [t26]), (zl 0 []), (zl (fun _ => 0) []), (zl (fun _ => 0) [])), ((zl 0 [(fi1 0)]), (zl 0 [(fl1 0)]), (zl (fun _ => 0) [(fa1 0), (fa1 1), (fa1 2), (fa1 3), (fa1 4), (fa1 5), (am20 6), (am20 7)]), (zl (fun _ => 0) [(bm20 0), (fb1 1)]))), rfl, ⟨ho27, ho28, hq29⟩, ⟨by rw [ht]; exact hP, hD⟩⟩, hS.F ht⟩) hS.2.2 dX8_hang_61
    ·
      have c14 := z_ne (i := t10.toInt) (j := 0) rfl (by decide) c14
      refine lv_aload_n hx hb dX8_hang_31 rfl (lv_at hl 0 rfl) ?_
      refine va_get (D := D) (ci := 8) (v := .ref (r1 0)) (C := RX8) (T := TX8) (N := 9) hx hb hts inX8 hown hK hP 0 rfl rfl 3 (by decide) lk39 (fun _ h9 => h9) rfl dX8_hang_32 ?_
      refine va_get (D := D) (ci := 1) (v := .ref (r1 7)) (C := RX1) (T := TX1) (N := 12) hx hb hts inX1 hown hK hP 1 rfl rfl 7 (by decide) lk109 (fun _ h9 => h9) rfl dX8_hang_35 ?_
      refine lv_iload_n hx hb dX8_hang_38 rfl (lv_at hl 1 rfl) ?_
      have hi30 : vp_in p1 60 := z_in (i := p1.toInt) rfl (by omega) (by omega)
      refine va_iald hx hb hK hP 8 0 rfl rfl hi30 dX8_hang_39 ?_
      refine lv_topi (fun t31 et31 => ?_)
      have ht31 := z_at hv1a6 et31
      rw [← hQ9]
      have ho32 : True := trivial
      have ho33 : (0 ≤ (fi1 0).toInt ∧ (fi1 0).toInt ≤ 60) ∧ z_rng 0 3 (fa1 6) := ⟨⟨by omega, by omega⟩, hv1a6⟩
      have hq34 : ((t31).toInt = -2 ∧ ¬ (0 ≤ p2.toInt ∧ p2.toInt < p1.toInt ∧ p1.toInt < ((fi1 0)).toInt) ∧ (fa1 6) = (fa1 6) ∧ (fa1 7) = (fa1 7) ∧ (fb1 0) = (fb1 0)) ∨ ((0 ≤ p2.toInt ∧ p2.toInt < p1.toInt ∧ p1.toInt < ((fi1 0)).toInt) ∧ zBt ((fb1 0) p1.toNatClampNeg) p2 ∧ t31 = (fa1 6) p1.toNatClampNeg ∧ (fa1 6) = (fa1 6) ∧ (fa1 7) = (fa1 7) ∧ (fb1 0) = (fb1 0)) ∨ ((0 ≤ p2.toInt ∧ p2.toInt < p1.toInt ∧ p1.toInt < ((fi1 0)).toInt) ∧ ¬ zBt ((fb1 0) p1.toNatClampNeg) p2 ∧ (t31).toInt = -3 ∧ 3 ≤ ((fa1 6) p1.toNatClampNeg).toInt ∧ (fa1 6) = (fa1 6) ∧ (fa1 7) = (fa1 7) ∧ (fb1 0) = (fb1 0)) ∨ ((0 ≤ p2.toInt ∧ p2.toInt < p1.toInt ∧ p1.toInt < ((fi1 0)).toInt) ∧ ¬ zBt ((fb1 0) p1.toNatClampNeg) p2 ∧ ((fa1 6) p1.toNatClampNeg).toInt < 3 ∧ (t31).toInt = ((fa1 6) p1.toNatClampNeg).toInt + 1 ∧ (fa1 7) = upd (fa1 7) (3 * p1.toNatClampNeg + ((fa1 6) p1.toNatClampNeg).toNatClampNeg) p2 ∧ (fa1 6) = upd (fa1 6) p1.toNatClampNeg t31 ∧ (fb1 0) = vp_updL (fb1 0) p1.toNatClampNeg ((fb1 0) p1.toNatClampNeg ||| ((1 : Int64) <<< (p2.toInt64 &&& 63)))) := Or.inr (Or.inl ⟨by omega, hbi.elim (fun q => q.2) (fun q => absurd q.1 (by omega)), et31, rfl, rfl, rfl⟩)
      exact W.iret (v := t31) hx hb hr (fun t ht hW => ⟨⟨t31, (((zl 0 [(fi0 0)]), (zl 0 []), (zl (fun _ => 0) []), (zl (fun _ => 0) [])), ((zl 0 [(fi1 0)]), (zl 0 [(fl1 0)]), (zl (fun _ => 0) [(fa1 0), (fa1 1), (fa1 2), (fa1 3), (fa1 4), (fa1 5), (fa1 6), (fa1 7)]), (zl (fun _ => 0) [(fb1 0), (fb1 1)]))), rfl, ⟨ho32, ho33, hq34⟩, ⟨by rw [ht]; exact hP, hD⟩⟩, hS.F ht⟩) hS.2.2 dX8_hang_40
  ·
    have c6 := z_eq (i := t3.toInt) (j := 0) rfl (by decide) c6
    refine lv_bipush (v := (-2)) hx hb dX8_hang_12 (by decide) ?_
    rw [← hQ9]
    refine lv_topi (fun t35 et35 => ?_)
    have ht35 : t35.toInt = (-2) := by rw [et35]; decide
    have ho36 : True := trivial
    have ho37 : (0 ≤ (fi1 0).toInt ∧ (fi1 0).toInt ≤ 60) ∧ z_rng 0 3 (fa1 6) := ⟨⟨by omega, by omega⟩, hv1a6⟩
    have hq38 : ((t35).toInt = -2 ∧ ¬ (0 ≤ p2.toInt ∧ p2.toInt < p1.toInt ∧ p1.toInt < ((fi1 0)).toInt) ∧ (fa1 6) = (fa1 6) ∧ (fa1 7) = (fa1 7) ∧ (fb1 0) = (fb1 0)) ∨ ((0 ≤ p2.toInt ∧ p2.toInt < p1.toInt ∧ p1.toInt < ((fi1 0)).toInt) ∧ zBt ((fb1 0) p1.toNatClampNeg) p2 ∧ t35 = (fa1 6) p1.toNatClampNeg ∧ (fa1 6) = (fa1 6) ∧ (fa1 7) = (fa1 7) ∧ (fb1 0) = (fb1 0)) ∨ ((0 ≤ p2.toInt ∧ p2.toInt < p1.toInt ∧ p1.toInt < ((fi1 0)).toInt) ∧ ¬ zBt ((fb1 0) p1.toNatClampNeg) p2 ∧ (t35).toInt = -3 ∧ 3 ≤ ((fa1 6) p1.toNatClampNeg).toInt ∧ (fa1 6) = (fa1 6) ∧ (fa1 7) = (fa1 7) ∧ (fb1 0) = (fb1 0)) ∨ ((0 ≤ p2.toInt ∧ p2.toInt < p1.toInt ∧ p1.toInt < ((fi1 0)).toInt) ∧ ¬ zBt ((fb1 0) p1.toNatClampNeg) p2 ∧ ((fa1 6) p1.toNatClampNeg).toInt < 3 ∧ (t35).toInt = ((fa1 6) p1.toNatClampNeg).toInt + 1 ∧ (fa1 7) = upd (fa1 7) (3 * p1.toNatClampNeg + ((fa1 6) p1.toNatClampNeg).toNatClampNeg) p2 ∧ (fa1 6) = upd (fa1 6) p1.toNatClampNeg t35 ∧ (fb1 0) = vp_updL (fb1 0) p1.toNatClampNeg ((fb1 0) p1.toNatClampNeg ||| ((1 : Int64) <<< (p2.toInt64 &&& 63)))) := Or.inl ⟨by omega, by omega, rfl, rfl, rfl⟩
    exact W.iret (v := t35) hx hb hr (fun t ht hW => ⟨⟨t35, (((zl 0 [(fi0 0)]), (zl 0 []), (zl (fun _ => 0) []), (zl (fun _ => 0) [])), ((zl 0 [(fi1 0)]), (zl 0 [(fl1 0)]), (zl (fun _ => 0) [(fa1 0), (fa1 1), (fa1 2), (fa1 3), (fa1 4), (fa1 5), (fa1 6), (fa1 7)]), (zl (fun _ => 0) [(fb1 0), (fb1 1)]))), rfl, ⟨ho36, ho37, hq38⟩, ⟨by rw [ht]; exact hP, hD⟩⟩, hS.F ht⟩) hS.2.2 dX8_hang_14

set_option maxHeartbeats 8000000 in
set_option maxRecDepth 100000 in
theorem c_X9_hang_R (l : Launch) (D : va_G) (ca : Nat → ClassId) (sa : Nat → Nat) (A : Nat → Prop) (rest : va_W) (r0 : Nat → Nat) (fi0 : Nat → Int32) (fl0 : Nat → Int64) (fa0 : Nat → Nat → Int32) (fb0 : Nat → Nat → Int64) (hv0 : Ok_MOD fi0 fa0) (p1 : Int32) (p2 : Int32) : Met l yX9_hang wsX9_hang ({ frames := 2, cells := 0, slots := 0, locals := 43 }) (va_Pc [.ref (r0 0), .int p1, .int p2] (zPre D ca sa A (w_MOD ca r0 fi0 fl0 fa0 fb0 (rest)))) (va_Qi (fun (r : Int32) (u : zS) => Ok_MOD (zx [10] fi0 u.1) (zx [8, 9] fa0 u.2.2.1) ∧ (((r).toInt = -2 ∧ ¬ (0 ≤ p2.toInt ∧ p2.toInt < p1.toInt ∧ p1.toInt < ((fi0 9)).toInt) ∧ (u.2.2.1 9) = (fa0 9) ∧ (u.2.2.1 8) = (fa0 8)) ∨ ((0 ≤ p2.toInt ∧ p2.toInt < p1.toInt ∧ p1.toInt < ((fi0 9)).toInt) ∧ zHs (fa0 8) p1.toNatClampNeg ((fa0 9) p1.toNatClampNeg).toNatClampNeg p2 ∧ r = (fa0 9) p1.toNatClampNeg ∧ (u.2.2.1 9) = (fa0 9) ∧ (u.2.2.1 8) = (fa0 8)) ∨ ((0 ≤ p2.toInt ∧ p2.toInt < p1.toInt ∧ p1.toInt < ((fi0 9)).toInt) ∧ ¬ zHs (fa0 8) p1.toNatClampNeg ((fa0 9) p1.toNatClampNeg).toNatClampNeg p2 ∧ (r).toInt = -3 ∧ 3 ≤ ((fa0 9) p1.toNatClampNeg).toInt ∧ (u.2.2.1 9) = (fa0 9) ∧ (u.2.2.1 8) = (fa0 8)) ∨ ((0 ≤ p2.toInt ∧ p2.toInt < p1.toInt ∧ p1.toInt < ((fi0 9)).toInt) ∧ ¬ zHs (fa0 8) p1.toNatClampNeg ((fa0 9) p1.toNatClampNeg).toNatClampNeg p2 ∧ ((fa0 9) p1.toNatClampNeg).toInt < 3 ∧ (r).toInt = ((fa0 9) p1.toNatClampNeg).toInt + 1 ∧ (u.2.2.1 8) = upd (fa0 8) (3 * p1.toNatClampNeg + ((fa0 9) p1.toNatClampNeg).toNatClampNeg) p2 ∧ (u.2.2.1 9) = upd (fa0 9) p1.toNatClampNeg r))) (fun u t => zPost D A (w_MOD ca r0 (zx [10] fi0 u.1) (zx [] fl0 u.2.1) (zx [8, 9] fa0 u.2.2.1) (zx [] fb0 u.2.2.2) (rest)) t) A) 0 0 A := by
  refine Met.ofW (cc := cX9_hang) (maxL := 4) (ret := (some .int)) (by decide) rfl ?_
  intro p e s m args below meth c s₁ B hml hv9
  obtain ⟨rfl, hE, hP, hD⟩ := hv9
  have hx := B.exec
  have hb := B.bytes
  have hr := B.returns
  have hts := atoms_spec (ws := wsX9_hang) B.pre
  have hown : s.vm.findClass RX9 = some m.cls := findClass_of_methodNamed B.named
  have hlocks := B.notSynchronized
  have hK := hE.1
  have hF : CallFix p m c cX9_hang 4 s _ wsX9_hang RX9 := ⟨hx, hb, hml, hown, hts⟩
  have hS : va_S A s.heap s.heap [] := va_S.rf
  have lk42 := hts (.fieldLink RX9 42 "BranchPlayModel" "hangMany" "[I") (by decide +kernel)
  have inX9 : ∀ w ∈ wsX90, w ∈ wsX9_hang := by decide +kernel
  have lk39 := hts (.fieldLink RX9 39 "BranchPlayModel" "hangs" "[I") (by decide +kernel)
  have lk113 := hts (.fieldLink RX9 113 "BranchPlayModel" "played" "I") (by decide +kernel)
  obtain ⟨⟨hv0i0, hv0j0⟩, ⟨hv0i1, hv0j1⟩, ⟨hv0i5, hv0j5⟩, ⟨hv0i9, hv0j9⟩, hv0a6, hv0a8, hv0a9, hv0a23, hv0a27, hv0a28, hv0x0, hv0y0⟩ := hv0
  generalize hHe : s.heap = H at hP
  have hS : va_S A s.heap H [] := by rw [← hHe]; exact hS
  have hP : va_P D vwCl (((r0 0), .inr (9, [.ref (r0 1), .int (fi0 0), .int (fi0 1), .int (fi0 2), .int (fi0 3), .int (fi0 4), .int (fi0 5), .int (fi0 6), .int (fi0 7), .int (fi0 8), .ref (r0 2), .int (fi0 9), .ref (r0 3), .ref (r0 4), .ref (r0 5), .ref (r0 6), .ref (r0 7), .ref (r0 8), .ref (r0 9), .ref (r0 10), .ref (r0 11), .ref (r0 12), .ref (r0 13), .ref (r0 14), .ref (r0 15), .ref (r0 16), .ref (r0 17), .ref (r0 18), .ref (r0 19), .ref (r0 20), .ref (r0 21), .ref (r0 22), .ref (r0 23), .ref (r0 24), .ref (r0 25), .ref (r0 26), .ref (r0 27), .ref (r0 28), .ref (r0 29), .ref (r0 30), .ref (r0 31), .ref (r0 32), .int (fi0 10), .ref (r0 33)])) :: ((r0 1), .inl (ca 2, 600, .inl (fa0 0))) :: ((r0 2), .inl (ca 0, 48, .inl (fa0 1))) :: ((r0 3), .inl (ca 0, 60, .inl (fa0 2))) :: ((r0 4), .inl (ca 0, 60, .inl (fa0 3))) :: ((r0 5), .inl (ca 0, 60, .inl (fa0 4))) :: ((r0 6), .inl (ca 0, 60, .inl (fa0 5))) :: ((r0 7), .inl (ca 0, 60, .inl (fa0 6))) :: ((r0 8), .inl (ca 0, 60, .inl (fa0 7))) :: ((r0 9), .inl (ca 0, 180, .inl (fa0 8))) :: ((r0 10), .inl (ca 0, 60, .inl (fa0 9))) :: ((r0 11), .inl (ca 0, 180, .inl (fa0 10))) :: ((r0 12), .inl (ca 0, 180, .inl (fa0 11))) :: ((r0 13), .inl (ca 0, 180, .inl (fa0 12))) :: ((r0 14), .inl (ca 0, 180, .inl (fa0 13))) :: ((r0 15), .inl (ca 0, 180, .inl (fa0 14))) :: ((r0 16), .inl (ca 0, 180, .inl (fa0 15))) :: ((r0 17), .inl (ca 0, 180, .inl (fa0 16))) :: ((r0 18), .inl (ca 0, 180, .inl (fa0 17))) :: ((r0 19), .inl (ca 0, 180, .inl (fa0 18))) :: ((r0 20), .inl (ca 0, 180, .inl (fa0 19))) :: ((r0 21), .inl (ca 0, 3, .inl (fa0 20))) :: ((r0 22), .inl (ca 1, 3, .inr (.inl (fb0 0)))) :: ((r0 23), .inl (ca 1, 3, .inr (.inl (fb0 1)))) :: ((r0 24), .inl (ca 3, 3, .inl (fa0 21))) :: ((r0 25), .inl (ca 0, 3, .inl (fa0 22))) :: ((r0 26), .inl (ca 0, 3, .inl (fa0 23))) :: ((r0 27), .inl (ca 0, 810, .inl (fa0 24))) :: ((r0 28), .inl (ca 3, 810, .inl (fa0 25))) :: ((r0 29), .inl (ca 1, 810, .inr (.inl (fb0 2)))) :: ((r0 30), .inl (ca 0, 810, .inl (fa0 26))) :: ((r0 31), .inl (ca 0, 3, .inl (fa0 27))) :: ((r0 32), .inl (ca 0, 60, .inl (fa0 28))) :: ((r0 33), .inl (ca 0, 4, .inl (fa0 29))) :: rest) H := hP
  have hD : va_D A (((r0 0), .inr (9, [.ref (r0 1), .int (fi0 0), .int (fi0 1), .int (fi0 2), .int (fi0 3), .int (fi0 4), .int (fi0 5), .int (fi0 6), .int (fi0 7), .int (fi0 8), .ref (r0 2), .int (fi0 9), .ref (r0 3), .ref (r0 4), .ref (r0 5), .ref (r0 6), .ref (r0 7), .ref (r0 8), .ref (r0 9), .ref (r0 10), .ref (r0 11), .ref (r0 12), .ref (r0 13), .ref (r0 14), .ref (r0 15), .ref (r0 16), .ref (r0 17), .ref (r0 18), .ref (r0 19), .ref (r0 20), .ref (r0 21), .ref (r0 22), .ref (r0 23), .ref (r0 24), .ref (r0 25), .ref (r0 26), .ref (r0 27), .ref (r0 28), .ref (r0 29), .ref (r0 30), .ref (r0 31), .ref (r0 32), .int (fi0 10), .ref (r0 33)])) :: ((r0 1), .inl (ca 2, 600, .inl (fa0 0))) :: ((r0 2), .inl (ca 0, 48, .inl (fa0 1))) :: ((r0 3), .inl (ca 0, 60, .inl (fa0 2))) :: ((r0 4), .inl (ca 0, 60, .inl (fa0 3))) :: ((r0 5), .inl (ca 0, 60, .inl (fa0 4))) :: ((r0 6), .inl (ca 0, 60, .inl (fa0 5))) :: ((r0 7), .inl (ca 0, 60, .inl (fa0 6))) :: ((r0 8), .inl (ca 0, 60, .inl (fa0 7))) :: ((r0 9), .inl (ca 0, 180, .inl (fa0 8))) :: ((r0 10), .inl (ca 0, 60, .inl (fa0 9))) :: ((r0 11), .inl (ca 0, 180, .inl (fa0 10))) :: ((r0 12), .inl (ca 0, 180, .inl (fa0 11))) :: ((r0 13), .inl (ca 0, 180, .inl (fa0 12))) :: ((r0 14), .inl (ca 0, 180, .inl (fa0 13))) :: ((r0 15), .inl (ca 0, 180, .inl (fa0 14))) :: ((r0 16), .inl (ca 0, 180, .inl (fa0 15))) :: ((r0 17), .inl (ca 0, 180, .inl (fa0 16))) :: ((r0 18), .inl (ca 0, 180, .inl (fa0 17))) :: ((r0 19), .inl (ca 0, 180, .inl (fa0 18))) :: ((r0 20), .inl (ca 0, 180, .inl (fa0 19))) :: ((r0 21), .inl (ca 0, 3, .inl (fa0 20))) :: ((r0 22), .inl (ca 1, 3, .inr (.inl (fb0 0)))) :: ((r0 23), .inl (ca 1, 3, .inr (.inl (fb0 1)))) :: ((r0 24), .inl (ca 3, 3, .inl (fa0 21))) :: ((r0 25), .inl (ca 0, 3, .inl (fa0 22))) :: ((r0 26), .inl (ca 0, 3, .inl (fa0 23))) :: ((r0 27), .inl (ca 0, 810, .inl (fa0 24))) :: ((r0 28), .inl (ca 3, 810, .inl (fa0 25))) :: ((r0 29), .inl (ca 1, 810, .inr (.inl (fb0 2)))) :: ((r0 30), .inl (ca 0, 810, .inl (fa0 26))) :: ((r0 31), .inl (ca 0, 3, .inl (fa0 27))) :: ((r0 32), .inl (ca 0, 60, .inl (fa0 28))) :: ((r0 33), .inl (ca 0, 4, .inl (fa0 29))) :: rest) := hD
  have hl := lv_entry ([.ref (r0 0), .int p1, .int p2]) (n := 4) (Nat.le_of_ble_eq_true rfl)
  rw [lg_entry_eq]
  generalize (lg_sl ([.ref (r0 0), .int p1, .int p2]) ++ List.replicate (4 - (lg_sl ([.ref (r0 0), .int p1, .int p2])).length) Slot.unset).toArray = ls at hl ⊢
  have hl : lv_has ls 4 [(0, .ref (r0 0)), (1, .int p1), (2, .int p2)] := hl
  generalize hQ9 : MQ below _ _ s 0 0 A = Q9
  refine lv_aload_n hx hb dX9_hang_0 rfl (lv_at hl 0 rfl) ?_
  refine lv_iload_n hx hb dX9_hang_1 rfl (lv_at hl 1 rfl) ?_
  have ho1 : (0 ≤ (fi0 0).toInt ∧ (fi0 0).toInt ≤ 600) ∧ (0 ≤ (fi0 1).toInt ∧ (fi0 1).toInt ≤ 600) ∧ (0 ≤ (fi0 5).toInt ∧ (fi0 5).toInt ≤ 600) ∧ (0 ≤ (fi0 9).toInt ∧ (fi0 9).toInt ≤ 60) ∧ z_rng (-1) 59 (fa0 6) ∧ z_rng 0 59 (fa0 8) ∧ z_rng 0 3 (fa0 9) ∧ z_rng 0 269 (fa0 23) ∧ z_rng 0 5 (fa0 27) ∧ z_rng 0 59 (fa0 28) ∧ ((fi0 2).toInt = 1 → 0 ≤ (fi0 3).toInt) ∧ zOkR (fa0 1) (fa0 27) := ⟨⟨by omega, by omega⟩, ⟨by omega, by omega⟩, ⟨by omega, by omega⟩, ⟨by omega, by omega⟩, hv0a6, hv0a8, hv0a9, hv0a23, hv0a27, hv0a28, by omega, hv0y0⟩
  refine z_iV (As := [.int p1]) (rest := []) hF (c_X9_isChange l D ca sa A rest (zl 0 [(r0 0), (r0 1), (r0 2), (r0 3), (r0 4), (r0 5), (r0 6), (r0 7), (r0 8), (r0 9), (r0 10), (r0 11), (r0 12), (r0 13), (r0 14), (r0 15), (r0 16), (r0 17), (r0 18), (r0 19), (r0 20), (r0 21), (r0 22), (r0 23), (r0 24), (r0 25), (r0 26), (r0 27), (r0 28), (r0 29), (r0 30), (r0 31), (r0 32), (r0 33)]) (zl 0 [(fi0 0), (fi0 1), (fi0 2), (fi0 3), (fi0 4), (fi0 5), (fi0 6), (fi0 7), (fi0 8), (fi0 9), (fi0 10)]) (zl 0 []) (zl (fun _ => 0) [(fa0 0), (fa0 1), (fa0 2), (fa0 3), (fa0 4), (fa0 5), (fa0 6), (fa0 7), (fa0 8), (fa0 9), (fa0 10), (fa0 11), (fa0 12), (fa0 13), (fa0 14), (fa0 15), (fa0 16), (fa0 17), (fa0 18), (fa0 19), (fa0 20), (fa0 21), (fa0 22), (fa0 23), (fa0 24), (fa0 25), (fa0 26), (fa0 27), (fa0 28), (fa0 29)]) (zl (fun _ => 0) [(fb0 0), (fb0 1), (fb0 2)]) ho1 p1) (cwV 1 hts gX9_hang_X9_isChange rfl rfl rfl (by decide +kernel) ⟨Nat.le_of_ble_eq_true rfl, Nat.le_of_ble_eq_true rfl⟩) hE hP hD hS 9 0 rfl rfl rfl hl.1 rfl (Nat.le_of_ble_eq_true rfl) dX9_hang_2 ⟨Nat.zero_le _, Nat.zero_le _⟩ (fun t3 u2 H locs hw4 hP hD hS => ?_)
  have hw4 : ((t3.toInt = 1 ∧ 0 ≤ p1.toInt ∧ p1.toInt < (fi0 9).toInt) ∨ (t3.toInt = 0 ∧ (p1.toInt < 0 ∨ (fi0 9).toInt ≤ p1.toInt))) := hw4
  have hq5 := hw4
  clear hw4
  have hP : va_P D vwCl (((r0 0), .inr (9, [.ref (r0 1), .int (fi0 0), .int (fi0 1), .int (fi0 2), .int (fi0 3), .int (fi0 4), .int (fi0 5), .int (fi0 6), .int (fi0 7), .int (fi0 8), .ref (r0 2), .int (fi0 9), .ref (r0 3), .ref (r0 4), .ref (r0 5), .ref (r0 6), .ref (r0 7), .ref (r0 8), .ref (r0 9), .ref (r0 10), .ref (r0 11), .ref (r0 12), .ref (r0 13), .ref (r0 14), .ref (r0 15), .ref (r0 16), .ref (r0 17), .ref (r0 18), .ref (r0 19), .ref (r0 20), .ref (r0 21), .ref (r0 22), .ref (r0 23), .ref (r0 24), .ref (r0 25), .ref (r0 26), .ref (r0 27), .ref (r0 28), .ref (r0 29), .ref (r0 30), .ref (r0 31), .ref (r0 32), .int (fi0 10), .ref (r0 33)])) :: ((r0 1), .inl (ca 2, 600, .inl (fa0 0))) :: ((r0 2), .inl (ca 0, 48, .inl (fa0 1))) :: ((r0 3), .inl (ca 0, 60, .inl (fa0 2))) :: ((r0 4), .inl (ca 0, 60, .inl (fa0 3))) :: ((r0 5), .inl (ca 0, 60, .inl (fa0 4))) :: ((r0 6), .inl (ca 0, 60, .inl (fa0 5))) :: ((r0 7), .inl (ca 0, 60, .inl (fa0 6))) :: ((r0 8), .inl (ca 0, 60, .inl (fa0 7))) :: ((r0 9), .inl (ca 0, 180, .inl (fa0 8))) :: ((r0 10), .inl (ca 0, 60, .inl (fa0 9))) :: ((r0 11), .inl (ca 0, 180, .inl (fa0 10))) :: ((r0 12), .inl (ca 0, 180, .inl (fa0 11))) :: ((r0 13), .inl (ca 0, 180, .inl (fa0 12))) :: ((r0 14), .inl (ca 0, 180, .inl (fa0 13))) :: ((r0 15), .inl (ca 0, 180, .inl (fa0 14))) :: ((r0 16), .inl (ca 0, 180, .inl (fa0 15))) :: ((r0 17), .inl (ca 0, 180, .inl (fa0 16))) :: ((r0 18), .inl (ca 0, 180, .inl (fa0 17))) :: ((r0 19), .inl (ca 0, 180, .inl (fa0 18))) :: ((r0 20), .inl (ca 0, 180, .inl (fa0 19))) :: ((r0 21), .inl (ca 0, 3, .inl (fa0 20))) :: ((r0 22), .inl (ca 1, 3, .inr (.inl (fb0 0)))) :: ((r0 23), .inl (ca 1, 3, .inr (.inl (fb0 1)))) :: ((r0 24), .inl (ca 3, 3, .inl (fa0 21))) :: ((r0 25), .inl (ca 0, 3, .inl (fa0 22))) :: ((r0 26), .inl (ca 0, 3, .inl (fa0 23))) :: ((r0 27), .inl (ca 0, 810, .inl (fa0 24))) :: ((r0 28), .inl (ca 3, 810, .inl (fa0 25))) :: ((r0 29), .inl (ca 1, 810, .inr (.inl (fb0 2)))) :: ((r0 30), .inl (ca 0, 810, .inl (fa0 26))) :: ((r0 31), .inl (ca 0, 3, .inl (fa0 27))) :: ((r0 32), .inl (ca 0, 60, .inl (fa0 28))) :: ((r0 33), .inl (ca 0, 4, .inl (fa0 29))) :: rest) H := hP
  have hD : va_D A (((r0 0), .inr (9, [.ref (r0 1), .int (fi0 0), .int (fi0 1), .int (fi0 2), .int (fi0 3), .int (fi0 4), .int (fi0 5), .int (fi0 6), .int (fi0 7), .int (fi0 8), .ref (r0 2), .int (fi0 9), .ref (r0 3), .ref (r0 4), .ref (r0 5), .ref (r0 6), .ref (r0 7), .ref (r0 8), .ref (r0 9), .ref (r0 10), .ref (r0 11), .ref (r0 12), .ref (r0 13), .ref (r0 14), .ref (r0 15), .ref (r0 16), .ref (r0 17), .ref (r0 18), .ref (r0 19), .ref (r0 20), .ref (r0 21), .ref (r0 22), .ref (r0 23), .ref (r0 24), .ref (r0 25), .ref (r0 26), .ref (r0 27), .ref (r0 28), .ref (r0 29), .ref (r0 30), .ref (r0 31), .ref (r0 32), .int (fi0 10), .ref (r0 33)])) :: ((r0 1), .inl (ca 2, 600, .inl (fa0 0))) :: ((r0 2), .inl (ca 0, 48, .inl (fa0 1))) :: ((r0 3), .inl (ca 0, 60, .inl (fa0 2))) :: ((r0 4), .inl (ca 0, 60, .inl (fa0 3))) :: ((r0 5), .inl (ca 0, 60, .inl (fa0 4))) :: ((r0 6), .inl (ca 0, 60, .inl (fa0 5))) :: ((r0 7), .inl (ca 0, 60, .inl (fa0 6))) :: ((r0 8), .inl (ca 0, 60, .inl (fa0 7))) :: ((r0 9), .inl (ca 0, 180, .inl (fa0 8))) :: ((r0 10), .inl (ca 0, 60, .inl (fa0 9))) :: ((r0 11), .inl (ca 0, 180, .inl (fa0 10))) :: ((r0 12), .inl (ca 0, 180, .inl (fa0 11))) :: ((r0 13), .inl (ca 0, 180, .inl (fa0 12))) :: ((r0 14), .inl (ca 0, 180, .inl (fa0 13))) :: ((r0 15), .inl (ca 0, 180, .inl (fa0 14))) :: ((r0 16), .inl (ca 0, 180, .inl (fa0 15))) :: ((r0 17), .inl (ca 0, 180, .inl (fa0 16))) :: ((r0 18), .inl (ca 0, 180, .inl (fa0 17))) :: ((r0 19), .inl (ca 0, 180, .inl (fa0 18))) :: ((r0 20), .inl (ca 0, 180, .inl (fa0 19))) :: ((r0 21), .inl (ca 0, 3, .inl (fa0 20))) :: ((r0 22), .inl (ca 1, 3, .inr (.inl (fb0 0)))) :: ((r0 23), .inl (ca 1, 3, .inr (.inl (fb0 1)))) :: ((r0 24), .inl (ca 3, 3, .inl (fa0 21))) :: ((r0 25), .inl (ca 0, 3, .inl (fa0 22))) :: ((r0 26), .inl (ca 0, 3, .inl (fa0 23))) :: ((r0 27), .inl (ca 0, 810, .inl (fa0 24))) :: ((r0 28), .inl (ca 3, 810, .inl (fa0 25))) :: ((r0 29), .inl (ca 1, 810, .inr (.inl (fb0 2)))) :: ((r0 30), .inl (ca 0, 810, .inl (fa0 26))) :: ((r0 31), .inl (ca 0, 3, .inl (fa0 27))) :: ((r0 32), .inl (ca 0, 60, .inl (fa0 28))) :: ((r0 33), .inl (ca 0, 4, .inl (fa0 29))) :: rest) := hD
  refine lv_if_eq (tgt := 19) hx hb dX9_hang_5 (by decide) (fun c6 => ?_) (fun c6 => ?_)
  ·
    have c6 := z_eq (i := t3.toInt) (j := 0) rfl (by decide) c6
    refine lv_bipush (v := (-2)) hx hb dX9_hang_19 (by decide) ?_
    rw [← hQ9]
    refine lv_topi (fun t7 et7 => ?_)
    have ht7 : t7.toInt = (-2) := by rw [et7]; decide
    have ho8 : (0 ≤ (fi0 0).toInt ∧ (fi0 0).toInt ≤ 600) ∧ (0 ≤ (fi0 1).toInt ∧ (fi0 1).toInt ≤ 600) ∧ (0 ≤ (fi0 5).toInt ∧ (fi0 5).toInt ≤ 600) ∧ (0 ≤ (fi0 9).toInt ∧ (fi0 9).toInt ≤ 60) ∧ z_rng (-1) 59 (fa0 6) ∧ z_rng 0 59 (fa0 8) ∧ z_rng 0 3 (fa0 9) ∧ z_rng 0 269 (fa0 23) ∧ z_rng 0 5 (fa0 27) ∧ z_rng 0 59 (fa0 28) ∧ ((fi0 2).toInt = 1 → 0 ≤ (fi0 3).toInt) ∧ zOkR (fa0 1) (fa0 27) := ⟨⟨by omega, by omega⟩, ⟨by omega, by omega⟩, ⟨by omega, by omega⟩, ⟨by omega, by omega⟩, hv0a6, hv0a8, hv0a9, hv0a23, hv0a27, hv0a28, by omega, hv0y0⟩
    have hq9 : ((t7).toInt = -2 ∧ ¬ (0 ≤ p2.toInt ∧ p2.toInt < p1.toInt ∧ p1.toInt < ((fi0 9)).toInt) ∧ (fa0 9) = (fa0 9) ∧ (fa0 8) = (fa0 8)) ∨ ((0 ≤ p2.toInt ∧ p2.toInt < p1.toInt ∧ p1.toInt < ((fi0 9)).toInt) ∧ zHs (fa0 8) p1.toNatClampNeg ((fa0 9) p1.toNatClampNeg).toNatClampNeg p2 ∧ t7 = (fa0 9) p1.toNatClampNeg ∧ (fa0 9) = (fa0 9) ∧ (fa0 8) = (fa0 8)) ∨ ((0 ≤ p2.toInt ∧ p2.toInt < p1.toInt ∧ p1.toInt < ((fi0 9)).toInt) ∧ ¬ zHs (fa0 8) p1.toNatClampNeg ((fa0 9) p1.toNatClampNeg).toNatClampNeg p2 ∧ (t7).toInt = -3 ∧ 3 ≤ ((fa0 9) p1.toNatClampNeg).toInt ∧ (fa0 9) = (fa0 9) ∧ (fa0 8) = (fa0 8)) ∨ ((0 ≤ p2.toInt ∧ p2.toInt < p1.toInt ∧ p1.toInt < ((fi0 9)).toInt) ∧ ¬ zHs (fa0 8) p1.toNatClampNeg ((fa0 9) p1.toNatClampNeg).toNatClampNeg p2 ∧ ((fa0 9) p1.toNatClampNeg).toInt < 3 ∧ (t7).toInt = ((fa0 9) p1.toNatClampNeg).toInt + 1 ∧ (fa0 8) = upd (fa0 8) (3 * p1.toNatClampNeg + ((fa0 9) p1.toNatClampNeg).toNatClampNeg) p2 ∧ (fa0 9) = upd (fa0 9) p1.toNatClampNeg t7) := Or.inl ⟨by omega, by omega, rfl, rfl⟩
    exact W.iret (v := t7) hx hb hr (fun t ht hW => ⟨⟨t7, ((zl 0 [(fi0 0), (fi0 1), (fi0 2), (fi0 3), (fi0 4), (fi0 5), (fi0 6), (fi0 7), (fi0 8), (fi0 9), (fi0 10)]), (zl 0 []), (zl (fun _ => 0) [(fa0 0), (fa0 1), (fa0 2), (fa0 3), (fa0 4), (fa0 5), (fa0 6), (fa0 7), (fa0 8), (fa0 9), (fa0 10), (fa0 11), (fa0 12), (fa0 13), (fa0 14), (fa0 15), (fa0 16), (fa0 17), (fa0 18), (fa0 19), (fa0 20), (fa0 21), (fa0 22), (fa0 23), (fa0 24), (fa0 25), (fa0 26), (fa0 27), (fa0 28), (fa0 29)]), (zl (fun _ => 0) [(fb0 0), (fb0 1), (fb0 2)])), rfl, ⟨ho8, hq9⟩, ⟨by rw [ht]; exact hP, hD⟩⟩, hS.F ht⟩) hS.2.2 dX9_hang_21
  ·
    have c6 := z_ne (i := t3.toInt) (j := 0) rfl (by decide) c6
    have hnt10 : 0 ≤ p1.toInt ∧ p1.toInt < (fi0 9).toInt := by omega
    refine lv_iload_n hx hb dX9_hang_8 rfl (lv_at hl 2 rfl) ?_
    refine lv_iconst (v := 0) hx hb dX9_hang_9 (by decide) ?_
    refine lv_iload_n hx hb dX9_hang_10 rfl (lv_at hl 1 rfl) ?_
    refine lv_iconst (v := 1) hx hb dX9_hang_11 (by decide) ?_
    refine lv_isub hx hb dX9_hang_12 ?_
    refine lv_topi (fun t11 et11 => ?_)
    try have ht11 : t11.toInt = p1.toInt - 1 := z_sub et11 rfl (by decide) (by omega -splitDisjunctions) (by omega -splitDisjunctions)
    refine z_iS (As := [.int p2, .int 0, .int t11]) (rest := []) hF (c_X9_in l D ca sa A _ p2 0 t11) (va_cwS 3 hts gX9_hang_X9_in rfl rfl rfl (by decide +kernel) ⟨Nat.le_of_ble_eq_true rfl, Nat.le_of_ble_eq_true rfl⟩) hE hP hD hS rfl hl.1 rfl (Nat.le_of_ble_eq_true rfl) dX9_hang_13 ⟨Nat.zero_le _, Nat.zero_le _⟩ (fun t13 u12 H locs hw14 hP hD hS => ?_)
    have hw14 : ((t13.toInt = 1 ∧ (0 : Int32).toInt ≤ p2.toInt ∧ p2.toInt ≤ t11.toInt) ∨ (t13.toInt = 0 ∧ (p2.toInt < (0 : Int32).toInt ∨ t11.toInt < p2.toInt))) := hw14
    have hq15 := hw14
    clear hw14
    have hk16 : (0 : Int32).toInt = 0 := by decide
    refine lv_if_ne (tgt := 22) hx hb dX9_hang_16 (by decide) (fun c17 => ?_) (fun c17 => ?_)
    ·
      have c17 := z_ne (i := t13.toInt) (j := 0) rfl (by decide) c17
      have hpc : (p1.toNatClampNeg : Int) = p1.toInt := by rw [z_cl]; omega
      refine lv_iconst (v := 0) hx hb dX9_hang_22 (by decide) ?_
      refine lv_topi (fun t18 et18 => ?_)
      have ht18 : t18.toInt = 0 := by rw [et18]; decide
      refine lv_istore_n (lv' := [(3, .int t18), (0, .ref (r0 0)), (1, .int p1), (2, .int p2)]) hx hb dX9_hang_23 rfl hl (by decide) rfl (fun ls hl => ?_)
      have J24_19 : ∀ (n19 : Nat) (x3_19 : Int32) (ls : Array Slot) (hl : lv_has ls 4 [(0, .ref (r0 0)), (1, .int p1), (2, .int p2), (3, .int x3_19)]) (hRV_19 : ∀ i : Nat, i < (x3_19.toInt).toNat → fa0 8 (3 * p1.toNatClampNeg + i) ≠ p2) (hf19_0 : 0 ≤ x3_19.toInt ∧ x3_19.toInt ≤ 3), (4 - x3_19.toInt).toNat < n19 → W p l e (headSpec wsX9_hang ({ frames := 2, cells := 0, slots := 0, locals := 43 })).room s m ([.ref (r0 0), .int p1, .int p2] : List Value).toArray below meth c H locs 0 0 Q9 (F0 m 24 ls []) := by
        intro n19
        induction n19 with
        | zero => intro x3_19 ls hl hRV_19 hf19_0 hn9; exact absurd hn9 (Nat.not_lt_zero _)
        | succ n19 ih19 =>
          intro x3_19 ls hl hRV_19 hf19_0 hn9
          refine lv_iload_n hx hb dX9_hang_24 rfl (lv_at hl 3 rfl) ?_
          refine lv_aload_n hx hb dX9_hang_25 rfl (lv_at hl 0 rfl) ?_
          refine va_get (D := D) (ci := 9) (v := .ref (r0 10)) (C := RX9) (T := TX9) (N := 44) hx hb hts inX9 hown hK hP 0 rfl rfl 19 (by decide) lk42 (fun _ h9 => h9) rfl dX9_hang_26 ?_
          refine lv_iload_n hx hb dX9_hang_29 rfl (lv_at hl 1 rfl) ?_
          have hi20 : vp_in p1 60 := z_in (i := p1.toInt) rfl (by omega) (by omega)
          refine va_iald hx hb hK hP 10 0 rfl rfl hi20 dX9_hang_30 ?_
          refine lv_topi (fun t21 et21 => ?_)
          have ht21v : t21.toInt = ((fa0 9) p1.toNatClampNeg).toInt := by rw [et21]
          have ht21 := z_at hv0a9 et21
          refine lv_icmp_ge (tgt := 61) hx hb dX9_hang_31 (by decide) (fun c22 => ?_) (fun c22 => ?_)
          ·
            have c22 := z_le (i := t21.toInt) (j := x3_19.toInt) rfl rfl c22
            refine lv_aload_n hx hb dX9_hang_61 rfl (lv_at hl 0 rfl) ?_
            refine va_get (D := D) (ci := 9) (v := .ref (r0 10)) (C := RX9) (T := TX9) (N := 44) hx hb hts inX9 hown hK hP 0 rfl rfl 19 (by decide) lk42 (fun _ h9 => h9) rfl dX9_hang_62 ?_
            refine lv_iload_n hx hb dX9_hang_65 rfl (lv_at hl 1 rfl) ?_
            have hi23 : vp_in p1 60 := z_in (i := p1.toInt) rfl (by omega) (by omega)
            refine va_iald hx hb hK hP 10 0 rfl rfl hi23 dX9_hang_66 ?_
            refine lv_topi (fun t24 et24 => ?_)
            have ht24q : t24.toInt = t21.toInt := by rw [et24, et21]
            have ht24v : t24.toInt = ((fa0 9) p1.toNatClampNeg).toInt := by rw [et24]
            have ht24 := z_at hv0a9 et24
            refine lv_iconst (v := 3) hx hb dX9_hang_67 (by decide) ?_
            refine lv_icmp_ne (tgt := 74) hx hb dX9_hang_68 (by decide) (fun c25 => ?_) (fun c25 => ?_)
            ·
              have c25 := z_ne (i := t24.toInt) (j := 3) rfl (by decide) c25
              refine lv_aload_n hx hb dX9_hang_74 rfl (lv_at hl 0 rfl) ?_
              refine va_get (D := D) (ci := 9) (v := .ref (r0 9)) (C := RX9) (T := TX9) (N := 44) hx hb hts inX9 hown hK hP 0 rfl rfl 18 (by decide) lk39 (fun _ h9 => h9) rfl dX9_hang_75 ?_
              refine lv_iconst (v := 3) hx hb dX9_hang_78 (by decide) ?_
              refine lv_iload_n hx hb dX9_hang_79 rfl (lv_at hl 1 rfl) ?_
              refine lv_imul hx hb dX9_hang_80 ?_
              refine lv_topi (fun t26 et26 => ?_)
              try have ht26 : t26.toInt = 3 * p1.toInt := z_mul et26 (by decide) rfl (by omega -splitDisjunctions) (by omega -splitDisjunctions)
              refine lv_aload_n hx hb dX9_hang_81 rfl (lv_at hl 0 rfl) ?_
              refine va_get (D := D) (ci := 9) (v := .ref (r0 10)) (C := RX9) (T := TX9) (N := 44) hx hb hts inX9 hown hK hP 0 rfl rfl 19 (by decide) lk42 (fun _ h9 => h9) rfl dX9_hang_82 ?_
              refine lv_iload_n hx hb dX9_hang_85 rfl (lv_at hl 1 rfl) ?_
              have hi27 : vp_in p1 60 := z_in (i := p1.toInt) rfl (by omega) (by omega)
              refine va_iald hx hb hK hP 10 0 rfl rfl hi27 dX9_hang_86 ?_
              refine lv_topi (fun t28 et28 => ?_)
              have ht28q : t28.toInt = t21.toInt := by rw [et28, et21]
              have ht28v : t28.toInt = ((fa0 9) p1.toNatClampNeg).toInt := by rw [et28]
              have ht28 := z_at hv0a9 et28
              refine lv_iadd hx hb dX9_hang_87 ?_
              refine lv_topi (fun t29 et29 => ?_)
              try have ht29 : t29.toInt = t26.toInt + t28.toInt := z_add et29 rfl rfl (by omega -splitDisjunctions) (by omega -splitDisjunctions)
              refine lv_iload_n hx hb dX9_hang_88 rfl (lv_at hl 2 rfl) ?_
              have hi30 : vp_in t29 180 := z_in (i := t29.toInt) rfl (by omega) (by omega)
              refine va_iast hx hb hK hP hD hS 9 0 rfl rfl hi30 dX9_hang_89 (fun H locs hP hD hS => ?_)
              generalize eg31 : upd (fa0 8) t29.toNatClampNeg p2 = g31 at hP hD
              have hg31 : z_rng 0 59 g31 := z_upd (i := p2.toInt) eg31.symm hv0a8 rfl (by omega) (by omega)
              have hP : va_P D vwCl (((r0 0), .inr (9, [.ref (r0 1), .int (fi0 0), .int (fi0 1), .int (fi0 2), .int (fi0 3), .int (fi0 4), .int (fi0 5), .int (fi0 6), .int (fi0 7), .int (fi0 8), .ref (r0 2), .int (fi0 9), .ref (r0 3), .ref (r0 4), .ref (r0 5), .ref (r0 6), .ref (r0 7), .ref (r0 8), .ref (r0 9), .ref (r0 10), .ref (r0 11), .ref (r0 12), .ref (r0 13), .ref (r0 14), .ref (r0 15), .ref (r0 16), .ref (r0 17), .ref (r0 18), .ref (r0 19), .ref (r0 20), .ref (r0 21), .ref (r0 22), .ref (r0 23), .ref (r0 24), .ref (r0 25), .ref (r0 26), .ref (r0 27), .ref (r0 28), .ref (r0 29), .ref (r0 30), .ref (r0 31), .ref (r0 32), .int (fi0 10), .ref (r0 33)])) :: ((r0 1), .inl (ca 2, 600, .inl (fa0 0))) :: ((r0 2), .inl (ca 0, 48, .inl (fa0 1))) :: ((r0 3), .inl (ca 0, 60, .inl (fa0 2))) :: ((r0 4), .inl (ca 0, 60, .inl (fa0 3))) :: ((r0 5), .inl (ca 0, 60, .inl (fa0 4))) :: ((r0 6), .inl (ca 0, 60, .inl (fa0 5))) :: ((r0 7), .inl (ca 0, 60, .inl (fa0 6))) :: ((r0 8), .inl (ca 0, 60, .inl (fa0 7))) :: ((r0 9), .inl (ca 0, 180, .inl g31)) :: ((r0 10), .inl (ca 0, 60, .inl (fa0 9))) :: ((r0 11), .inl (ca 0, 180, .inl (fa0 10))) :: ((r0 12), .inl (ca 0, 180, .inl (fa0 11))) :: ((r0 13), .inl (ca 0, 180, .inl (fa0 12))) :: ((r0 14), .inl (ca 0, 180, .inl (fa0 13))) :: ((r0 15), .inl (ca 0, 180, .inl (fa0 14))) :: ((r0 16), .inl (ca 0, 180, .inl (fa0 15))) :: ((r0 17), .inl (ca 0, 180, .inl (fa0 16))) :: ((r0 18), .inl (ca 0, 180, .inl (fa0 17))) :: ((r0 19), .inl (ca 0, 180, .inl (fa0 18))) :: ((r0 20), .inl (ca 0, 180, .inl (fa0 19))) :: ((r0 21), .inl (ca 0, 3, .inl (fa0 20))) :: ((r0 22), .inl (ca 1, 3, .inr (.inl (fb0 0)))) :: ((r0 23), .inl (ca 1, 3, .inr (.inl (fb0 1)))) :: ((r0 24), .inl (ca 3, 3, .inl (fa0 21))) :: ((r0 25), .inl (ca 0, 3, .inl (fa0 22))) :: ((r0 26), .inl (ca 0, 3, .inl (fa0 23))) :: ((r0 27), .inl (ca 0, 810, .inl (fa0 24))) :: ((r0 28), .inl (ca 3, 810, .inl (fa0 25))) :: ((r0 29), .inl (ca 1, 810, .inr (.inl (fb0 2)))) :: ((r0 30), .inl (ca 0, 810, .inl (fa0 26))) :: ((r0 31), .inl (ca 0, 3, .inl (fa0 27))) :: ((r0 32), .inl (ca 0, 60, .inl (fa0 28))) :: ((r0 33), .inl (ca 0, 4, .inl (fa0 29))) :: rest) H := hP
              have hD : va_D A (((r0 0), .inr (9, [.ref (r0 1), .int (fi0 0), .int (fi0 1), .int (fi0 2), .int (fi0 3), .int (fi0 4), .int (fi0 5), .int (fi0 6), .int (fi0 7), .int (fi0 8), .ref (r0 2), .int (fi0 9), .ref (r0 3), .ref (r0 4), .ref (r0 5), .ref (r0 6), .ref (r0 7), .ref (r0 8), .ref (r0 9), .ref (r0 10), .ref (r0 11), .ref (r0 12), .ref (r0 13), .ref (r0 14), .ref (r0 15), .ref (r0 16), .ref (r0 17), .ref (r0 18), .ref (r0 19), .ref (r0 20), .ref (r0 21), .ref (r0 22), .ref (r0 23), .ref (r0 24), .ref (r0 25), .ref (r0 26), .ref (r0 27), .ref (r0 28), .ref (r0 29), .ref (r0 30), .ref (r0 31), .ref (r0 32), .int (fi0 10), .ref (r0 33)])) :: ((r0 1), .inl (ca 2, 600, .inl (fa0 0))) :: ((r0 2), .inl (ca 0, 48, .inl (fa0 1))) :: ((r0 3), .inl (ca 0, 60, .inl (fa0 2))) :: ((r0 4), .inl (ca 0, 60, .inl (fa0 3))) :: ((r0 5), .inl (ca 0, 60, .inl (fa0 4))) :: ((r0 6), .inl (ca 0, 60, .inl (fa0 5))) :: ((r0 7), .inl (ca 0, 60, .inl (fa0 6))) :: ((r0 8), .inl (ca 0, 60, .inl (fa0 7))) :: ((r0 9), .inl (ca 0, 180, .inl g31)) :: ((r0 10), .inl (ca 0, 60, .inl (fa0 9))) :: ((r0 11), .inl (ca 0, 180, .inl (fa0 10))) :: ((r0 12), .inl (ca 0, 180, .inl (fa0 11))) :: ((r0 13), .inl (ca 0, 180, .inl (fa0 12))) :: ((r0 14), .inl (ca 0, 180, .inl (fa0 13))) :: ((r0 15), .inl (ca 0, 180, .inl (fa0 14))) :: ((r0 16), .inl (ca 0, 180, .inl (fa0 15))) :: ((r0 17), .inl (ca 0, 180, .inl (fa0 16))) :: ((r0 18), .inl (ca 0, 180, .inl (fa0 17))) :: ((r0 19), .inl (ca 0, 180, .inl (fa0 18))) :: ((r0 20), .inl (ca 0, 180, .inl (fa0 19))) :: ((r0 21), .inl (ca 0, 3, .inl (fa0 20))) :: ((r0 22), .inl (ca 1, 3, .inr (.inl (fb0 0)))) :: ((r0 23), .inl (ca 1, 3, .inr (.inl (fb0 1)))) :: ((r0 24), .inl (ca 3, 3, .inl (fa0 21))) :: ((r0 25), .inl (ca 0, 3, .inl (fa0 22))) :: ((r0 26), .inl (ca 0, 3, .inl (fa0 23))) :: ((r0 27), .inl (ca 0, 810, .inl (fa0 24))) :: ((r0 28), .inl (ca 3, 810, .inl (fa0 25))) :: ((r0 29), .inl (ca 1, 810, .inr (.inl (fb0 2)))) :: ((r0 30), .inl (ca 0, 810, .inl (fa0 26))) :: ((r0 31), .inl (ca 0, 3, .inl (fa0 27))) :: ((r0 32), .inl (ca 0, 60, .inl (fa0 28))) :: ((r0 33), .inl (ca 0, 4, .inl (fa0 29))) :: rest) := hD
              refine lv_aload_n hx hb dX9_hang_90 rfl (lv_at hl 0 rfl) ?_
              refine va_get (D := D) (ci := 9) (v := .ref (r0 10)) (C := RX9) (T := TX9) (N := 44) hx hb hts inX9 hown hK hP 0 rfl rfl 19 (by decide) lk42 (fun _ h9 => h9) rfl dX9_hang_91 ?_
              refine lv_iload_n hx hb dX9_hang_94 rfl (lv_at hl 1 rfl) ?_
              refine lv_dup2_11 hx hb dX9_hang_95 rfl rfl ?_
              have hi32 : vp_in p1 60 := z_in (i := p1.toInt) rfl (by omega) (by omega)
              refine va_iald hx hb hK hP 10 0 rfl rfl hi32 dX9_hang_96 ?_
              refine lv_topi (fun t33 et33 => ?_)
              have ht33q : t33.toInt = t21.toInt := by rw [et33, et21]
              have ht33v : t33.toInt = ((fa0 9) p1.toNatClampNeg).toInt := by rw [et33]
              have ht33 := z_at hv0a9 et33
              refine lv_iconst (v := 1) hx hb dX9_hang_97 (by decide) ?_
              refine lv_iadd hx hb dX9_hang_98 ?_
              refine lv_topi (fun t34 et34 => ?_)
              try have ht34 : t34.toInt = t33.toInt + 1 := z_add et34 rfl (by decide) (by omega -splitDisjunctions) (by omega -splitDisjunctions)
              have hi35 : vp_in p1 60 := z_in (i := p1.toInt) rfl (by omega) (by omega)
              refine va_iast hx hb hK hP hD hS 10 0 rfl rfl hi35 dX9_hang_99 (fun H locs hP hD hS => ?_)
              generalize eg36 : upd (fa0 9) p1.toNatClampNeg t34 = g36 at hP hD
              have hg36 : z_rng 0 3 g36 := z_upd (i := t34.toInt) eg36.symm hv0a9 rfl (by omega) (by omega)
              have hP : va_P D vwCl (((r0 0), .inr (9, [.ref (r0 1), .int (fi0 0), .int (fi0 1), .int (fi0 2), .int (fi0 3), .int (fi0 4), .int (fi0 5), .int (fi0 6), .int (fi0 7), .int (fi0 8), .ref (r0 2), .int (fi0 9), .ref (r0 3), .ref (r0 4), .ref (r0 5), .ref (r0 6), .ref (r0 7), .ref (r0 8), .ref (r0 9), .ref (r0 10), .ref (r0 11), .ref (r0 12), .ref (r0 13), .ref (r0 14), .ref (r0 15), .ref (r0 16), .ref (r0 17), .ref (r0 18), .ref (r0 19), .ref (r0 20), .ref (r0 21), .ref (r0 22), .ref (r0 23), .ref (r0 24), .ref (r0 25), .ref (r0 26), .ref (r0 27), .ref (r0 28), .ref (r0 29), .ref (r0 30), .ref (r0 31), .ref (r0 32), .int (fi0 10), .ref (r0 33)])) :: ((r0 1), .inl (ca 2, 600, .inl (fa0 0))) :: ((r0 2), .inl (ca 0, 48, .inl (fa0 1))) :: ((r0 3), .inl (ca 0, 60, .inl (fa0 2))) :: ((r0 4), .inl (ca 0, 60, .inl (fa0 3))) :: ((r0 5), .inl (ca 0, 60, .inl (fa0 4))) :: ((r0 6), .inl (ca 0, 60, .inl (fa0 5))) :: ((r0 7), .inl (ca 0, 60, .inl (fa0 6))) :: ((r0 8), .inl (ca 0, 60, .inl (fa0 7))) :: ((r0 9), .inl (ca 0, 180, .inl g31)) :: ((r0 10), .inl (ca 0, 60, .inl g36)) :: ((r0 11), .inl (ca 0, 180, .inl (fa0 10))) :: ((r0 12), .inl (ca 0, 180, .inl (fa0 11))) :: ((r0 13), .inl (ca 0, 180, .inl (fa0 12))) :: ((r0 14), .inl (ca 0, 180, .inl (fa0 13))) :: ((r0 15), .inl (ca 0, 180, .inl (fa0 14))) :: ((r0 16), .inl (ca 0, 180, .inl (fa0 15))) :: ((r0 17), .inl (ca 0, 180, .inl (fa0 16))) :: ((r0 18), .inl (ca 0, 180, .inl (fa0 17))) :: ((r0 19), .inl (ca 0, 180, .inl (fa0 18))) :: ((r0 20), .inl (ca 0, 180, .inl (fa0 19))) :: ((r0 21), .inl (ca 0, 3, .inl (fa0 20))) :: ((r0 22), .inl (ca 1, 3, .inr (.inl (fb0 0)))) :: ((r0 23), .inl (ca 1, 3, .inr (.inl (fb0 1)))) :: ((r0 24), .inl (ca 3, 3, .inl (fa0 21))) :: ((r0 25), .inl (ca 0, 3, .inl (fa0 22))) :: ((r0 26), .inl (ca 0, 3, .inl (fa0 23))) :: ((r0 27), .inl (ca 0, 810, .inl (fa0 24))) :: ((r0 28), .inl (ca 3, 810, .inl (fa0 25))) :: ((r0 29), .inl (ca 1, 810, .inr (.inl (fb0 2)))) :: ((r0 30), .inl (ca 0, 810, .inl (fa0 26))) :: ((r0 31), .inl (ca 0, 3, .inl (fa0 27))) :: ((r0 32), .inl (ca 0, 60, .inl (fa0 28))) :: ((r0 33), .inl (ca 0, 4, .inl (fa0 29))) :: rest) H := hP
              have hD : va_D A (((r0 0), .inr (9, [.ref (r0 1), .int (fi0 0), .int (fi0 1), .int (fi0 2), .int (fi0 3), .int (fi0 4), .int (fi0 5), .int (fi0 6), .int (fi0 7), .int (fi0 8), .ref (r0 2), .int (fi0 9), .ref (r0 3), .ref (r0 4), .ref (r0 5), .ref (r0 6), .ref (r0 7), .ref (r0 8), .ref (r0 9), .ref (r0 10), .ref (r0 11), .ref (r0 12), .ref (r0 13), .ref (r0 14), .ref (r0 15), .ref (r0 16), .ref (r0 17), .ref (r0 18), .ref (r0 19), .ref (r0 20), .ref (r0 21), .ref (r0 22), .ref (r0 23), .ref (r0 24), .ref (r0 25), .ref (r0 26), .ref (r0 27), .ref (r0 28), .ref (r0 29), .ref (r0 30), .ref (r0 31), .ref (r0 32), .int (fi0 10), .ref (r0 33)])) :: ((r0 1), .inl (ca 2, 600, .inl (fa0 0))) :: ((r0 2), .inl (ca 0, 48, .inl (fa0 1))) :: ((r0 3), .inl (ca 0, 60, .inl (fa0 2))) :: ((r0 4), .inl (ca 0, 60, .inl (fa0 3))) :: ((r0 5), .inl (ca 0, 60, .inl (fa0 4))) :: ((r0 6), .inl (ca 0, 60, .inl (fa0 5))) :: ((r0 7), .inl (ca 0, 60, .inl (fa0 6))) :: ((r0 8), .inl (ca 0, 60, .inl (fa0 7))) :: ((r0 9), .inl (ca 0, 180, .inl g31)) :: ((r0 10), .inl (ca 0, 60, .inl g36)) :: ((r0 11), .inl (ca 0, 180, .inl (fa0 10))) :: ((r0 12), .inl (ca 0, 180, .inl (fa0 11))) :: ((r0 13), .inl (ca 0, 180, .inl (fa0 12))) :: ((r0 14), .inl (ca 0, 180, .inl (fa0 13))) :: ((r0 15), .inl (ca 0, 180, .inl (fa0 14))) :: ((r0 16), .inl (ca 0, 180, .inl (fa0 15))) :: ((r0 17), .inl (ca 0, 180, .inl (fa0 16))) :: ((r0 18), .inl (ca 0, 180, .inl (fa0 17))) :: ((r0 19), .inl (ca 0, 180, .inl (fa0 18))) :: ((r0 20), .inl (ca 0, 180, .inl (fa0 19))) :: ((r0 21), .inl (ca 0, 3, .inl (fa0 20))) :: ((r0 22), .inl (ca 1, 3, .inr (.inl (fb0 0)))) :: ((r0 23), .inl (ca 1, 3, .inr (.inl (fb0 1)))) :: ((r0 24), .inl (ca 3, 3, .inl (fa0 21))) :: ((r0 25), .inl (ca 0, 3, .inl (fa0 22))) :: ((r0 26), .inl (ca 0, 3, .inl (fa0 23))) :: ((r0 27), .inl (ca 0, 810, .inl (fa0 24))) :: ((r0 28), .inl (ca 3, 810, .inl (fa0 25))) :: ((r0 29), .inl (ca 1, 810, .inr (.inl (fb0 2)))) :: ((r0 30), .inl (ca 0, 810, .inl (fa0 26))) :: ((r0 31), .inl (ca 0, 3, .inl (fa0 27))) :: ((r0 32), .inl (ca 0, 60, .inl (fa0 28))) :: ((r0 33), .inl (ca 0, 4, .inl (fa0 29))) :: rest) := hD
              refine lv_aload_n hx hb dX9_hang_100 rfl (lv_at hl 0 rfl) ?_
              refine lv_iconst (v := (-1)) hx hb dX9_hang_101 (by decide) ?_
              refine lv_topi (fun t37 et37 => ?_)
              have ht37 : t37.toInt = (-1) := by rw [et37]; decide
              refine va_put (D := D) (ci := 9) (v := .int t37) (ty := .int) (C := RX9) (T := TX9) (N := 44) hx hb hts inX9 tyX9 tyX9_ok nmX9 hown hK hP hD hS 0 rfl rfl 42 (by decide) lk113 (fun _ h9 => h9) rfl (by decide +kernel) rfl rfl (Nat.le_of_ble_eq_true rfl) dX9_hang_102 (fun H locs hP hD hS => ?_)
              have hP : va_P D vwCl (((r0 0), .inr (9, [.ref (r0 1), .int (fi0 0), .int (fi0 1), .int (fi0 2), .int (fi0 3), .int (fi0 4), .int (fi0 5), .int (fi0 6), .int (fi0 7), .int (fi0 8), .ref (r0 2), .int (fi0 9), .ref (r0 3), .ref (r0 4), .ref (r0 5), .ref (r0 6), .ref (r0 7), .ref (r0 8), .ref (r0 9), .ref (r0 10), .ref (r0 11), .ref (r0 12), .ref (r0 13), .ref (r0 14), .ref (r0 15), .ref (r0 16), .ref (r0 17), .ref (r0 18), .ref (r0 19), .ref (r0 20), .ref (r0 21), .ref (r0 22), .ref (r0 23), .ref (r0 24), .ref (r0 25), .ref (r0 26), .ref (r0 27), .ref (r0 28), .ref (r0 29), .ref (r0 30), .ref (r0 31), .ref (r0 32), .int t37, .ref (r0 33)])) :: ((r0 1), .inl (ca 2, 600, .inl (fa0 0))) :: ((r0 2), .inl (ca 0, 48, .inl (fa0 1))) :: ((r0 3), .inl (ca 0, 60, .inl (fa0 2))) :: ((r0 4), .inl (ca 0, 60, .inl (fa0 3))) :: ((r0 5), .inl (ca 0, 60, .inl (fa0 4))) :: ((r0 6), .inl (ca 0, 60, .inl (fa0 5))) :: ((r0 7), .inl (ca 0, 60, .inl (fa0 6))) :: ((r0 8), .inl (ca 0, 60, .inl (fa0 7))) :: ((r0 9), .inl (ca 0, 180, .inl g31)) :: ((r0 10), .inl (ca 0, 60, .inl g36)) :: ((r0 11), .inl (ca 0, 180, .inl (fa0 10))) :: ((r0 12), .inl (ca 0, 180, .inl (fa0 11))) :: ((r0 13), .inl (ca 0, 180, .inl (fa0 12))) :: ((r0 14), .inl (ca 0, 180, .inl (fa0 13))) :: ((r0 15), .inl (ca 0, 180, .inl (fa0 14))) :: ((r0 16), .inl (ca 0, 180, .inl (fa0 15))) :: ((r0 17), .inl (ca 0, 180, .inl (fa0 16))) :: ((r0 18), .inl (ca 0, 180, .inl (fa0 17))) :: ((r0 19), .inl (ca 0, 180, .inl (fa0 18))) :: ((r0 20), .inl (ca 0, 180, .inl (fa0 19))) :: ((r0 21), .inl (ca 0, 3, .inl (fa0 20))) :: ((r0 22), .inl (ca 1, 3, .inr (.inl (fb0 0)))) :: ((r0 23), .inl (ca 1, 3, .inr (.inl (fb0 1)))) :: ((r0 24), .inl (ca 3, 3, .inl (fa0 21))) :: ((r0 25), .inl (ca 0, 3, .inl (fa0 22))) :: ((r0 26), .inl (ca 0, 3, .inl (fa0 23))) :: ((r0 27), .inl (ca 0, 810, .inl (fa0 24))) :: ((r0 28), .inl (ca 3, 810, .inl (fa0 25))) :: ((r0 29), .inl (ca 1, 810, .inr (.inl (fb0 2)))) :: ((r0 30), .inl (ca 0, 810, .inl (fa0 26))) :: ((r0 31), .inl (ca 0, 3, .inl (fa0 27))) :: ((r0 32), .inl (ca 0, 60, .inl (fa0 28))) :: ((r0 33), .inl (ca 0, 4, .inl (fa0 29))) :: rest) H := hP
              have hD : va_D A (((r0 0), .inr (9, [.ref (r0 1), .int (fi0 0), .int (fi0 1), .int (fi0 2), .int (fi0 3), .int (fi0 4), .int (fi0 5), .int (fi0 6), .int (fi0 7), .int (fi0 8), .ref (r0 2), .int (fi0 9), .ref (r0 3), .ref (r0 4), .ref (r0 5), .ref (r0 6), .ref (r0 7), .ref (r0 8), .ref (r0 9), .ref (r0 10), .ref (r0 11), .ref (r0 12), .ref (r0 13), .ref (r0 14), .ref (r0 15), .ref (r0 16), .ref (r0 17), .ref (r0 18), .ref (r0 19), .ref (r0 20), .ref (r0 21), .ref (r0 22), .ref (r0 23), .ref (r0 24), .ref (r0 25), .ref (r0 26), .ref (r0 27), .ref (r0 28), .ref (r0 29), .ref (r0 30), .ref (r0 31), .ref (r0 32), .int t37, .ref (r0 33)])) :: ((r0 1), .inl (ca 2, 600, .inl (fa0 0))) :: ((r0 2), .inl (ca 0, 48, .inl (fa0 1))) :: ((r0 3), .inl (ca 0, 60, .inl (fa0 2))) :: ((r0 4), .inl (ca 0, 60, .inl (fa0 3))) :: ((r0 5), .inl (ca 0, 60, .inl (fa0 4))) :: ((r0 6), .inl (ca 0, 60, .inl (fa0 5))) :: ((r0 7), .inl (ca 0, 60, .inl (fa0 6))) :: ((r0 8), .inl (ca 0, 60, .inl (fa0 7))) :: ((r0 9), .inl (ca 0, 180, .inl g31)) :: ((r0 10), .inl (ca 0, 60, .inl g36)) :: ((r0 11), .inl (ca 0, 180, .inl (fa0 10))) :: ((r0 12), .inl (ca 0, 180, .inl (fa0 11))) :: ((r0 13), .inl (ca 0, 180, .inl (fa0 12))) :: ((r0 14), .inl (ca 0, 180, .inl (fa0 13))) :: ((r0 15), .inl (ca 0, 180, .inl (fa0 14))) :: ((r0 16), .inl (ca 0, 180, .inl (fa0 15))) :: ((r0 17), .inl (ca 0, 180, .inl (fa0 16))) :: ((r0 18), .inl (ca 0, 180, .inl (fa0 17))) :: ((r0 19), .inl (ca 0, 180, .inl (fa0 18))) :: ((r0 20), .inl (ca 0, 180, .inl (fa0 19))) :: ((r0 21), .inl (ca 0, 3, .inl (fa0 20))) :: ((r0 22), .inl (ca 1, 3, .inr (.inl (fb0 0)))) :: ((r0 23), .inl (ca 1, 3, .inr (.inl (fb0 1)))) :: ((r0 24), .inl (ca 3, 3, .inl (fa0 21))) :: ((r0 25), .inl (ca 0, 3, .inl (fa0 22))) :: ((r0 26), .inl (ca 0, 3, .inl (fa0 23))) :: ((r0 27), .inl (ca 0, 810, .inl (fa0 24))) :: ((r0 28), .inl (ca 3, 810, .inl (fa0 25))) :: ((r0 29), .inl (ca 1, 810, .inr (.inl (fb0 2)))) :: ((r0 30), .inl (ca 0, 810, .inl (fa0 26))) :: ((r0 31), .inl (ca 0, 3, .inl (fa0 27))) :: ((r0 32), .inl (ca 0, 60, .inl (fa0 28))) :: ((r0 33), .inl (ca 0, 4, .inl (fa0 29))) :: rest) := hD
              refine lv_aload_n hx hb dX9_hang_105 rfl (lv_at hl 0 rfl) ?_
              refine va_get (D := D) (ci := 9) (v := .ref (r0 10)) (C := RX9) (T := TX9) (N := 44) hx hb hts inX9 hown hK hP 0 rfl rfl 19 (by decide) lk42 (fun _ h9 => h9) rfl dX9_hang_106 ?_
              refine lv_iload_n hx hb dX9_hang_109 rfl (lv_at hl 1 rfl) ?_
              have hi38 : vp_in p1 60 := z_in (i := p1.toInt) rfl (by omega) (by omega)
              refine va_iald hx hb hK hP 10 0 rfl rfl hi38 dX9_hang_110 ?_
              refine lv_topi (fun t39 et39 => ?_)
              have ht39v : t39.toInt = (g36 p1.toNatClampNeg).toInt := by rw [et39]
              have ht39 := z_at hg36 et39
              rw [← hQ9]
              have ho40 : (0 ≤ (fi0 0).toInt ∧ (fi0 0).toInt ≤ 600) ∧ (0 ≤ (fi0 1).toInt ∧ (fi0 1).toInt ≤ 600) ∧ (0 ≤ (fi0 5).toInt ∧ (fi0 5).toInt ≤ 600) ∧ (0 ≤ (fi0 9).toInt ∧ (fi0 9).toInt ≤ 60) ∧ z_rng (-1) 59 (fa0 6) ∧ z_rng 0 59 g31 ∧ z_rng 0 3 g36 ∧ z_rng 0 269 (fa0 23) ∧ z_rng 0 5 (fa0 27) ∧ z_rng 0 59 (fa0 28) ∧ ((fi0 2).toInt = 1 → 0 ≤ (fi0 3).toInt) ∧ zOkR (fa0 1) (fa0 27) := ⟨⟨by omega, by omega⟩, ⟨by omega, by omega⟩, ⟨by omega, by omega⟩, ⟨by omega, by omega⟩, hv0a6, hg31, hg36, hv0a23, hv0a27, hv0a28, by omega, hv0y0⟩
              have hq41 : ((t39).toInt = -2 ∧ ¬ (0 ≤ p2.toInt ∧ p2.toInt < p1.toInt ∧ p1.toInt < ((fi0 9)).toInt) ∧ g36 = (fa0 9) ∧ g31 = (fa0 8)) ∨ ((0 ≤ p2.toInt ∧ p2.toInt < p1.toInt ∧ p1.toInt < ((fi0 9)).toInt) ∧ zHs (fa0 8) p1.toNatClampNeg ((fa0 9) p1.toNatClampNeg).toNatClampNeg p2 ∧ t39 = (fa0 9) p1.toNatClampNeg ∧ g36 = (fa0 9) ∧ g31 = (fa0 8)) ∨ ((0 ≤ p2.toInt ∧ p2.toInt < p1.toInt ∧ p1.toInt < ((fi0 9)).toInt) ∧ ¬ zHs (fa0 8) p1.toNatClampNeg ((fa0 9) p1.toNatClampNeg).toNatClampNeg p2 ∧ (t39).toInt = -3 ∧ 3 ≤ ((fa0 9) p1.toNatClampNeg).toInt ∧ g36 = (fa0 9) ∧ g31 = (fa0 8)) ∨ ((0 ≤ p2.toInt ∧ p2.toInt < p1.toInt ∧ p1.toInt < ((fi0 9)).toInt) ∧ ¬ zHs (fa0 8) p1.toNatClampNeg ((fa0 9) p1.toNatClampNeg).toNatClampNeg p2 ∧ ((fa0 9) p1.toNatClampNeg).toInt < 3 ∧ (t39).toInt = ((fa0 9) p1.toNatClampNeg).toInt + 1 ∧ g31 = upd (fa0 8) (3 * p1.toNatClampNeg + ((fa0 9) p1.toNatClampNeg).toNatClampNeg) p2 ∧ g36 = upd (fa0 9) p1.toNatClampNeg t39) := Or.inr (Or.inr (Or.inr ⟨by omega, (fun ⟨k9, hk9, he9⟩ => hRV_19 k9 (by rw [z_cl (fa0 9 p1.toNatClampNeg)] at hk9; omega) he9), by omega, by rw [et39, ← eg36, pk_us]; omega, by rw [← eg31, show t29.toNatClampNeg = 3 * p1.toNatClampNeg + (fa0 9 p1.toNatClampNeg).toNatClampNeg from by (rw [z_cl t29, z_cl (fa0 9 p1.toNatClampNeg)]; omega)], by rw [show t39 = t34 from by rw [et39, ← eg36, pk_us]]; exact eg36.symm⟩))
              exact W.iret (v := t39) hx hb hr (fun t ht hW => ⟨⟨t39, ((zl 0 [(fi0 0), (fi0 1), (fi0 2), (fi0 3), (fi0 4), (fi0 5), (fi0 6), (fi0 7), (fi0 8), (fi0 9), t37]), (zl 0 []), (zl (fun _ => 0) [(fa0 0), (fa0 1), (fa0 2), (fa0 3), (fa0 4), (fa0 5), (fa0 6), (fa0 7), g31, g36, (fa0 10), (fa0 11), (fa0 12), (fa0 13), (fa0 14), (fa0 15), (fa0 16), (fa0 17), (fa0 18), (fa0 19), (fa0 20), (fa0 21), (fa0 22), (fa0 23), (fa0 24), (fa0 25), (fa0 26), (fa0 27), (fa0 28), (fa0 29)]), (zl (fun _ => 0) [(fb0 0), (fb0 1), (fb0 2)])), rfl, ⟨ho40, hq41⟩, ⟨by rw [ht]; exact hP, hD⟩⟩, hS.F ht⟩) hS.2.2 dX9_hang_111
            ·
              have c25 := z_eq (i := t24.toInt) (j := 3) rfl (by decide) c25
              refine lv_bipush (v := (-3)) hx hb dX9_hang_71 (by decide) ?_
              rw [← hQ9]
              refine lv_topi (fun t42 et42 => ?_)
              have ht42 : t42.toInt = (-3) := by rw [et42]; decide
              have ho43 : (0 ≤ (fi0 0).toInt ∧ (fi0 0).toInt ≤ 600) ∧ (0 ≤ (fi0 1).toInt ∧ (fi0 1).toInt ≤ 600) ∧ (0 ≤ (fi0 5).toInt ∧ (fi0 5).toInt ≤ 600) ∧ (0 ≤ (fi0 9).toInt ∧ (fi0 9).toInt ≤ 60) ∧ z_rng (-1) 59 (fa0 6) ∧ z_rng 0 59 (fa0 8) ∧ z_rng 0 3 (fa0 9) ∧ z_rng 0 269 (fa0 23) ∧ z_rng 0 5 (fa0 27) ∧ z_rng 0 59 (fa0 28) ∧ ((fi0 2).toInt = 1 → 0 ≤ (fi0 3).toInt) ∧ zOkR (fa0 1) (fa0 27) := ⟨⟨by omega, by omega⟩, ⟨by omega, by omega⟩, ⟨by omega, by omega⟩, ⟨by omega, by omega⟩, hv0a6, hv0a8, hv0a9, hv0a23, hv0a27, hv0a28, by omega, hv0y0⟩
              have hq44 : ((t42).toInt = -2 ∧ ¬ (0 ≤ p2.toInt ∧ p2.toInt < p1.toInt ∧ p1.toInt < ((fi0 9)).toInt) ∧ (fa0 9) = (fa0 9) ∧ (fa0 8) = (fa0 8)) ∨ ((0 ≤ p2.toInt ∧ p2.toInt < p1.toInt ∧ p1.toInt < ((fi0 9)).toInt) ∧ zHs (fa0 8) p1.toNatClampNeg ((fa0 9) p1.toNatClampNeg).toNatClampNeg p2 ∧ t42 = (fa0 9) p1.toNatClampNeg ∧ (fa0 9) = (fa0 9) ∧ (fa0 8) = (fa0 8)) ∨ ((0 ≤ p2.toInt ∧ p2.toInt < p1.toInt ∧ p1.toInt < ((fi0 9)).toInt) ∧ ¬ zHs (fa0 8) p1.toNatClampNeg ((fa0 9) p1.toNatClampNeg).toNatClampNeg p2 ∧ (t42).toInt = -3 ∧ 3 ≤ ((fa0 9) p1.toNatClampNeg).toInt ∧ (fa0 9) = (fa0 9) ∧ (fa0 8) = (fa0 8)) ∨ ((0 ≤ p2.toInt ∧ p2.toInt < p1.toInt ∧ p1.toInt < ((fi0 9)).toInt) ∧ ¬ zHs (fa0 8) p1.toNatClampNeg ((fa0 9) p1.toNatClampNeg).toNatClampNeg p2 ∧ ((fa0 9) p1.toNatClampNeg).toInt < 3 ∧ (t42).toInt = ((fa0 9) p1.toNatClampNeg).toInt + 1 ∧ (fa0 8) = upd (fa0 8) (3 * p1.toNatClampNeg + ((fa0 9) p1.toNatClampNeg).toNatClampNeg) p2 ∧ (fa0 9) = upd (fa0 9) p1.toNatClampNeg t42) := Or.inr (Or.inr (Or.inl ⟨by omega, (fun ⟨k9, hk9, he9⟩ => hRV_19 k9 (by rw [z_cl (fa0 9 p1.toNatClampNeg)] at hk9; omega) he9), by omega, by omega, rfl, rfl⟩))
              exact W.iret (v := t42) hx hb hr (fun t ht hW => ⟨⟨t42, ((zl 0 [(fi0 0), (fi0 1), (fi0 2), (fi0 3), (fi0 4), (fi0 5), (fi0 6), (fi0 7), (fi0 8), (fi0 9), (fi0 10)]), (zl 0 []), (zl (fun _ => 0) [(fa0 0), (fa0 1), (fa0 2), (fa0 3), (fa0 4), (fa0 5), (fa0 6), (fa0 7), (fa0 8), (fa0 9), (fa0 10), (fa0 11), (fa0 12), (fa0 13), (fa0 14), (fa0 15), (fa0 16), (fa0 17), (fa0 18), (fa0 19), (fa0 20), (fa0 21), (fa0 22), (fa0 23), (fa0 24), (fa0 25), (fa0 26), (fa0 27), (fa0 28), (fa0 29)]), (zl (fun _ => 0) [(fb0 0), (fb0 1), (fb0 2)])), rfl, ⟨ho43, hq44⟩, ⟨by rw [ht]; exact hP, hD⟩⟩, hS.F ht⟩) hS.2.2 dX9_hang_73
          ·
            have c22 := z_nle (i := t21.toInt) (j := x3_19.toInt) rfl rfl c22
            refine lv_aload_n hx hb dX9_hang_34 rfl (lv_at hl 0 rfl) ?_
            refine va_get (D := D) (ci := 9) (v := .ref (r0 9)) (C := RX9) (T := TX9) (N := 44) hx hb hts inX9 hown hK hP 0 rfl rfl 18 (by decide) lk39 (fun _ h9 => h9) rfl dX9_hang_35 ?_
            refine lv_iconst (v := 3) hx hb dX9_hang_38 (by decide) ?_
            refine lv_iload_n hx hb dX9_hang_39 rfl (lv_at hl 1 rfl) ?_
            refine lv_imul hx hb dX9_hang_40 ?_
            refine lv_topi (fun t45 et45 => ?_)
            try have ht45 : t45.toInt = 3 * p1.toInt := z_mul et45 (by decide) rfl (by omega -splitDisjunctions) (by omega -splitDisjunctions)
            refine lv_iload_n hx hb dX9_hang_41 rfl (lv_at hl 3 rfl) ?_
            refine lv_iadd hx hb dX9_hang_42 ?_
            refine lv_topi (fun t46 et46 => ?_)
            try have ht46 : t46.toInt = t45.toInt + x3_19.toInt := z_add et46 rfl rfl (by omega -splitDisjunctions) (by omega -splitDisjunctions)
            have hi47 : vp_in t46 180 := z_in (i := t46.toInt) rfl (by omega) (by omega)
            refine va_iald hx hb hK hP 9 0 rfl rfl hi47 dX9_hang_43 ?_
            refine lv_topi (fun t48 et48 => ?_)
            have ht48v : t48.toInt = ((fa0 8) t46.toNatClampNeg).toInt := by rw [et48]
            have ht48 := z_at hv0a8 et48
            refine lv_iload_n hx hb dX9_hang_44 rfl (lv_at hl 2 rfl) ?_
            refine lv_icmp_ne (tgt := 55) hx hb dX9_hang_45 (by decide) (fun c49 => ?_) (fun c49 => ?_)
            ·
              have c49 := z_ne (i := t48.toInt) (j := p2.toInt) rfl rfl c49
              obtain ⟨t50, et50⟩ : ∃ y : Int32, y = x3_19 + 1 := ⟨_, rfl⟩
              try have ht50 : t50.toInt = x3_19.toInt + 1 := z_add et50 rfl (by decide) (by omega -splitDisjunctions) (by omega -splitDisjunctions)
              refine lv_iinc (v := t50) (lv' := [(3, .int t50), (0, .ref (r0 0)), (1, .int p1), (2, .int p2)]) hx hb dX9_hang_55 hl (k := 3) rfl (by rw [et50]; rfl) (by decide) rfl (fun ls hl => ?_)
              refine lv_goto (tgt := 24) hx hb dX9_hang_58 (by decide) ?_
              have hr51 : ∀ i : Nat, i < (t50.toInt).toNat → fa0 8 (3 * p1.toNatClampNeg + i) ≠ p2 := fun i hi => (show i < (x3_19.toInt).toNat ∨ i = (x3_19.toInt).toNat by omega).elim (fun q => hRV_19 i q) (fun q => by rw [q, show 3 * p1.toNatClampNeg + (x3_19.toInt).toNat = t46.toNatClampNeg from by (rw [z_cl t46]; omega), ← et48]; exact fun h9 => absurd (show t48.toInt = p2.toInt from by rw [h9]) (by omega))
              have hj52 : 0 ≤ t50.toInt ∧ t50.toInt ≤ 3 := by omega
              have hm53 : (4 - t50.toInt).toNat < n19 := by omega
              exact ih19 t50 ls (lv_sub hl [1, 2, 3, 0] rfl) hr51 hj52 hm53
            ·
              have c49 := z_eq (i := t48.toInt) (j := p2.toInt) rfl rfl c49
              refine lv_aload_n hx hb dX9_hang_48 rfl (lv_at hl 0 rfl) ?_
              refine va_get (D := D) (ci := 9) (v := .ref (r0 10)) (C := RX9) (T := TX9) (N := 44) hx hb hts inX9 hown hK hP 0 rfl rfl 19 (by decide) lk42 (fun _ h9 => h9) rfl dX9_hang_49 ?_
              refine lv_iload_n hx hb dX9_hang_52 rfl (lv_at hl 1 rfl) ?_
              have hi54 : vp_in p1 60 := z_in (i := p1.toInt) rfl (by omega) (by omega)
              refine va_iald hx hb hK hP 10 0 rfl rfl hi54 dX9_hang_53 ?_
              refine lv_topi (fun t55 et55 => ?_)
              have ht55q : t55.toInt = t21.toInt := by rw [et55, et21]
              have ht55v : t55.toInt = ((fa0 9) p1.toNatClampNeg).toInt := by rw [et55]
              have ht55 := z_at hv0a9 et55
              rw [← hQ9]
              have ho56 : (0 ≤ (fi0 0).toInt ∧ (fi0 0).toInt ≤ 600) ∧ (0 ≤ (fi0 1).toInt ∧ (fi0 1).toInt ≤ 600) ∧ (0 ≤ (fi0 5).toInt ∧ (fi0 5).toInt ≤ 600) ∧ (0 ≤ (fi0 9).toInt ∧ (fi0 9).toInt ≤ 60) ∧ z_rng (-1) 59 (fa0 6) ∧ z_rng 0 59 (fa0 8) ∧ z_rng 0 3 (fa0 9) ∧ z_rng 0 269 (fa0 23) ∧ z_rng 0 5 (fa0 27) ∧ z_rng 0 59 (fa0 28) ∧ ((fi0 2).toInt = 1 → 0 ≤ (fi0 3).toInt) ∧ zOkR (fa0 1) (fa0 27) := ⟨⟨by omega, by omega⟩, ⟨by omega, by omega⟩, ⟨by omega, by omega⟩, ⟨by omega, by omega⟩, hv0a6, hv0a8, hv0a9, hv0a23, hv0a27, hv0a28, by omega, hv0y0⟩
              have hq57 : ((t55).toInt = -2 ∧ ¬ (0 ≤ p2.toInt ∧ p2.toInt < p1.toInt ∧ p1.toInt < ((fi0 9)).toInt) ∧ (fa0 9) = (fa0 9) ∧ (fa0 8) = (fa0 8)) ∨ ((0 ≤ p2.toInt ∧ p2.toInt < p1.toInt ∧ p1.toInt < ((fi0 9)).toInt) ∧ zHs (fa0 8) p1.toNatClampNeg ((fa0 9) p1.toNatClampNeg).toNatClampNeg p2 ∧ t55 = (fa0 9) p1.toNatClampNeg ∧ (fa0 9) = (fa0 9) ∧ (fa0 8) = (fa0 8)) ∨ ((0 ≤ p2.toInt ∧ p2.toInt < p1.toInt ∧ p1.toInt < ((fi0 9)).toInt) ∧ ¬ zHs (fa0 8) p1.toNatClampNeg ((fa0 9) p1.toNatClampNeg).toNatClampNeg p2 ∧ (t55).toInt = -3 ∧ 3 ≤ ((fa0 9) p1.toNatClampNeg).toInt ∧ (fa0 9) = (fa0 9) ∧ (fa0 8) = (fa0 8)) ∨ ((0 ≤ p2.toInt ∧ p2.toInt < p1.toInt ∧ p1.toInt < ((fi0 9)).toInt) ∧ ¬ zHs (fa0 8) p1.toNatClampNeg ((fa0 9) p1.toNatClampNeg).toNatClampNeg p2 ∧ ((fa0 9) p1.toNatClampNeg).toInt < 3 ∧ (t55).toInt = ((fa0 9) p1.toNatClampNeg).toInt + 1 ∧ (fa0 8) = upd (fa0 8) (3 * p1.toNatClampNeg + ((fa0 9) p1.toNatClampNeg).toNatClampNeg) p2 ∧ (fa0 9) = upd (fa0 9) p1.toNatClampNeg t55) := Or.inr (Or.inl ⟨by omega, ⟨(x3_19.toInt).toNat, by rw [z_cl (fa0 9 p1.toNatClampNeg)]; omega, by rw [show 3 * p1.toNatClampNeg + (x3_19.toInt).toNat = t46.toNatClampNeg from by (rw [z_cl t46]; omega), ← et48]; exact Int32.toInt_inj.mp (by omega)⟩, et55, rfl, rfl⟩)
              exact W.iret (v := t55) hx hb hr (fun t ht hW => ⟨⟨t55, ((zl 0 [(fi0 0), (fi0 1), (fi0 2), (fi0 3), (fi0 4), (fi0 5), (fi0 6), (fi0 7), (fi0 8), (fi0 9), (fi0 10)]), (zl 0 []), (zl (fun _ => 0) [(fa0 0), (fa0 1), (fa0 2), (fa0 3), (fa0 4), (fa0 5), (fa0 6), (fa0 7), (fa0 8), (fa0 9), (fa0 10), (fa0 11), (fa0 12), (fa0 13), (fa0 14), (fa0 15), (fa0 16), (fa0 17), (fa0 18), (fa0 19), (fa0 20), (fa0 21), (fa0 22), (fa0 23), (fa0 24), (fa0 25), (fa0 26), (fa0 27), (fa0 28), (fa0 29)]), (zl (fun _ => 0) [(fb0 0), (fb0 1), (fb0 2)])), rfl, ⟨ho56, hq57⟩, ⟨by rw [ht]; exact hP, hD⟩⟩, hS.F ht⟩) hS.2.2 dX9_hang_54
      have hr58 : ∀ i : Nat, i < (t18.toInt).toNat → fa0 8 (3 * p1.toNatClampNeg + i) ≠ p2 := fun i hi => absurd hi (by omega)
      have hj59 : 0 ≤ t18.toInt ∧ t18.toInt ≤ 3 := by omega
      exact J24_19 ((4 - t18.toInt).toNat + 1) t18 ls (lv_sub hl [1, 2, 3, 0] rfl) hr58 hj59 (Nat.lt_succ_self _)
    ·
      have c17 := z_eq (i := t13.toInt) (j := 0) rfl (by decide) c17
      refine lv_bipush (v := (-2)) hx hb dX9_hang_19 (by decide) ?_
      rw [← hQ9]
      refine lv_topi (fun t60 et60 => ?_)
      have ht60 : t60.toInt = (-2) := by rw [et60]; decide
      have ho61 : (0 ≤ (fi0 0).toInt ∧ (fi0 0).toInt ≤ 600) ∧ (0 ≤ (fi0 1).toInt ∧ (fi0 1).toInt ≤ 600) ∧ (0 ≤ (fi0 5).toInt ∧ (fi0 5).toInt ≤ 600) ∧ (0 ≤ (fi0 9).toInt ∧ (fi0 9).toInt ≤ 60) ∧ z_rng (-1) 59 (fa0 6) ∧ z_rng 0 59 (fa0 8) ∧ z_rng 0 3 (fa0 9) ∧ z_rng 0 269 (fa0 23) ∧ z_rng 0 5 (fa0 27) ∧ z_rng 0 59 (fa0 28) ∧ ((fi0 2).toInt = 1 → 0 ≤ (fi0 3).toInt) ∧ zOkR (fa0 1) (fa0 27) := ⟨⟨by omega, by omega⟩, ⟨by omega, by omega⟩, ⟨by omega, by omega⟩, ⟨by omega, by omega⟩, hv0a6, hv0a8, hv0a9, hv0a23, hv0a27, hv0a28, by omega, hv0y0⟩
      have hq62 : ((t60).toInt = -2 ∧ ¬ (0 ≤ p2.toInt ∧ p2.toInt < p1.toInt ∧ p1.toInt < ((fi0 9)).toInt) ∧ (fa0 9) = (fa0 9) ∧ (fa0 8) = (fa0 8)) ∨ ((0 ≤ p2.toInt ∧ p2.toInt < p1.toInt ∧ p1.toInt < ((fi0 9)).toInt) ∧ zHs (fa0 8) p1.toNatClampNeg ((fa0 9) p1.toNatClampNeg).toNatClampNeg p2 ∧ t60 = (fa0 9) p1.toNatClampNeg ∧ (fa0 9) = (fa0 9) ∧ (fa0 8) = (fa0 8)) ∨ ((0 ≤ p2.toInt ∧ p2.toInt < p1.toInt ∧ p1.toInt < ((fi0 9)).toInt) ∧ ¬ zHs (fa0 8) p1.toNatClampNeg ((fa0 9) p1.toNatClampNeg).toNatClampNeg p2 ∧ (t60).toInt = -3 ∧ 3 ≤ ((fa0 9) p1.toNatClampNeg).toInt ∧ (fa0 9) = (fa0 9) ∧ (fa0 8) = (fa0 8)) ∨ ((0 ≤ p2.toInt ∧ p2.toInt < p1.toInt ∧ p1.toInt < ((fi0 9)).toInt) ∧ ¬ zHs (fa0 8) p1.toNatClampNeg ((fa0 9) p1.toNatClampNeg).toNatClampNeg p2 ∧ ((fa0 9) p1.toNatClampNeg).toInt < 3 ∧ (t60).toInt = ((fa0 9) p1.toNatClampNeg).toInt + 1 ∧ (fa0 8) = upd (fa0 8) (3 * p1.toNatClampNeg + ((fa0 9) p1.toNatClampNeg).toNatClampNeg) p2 ∧ (fa0 9) = upd (fa0 9) p1.toNatClampNeg t60) := Or.inl ⟨by omega, by omega, rfl, rfl⟩
      exact W.iret (v := t60) hx hb hr (fun t ht hW => ⟨⟨t60, ((zl 0 [(fi0 0), (fi0 1), (fi0 2), (fi0 3), (fi0 4), (fi0 5), (fi0 6), (fi0 7), (fi0 8), (fi0 9), (fi0 10)]), (zl 0 []), (zl (fun _ => 0) [(fa0 0), (fa0 1), (fa0 2), (fa0 3), (fa0 4), (fa0 5), (fa0 6), (fa0 7), (fa0 8), (fa0 9), (fa0 10), (fa0 11), (fa0 12), (fa0 13), (fa0 14), (fa0 15), (fa0 16), (fa0 17), (fa0 18), (fa0 19), (fa0 20), (fa0 21), (fa0 22), (fa0 23), (fa0 24), (fa0 25), (fa0 26), (fa0 27), (fa0 28), (fa0 29)]), (zl (fun _ => 0) [(fb0 0), (fb0 1), (fb0 2)])), rfl, ⟨ho61, hq62⟩, ⟨by rw [ht]; exact hP, hD⟩⟩, hS.F ht⟩) hS.2.2 dX9_hang_21
