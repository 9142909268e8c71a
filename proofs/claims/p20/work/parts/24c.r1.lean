def zHa (f6 f7 : Nat → Int32) (c w : Int32) : Int32 := if 10 ≤ w.toInt ∧ w.toInt < 10 + (f6 c.toNatClampNeg).toInt then f7 (3 * c.toNatClampNeg + (w.toInt - 10).toNat) else -9
def zAb (f0 f1 f2 f3 f4 f5 f6 f7 : Nat → Int32) (c w : Int32) : Int32 := if w.toInt = 0 then f0 c.toNatClampNeg else if w.toInt = 1 then f1 c.toNatClampNeg else if w.toInt = 2 then f2 c.toNatClampNeg else if w.toInt = 3 then f3 c.toNatClampNeg else if w.toInt = 4 then f4 c.toNatClampNeg else if w.toInt = 5 then f5 c.toNatClampNeg else if w.toInt = 6 then f6 c.toNatClampNeg else zHa f6 f7 c w

set_option maxHeartbeats 8000000 in
set_option maxRecDepth 100000 in
theorem c_X1_add_R (l : Launch) (D : va_G) (ca : Nat → ClassId) (sa : Nat → Nat) (A : Nat → Prop) (rest : va_W) (r0 : Nat → Nat) (fi0 : Nat → Int32) (fl0 : Nat → Int64) (fa0 : Nat → Nat → Int32) (fb0 : Nat → Nat → Int64) (hv0 : Ok_CHG fi0 fa0) (p1 : Int32) (p2 : Int32) (p3 : Int32) (p4 : Int32) : Met l yX1_add wsX1_add ({ frames := 1, cells := 0, slots := 0, locals := 22 }) (va_Pc [.ref (r0 0), .int p1, .int p2, .int p3, .int p4] (zPre D ca sa A (w_CHG ca r0 fi0 fl0 fa0 fb0 (rest)))) (va_Qi (fun (r : Int32) (u : zS) => Ok_CHG (zx [0] fi0 u.1) (zx [0, 1, 2, 3, 4, 5] fa0 u.2.2.1) ∧ (((0 ≤ p1.toInt ∧ p1.toInt ≤ 399 ∧ 1 ≤ p2.toInt ∧ p2.toInt ≤ 1073741823 ∧ 1 ≤ p3.toInt ∧ p3.toInt ≤ 20 ∧ (p4.toInt = -1 ∨ (1 ≤ p4.toInt ∧ p4.toInt ≤ 100))) ∧ (fi0 0).toInt < 60 ∧ r.toInt = (fi0 0).toInt ∧ (u.1 0).toInt = (fi0 0).toInt + 1) ∨ (¬ (0 ≤ p1.toInt ∧ p1.toInt ≤ 399 ∧ 1 ≤ p2.toInt ∧ p2.toInt ≤ 1073741823 ∧ 1 ≤ p3.toInt ∧ p3.toInt ≤ 20 ∧ (p4.toInt = -1 ∨ (1 ≤ p4.toInt ∧ p4.toInt ≤ 100))) ∧ r.toInt = -2 ∧ (u.1 0).toInt = (fi0 0).toInt) ∨ ((0 ≤ p1.toInt ∧ p1.toInt ≤ 399 ∧ 1 ≤ p2.toInt ∧ p2.toInt ≤ 1073741823 ∧ 1 ≤ p3.toInt ∧ p3.toInt ≤ 20 ∧ (p4.toInt = -1 ∨ (1 ≤ p4.toInt ∧ p4.toInt ≤ 100))) ∧ (fi0 0).toInt = 60 ∧ r.toInt = -3 ∧ (u.1 0).toInt = (fi0 0).toInt)) ∧ (((r).toInt < 0 ∧ (u.2.2.1 0) = (fa0 0) ∧ (u.2.2.1 1) = (fa0 1) ∧ (u.2.2.1 2) = (fa0 2) ∧ (u.2.2.1 3) = (fa0 3) ∧ (u.2.2.1 4) = (fa0 4) ∧ (u.2.2.1 5) = (fa0 5)) ∨ (0 ≤ (r).toInt ∧ (u.2.2.1 0) = upd (fa0 0) ((fi0 0)).toNatClampNeg p1 ∧ (u.2.2.1 1) = upd (fa0 1) ((fi0 0)).toNatClampNeg p2 ∧ (u.2.2.1 2) = upd (fa0 2) ((fi0 0)).toNatClampNeg p3 ∧ (u.2.2.1 3) = upd (fa0 3) ((fi0 0)).toNatClampNeg p4 ∧ (u.2.2.1 4) = upd (fa0 4) ((fi0 0)).toNatClampNeg (-1) ∧ (u.2.2.1 5) = upd (fa0 5) ((fi0 0)).toNatClampNeg (-1)))) (fun u t => zPost D A (w_CHG ca r0 (zx [0] fi0 u.1) (zx [] fl0 u.2.1) (zx [0, 1, 2, 3, 4, 5] fa0 u.2.2.1) (zx [1] fb0 u.2.2.2) (rest)) t) A) 0 0 A := by
  refine Met.ofW (cc := cX1_add) (maxL := 7) (ret := (some .int)) (by decide) rfl ?_
  intro p e s m args below meth c s₁ B hml hv9
  obtain ⟨rfl, hE, hP, hD⟩ := hv9
  have hx := B.exec
  have hb := B.bytes
  have hr := B.returns
  have hts := atoms_spec (ws := wsX1_add) B.pre
  have hown : s.vm.findClass RX1 = some m.cls := findClass_of_methodNamed B.named
  have hlocks := B.notSynchronized
  have hK := hE.1
  have hF : CallFix p m c cX1_add 7 s _ wsX1_add RX1 := ⟨hx, hb, hml, hown, hts⟩
  have hS : va_S A s.heap s.heap [] := va_S.rf
  have lk9 := hts (.fieldLink RX1 9 "BranchPlay$Changes" "count" "I") (by decide +kernel)
  have inX1 : ∀ w ∈ wsX10, w ∈ wsX1_add := by decide +kernel
  have lk15 := hts (.fieldLink RX1 15 "BranchPlay$Changes" "birth" "[I") (by decide +kernel)
  have lk19 := hts (.fieldLink RX1 19 "BranchPlay$Changes" "regions" "[I") (by decide +kernel)
  have lk22 := hts (.fieldLink RX1 22 "BranchPlay$Changes" "size" "[I") (by decide +kernel)
  have lk25 := hts (.fieldLink RX1 25 "BranchPlay$Changes" "breakAfter" "[I") (by decide +kernel)
  have lk28 := hts (.fieldLink RX1 28 "BranchPlay$Changes" "fixOf" "[I") (by decide +kernel)
  have lk31 := hts (.fieldLink RX1 31 "BranchPlay$Changes" "fixedBy" "[I") (by decide +kernel)
  have lk51 := hts (.fieldLink RX1 51 "BranchPlay$Changes" "births" "LBranchPlay$Agenda;") (by decide +kernel)
  have lc59 := hts (.constant RX1 59 1073741823) (by decide +kernel)
  obtain ⟨⟨hv0i0, hv0j0⟩, hv0a6⟩ := hv0
  generalize hHe : s.heap = H at hP
  have hS : va_S A s.heap H [] := by rw [← hHe]; exact hS
  have hP : va_P D vwCl (((r0 0), .inr (1, [.int (fi0 0), .ref (r0 1), .ref (r0 2), .ref (r0 3), .ref (r0 4), .ref (r0 5), .ref (r0 6), .ref (r0 7), .ref (r0 8), .ref (r0 9), .long (fl0 0), .ref (r0 10)])) :: ((r0 1), .inl (ca 0, 60, .inl (fa0 0))) :: ((r0 2), .inl (ca 0, 60, .inl (fa0 1))) :: ((r0 3), .inl (ca 0, 60, .inl (fa0 2))) :: ((r0 4), .inl (ca 0, 60, .inl (fa0 3))) :: ((r0 5), .inl (ca 0, 60, .inl (fa0 4))) :: ((r0 6), .inl (ca 0, 60, .inl (fa0 5))) :: ((r0 7), .inl (ca 0, 60, .inl (fa0 6))) :: ((r0 8), .inl (ca 0, 180, .inl (fa0 7))) :: ((r0 9), .inl (ca 1, 60, .inr (.inl (fb0 0)))) :: ((r0 10), .inr (0, [.ref (r0 11)])) :: ((r0 11), .inl (ca 1, 400, .inr (.inl (fb0 1)))) :: rest) H := hP
  have hD : va_D A (((r0 0), .inr (1, [.int (fi0 0), .ref (r0 1), .ref (r0 2), .ref (r0 3), .ref (r0 4), .ref (r0 5), .ref (r0 6), .ref (r0 7), .ref (r0 8), .ref (r0 9), .long (fl0 0), .ref (r0 10)])) :: ((r0 1), .inl (ca 0, 60, .inl (fa0 0))) :: ((r0 2), .inl (ca 0, 60, .inl (fa0 1))) :: ((r0 3), .inl (ca 0, 60, .inl (fa0 2))) :: ((r0 4), .inl (ca 0, 60, .inl (fa0 3))) :: ((r0 5), .inl (ca 0, 60, .inl (fa0 4))) :: ((r0 6), .inl (ca 0, 60, .inl (fa0 5))) :: ((r0 7), .inl (ca 0, 60, .inl (fa0 6))) :: ((r0 8), .inl (ca 0, 180, .inl (fa0 7))) :: ((r0 9), .inl (ca 1, 60, .inr (.inl (fb0 0)))) :: ((r0 10), .inr (0, [.ref (r0 11)])) :: ((r0 11), .inl (ca 1, 400, .inr (.inl (fb0 1)))) :: rest) := hD
  have hl := lv_entry ([.ref (r0 0), .int p1, .int p2, .int p3, .int p4]) (n := 7) (Nat.le_of_ble_eq_true rfl)
  rw [lg_entry_eq]
  generalize (lg_sl ([.ref (r0 0), .int p1, .int p2, .int p3, .int p4]) ++ List.replicate (7 - (lg_sl ([.ref (r0 0), .int p1, .int p2, .int p3, .int p4])).length) Slot.unset).toArray = ls at hl ⊢
  have hl : lv_has ls 7 [(0, .ref (r0 0)), (1, .int p1), (2, .int p2), (3, .int p3), (4, .int p4)] := hl
  generalize hQ9 : MQ below _ _ s 0 0 A = Q9
  refine lv_iload_n hx hb dX1_add_0 rfl (lv_at hl 1 rfl) ?_
  have J57_1 : ∀ (k0_1 : Int32) (ls : Array Slot) (hl : lv_has ls 7 [(0, .ref (r0 0)), (1, .int p1), (2, .int p2), (3, .int p3), (4, .int p4)]) (hf1_0 : (k0_1.toInt = 1 ∧ (0 ≤ p1.toInt ∧ p1.toInt ≤ 399 ∧ 1 ≤ p2.toInt ∧ p2.toInt ≤ 1073741823 ∧ 1 ≤ p3.toInt ∧ p3.toInt ≤ 20 ∧ (p4.toInt = -1 ∨ (1 ≤ p4.toInt ∧ p4.toInt ≤ 100)))) ∨ (k0_1.toInt = 0 ∧ ¬ (0 ≤ p1.toInt ∧ p1.toInt ≤ 399 ∧ 1 ≤ p2.toInt ∧ p2.toInt ≤ 1073741823 ∧ 1 ≤ p3.toInt ∧ p3.toInt ≤ 20 ∧ (p4.toInt = -1 ∨ (1 ≤ p4.toInt ∧ p4.toInt ≤ 100))))), W p l e (headSpec wsX1_add ({ frames := 1, cells := 0, slots := 0, locals := 22 })).room s m ([.ref (r0 0), .int p1, .int p2, .int p3, .int p4] : List Value).toArray below meth c H [] 0 0 Q9 (F0 m 57 ls [.int k0_1]) := by
    intro k0_1 ls hl hf1_0
    refine lv_istore (lv' := [(5, .int k0_1), (0, .ref (r0 0)), (1, .int p1), (2, .int p2), (3, .int p3), (4, .int p4)]) hx hb dX1_add_57 hl (by decide) rfl (fun ls hl => ?_)
    refine lv_iload hx hb dX1_add_59 (lv_at hl 0 rfl) ?_
    refine lv_if_ne (tgt := 67) hx hb dX1_add_61 (by decide) (fun c2 => ?_) (fun c2 => ?_)
    ·
      have c2 := z_ne (i := k0_1.toInt) (j := 0) rfl (by decide) c2
      refine lv_aload_n hx hb dX1_add_67 rfl (lv_at hl 1 rfl) ?_
      refine va_get (D := D) (ci := 1) (v := .int (fi0 0)) (C := RX1) (T := TX1) (N := 12) hx hb hts inX1 hown hK hP 0 rfl rfl 0 (by decide) lk9 (fun _ h9 => h9) rfl dX1_add_68 ?_
      refine lv_bipush (v := 60) hx hb dX1_add_71 (by decide) ?_
      refine lv_icmp_lt (tgt := 79) hx hb dX1_add_73 (by decide) (fun c3 => ?_) (fun c3 => ?_)
      ·
        have c3 := z_lt (i := (fi0 0).toInt) (j := 60) rfl (by decide) c3
        refine lv_aload_n hx hb dX1_add_79 rfl (lv_at hl 1 rfl) ?_
        refine va_get (D := D) (ci := 1) (v := .int (fi0 0)) (C := RX1) (T := TX1) (N := 12) hx hb hts inX1 hown hK hP 0 rfl rfl 0 (by decide) lk9 (fun _ h9 => h9) rfl dX1_add_80 ?_
        refine lv_istore (lv' := [(6, .int (fi0 0)), (5, .int k0_1), (0, .ref (r0 0)), (1, .int p1), (2, .int p2), (3, .int p3), (4, .int p4)]) hx hb dX1_add_83 hl (by decide) rfl (fun ls hl => ?_)
        refine lv_aload_n hx hb dX1_add_85 rfl (lv_at hl 2 rfl) ?_
        refine va_get (D := D) (ci := 1) (v := .ref (r0 1)) (C := RX1) (T := TX1) (N := 12) hx hb hts inX1 hown hK hP 0 rfl rfl 1 (by decide) lk15 (fun _ h9 => h9) rfl dX1_add_86 ?_
        refine lv_iload hx hb dX1_add_89 (lv_at hl 0 rfl) ?_
        refine lv_iload_n hx hb dX1_add_91 rfl (lv_at hl 3 rfl) ?_
        have hi4 : vp_in (fi0 0) 60 := z_in (i := (fi0 0).toInt) rfl (by omega) (by omega)
        refine va_iast hx hb hK hP hD hS 1 0 rfl rfl hi4 dX1_add_92 (fun H locs hP hD hS => ?_)
        generalize eg5 : upd (fa0 0) (fi0 0).toNatClampNeg p1 = g5 at hP hD
        have hP : va_P D vwCl (((r0 0), .inr (1, [.int (fi0 0), .ref (r0 1), .ref (r0 2), .ref (r0 3), .ref (r0 4), .ref (r0 5), .ref (r0 6), .ref (r0 7), .ref (r0 8), .ref (r0 9), .long (fl0 0), .ref (r0 10)])) :: ((r0 1), .inl (ca 0, 60, .inl g5)) :: ((r0 2), .inl (ca 0, 60, .inl (fa0 1))) :: ((r0 3), .inl (ca 0, 60, .inl (fa0 2))) :: ((r0 4), .inl (ca 0, 60, .inl (fa0 3))) :: ((r0 5), .inl (ca 0, 60, .inl (fa0 4))) :: ((r0 6), .inl (ca 0, 60, .inl (fa0 5))) :: ((r0 7), .inl (ca 0, 60, .inl (fa0 6))) :: ((r0 8), .inl (ca 0, 180, .inl (fa0 7))) :: ((r0 9), .inl (ca 1, 60, .inr (.inl (fb0 0)))) :: ((r0 10), .inr (0, [.ref (r0 11)])) :: ((r0 11), .inl (ca 1, 400, .inr (.inl (fb0 1)))) :: rest) H := hP
        have hD : va_D A (((r0 0), .inr (1, [.int (fi0 0), .ref (r0 1), .ref (r0 2), .ref (r0 3), .ref (r0 4), .ref (r0 5), .ref (r0 6), .ref (r0 7), .ref (r0 8), .ref (r0 9), .long (fl0 0), .ref (r0 10)])) :: ((r0 1), .inl (ca 0, 60, .inl g5)) :: ((r0 2), .inl (ca 0, 60, .inl (fa0 1))) :: ((r0 3), .inl (ca 0, 60, .inl (fa0 2))) :: ((r0 4), .inl (ca 0, 60, .inl (fa0 3))) :: ((r0 5), .inl (ca 0, 60, .inl (fa0 4))) :: ((r0 6), .inl (ca 0, 60, .inl (fa0 5))) :: ((r0 7), .inl (ca 0, 60, .inl (fa0 6))) :: ((r0 8), .inl (ca 0, 180, .inl (fa0 7))) :: ((r0 9), .inl (ca 1, 60, .inr (.inl (fb0 0)))) :: ((r0 10), .inr (0, [.ref (r0 11)])) :: ((r0 11), .inl (ca 1, 400, .inr (.inl (fb0 1)))) :: rest) := hD
        refine lv_aload_n hx hb dX1_add_93 rfl (lv_at hl 2 rfl) ?_
        refine va_get (D := D) (ci := 1) (v := .ref (r0 2)) (C := RX1) (T := TX1) (N := 12) hx hb hts inX1 hown hK hP 0 rfl rfl 2 (by decide) lk19 (fun _ h9 => h9) rfl dX1_add_94 ?_
        refine lv_iload hx hb dX1_add_97 (lv_at hl 0 rfl) ?_
        refine lv_iload_n hx hb dX1_add_99 rfl (lv_at hl 4 rfl) ?_
        have hi6 : vp_in (fi0 0) 60 := z_in (i := (fi0 0).toInt) rfl (by omega) (by omega)
        refine va_iast hx hb hK hP hD hS 2 0 rfl rfl hi6 dX1_add_100 (fun H locs hP hD hS => ?_)
        generalize eg7 : upd (fa0 1) (fi0 0).toNatClampNeg p2 = g7 at hP hD
        have hP : va_P D vwCl (((r0 0), .inr (1, [.int (fi0 0), .ref (r0 1), .ref (r0 2), .ref (r0 3), .ref (r0 4), .ref (r0 5), .ref (r0 6), .ref (r0 7), .ref (r0 8), .ref (r0 9), .long (fl0 0), .ref (r0 10)])) :: ((r0 1), .inl (ca 0, 60, .inl g5)) :: ((r0 2), .inl (ca 0, 60, .inl g7)) :: ((r0 3), .inl (ca 0, 60, .inl (fa0 2))) :: ((r0 4), .inl (ca 0, 60, .inl (fa0 3))) :: ((r0 5), .inl (ca 0, 60, .inl (fa0 4))) :: ((r0 6), .inl (ca 0, 60, .inl (fa0 5))) :: ((r0 7), .inl (ca 0, 60, .inl (fa0 6))) :: ((r0 8), .inl (ca 0, 180, .inl (fa0 7))) :: ((r0 9), .inl (ca 1, 60, .inr (.inl (fb0 0)))) :: ((r0 10), .inr (0, [.ref (r0 11)])) :: ((r0 11), .inl (ca 1, 400, .inr (.inl (fb0 1)))) :: rest) H := hP
        have hD : va_D A (((r0 0), .inr (1, [.int (fi0 0), .ref (r0 1), .ref (r0 2), .ref (r0 3), .ref (r0 4), .ref (r0 5), .ref (r0 6), .ref (r0 7), .ref (r0 8), .ref (r0 9), .long (fl0 0), .ref (r0 10)])) :: ((r0 1), .inl (ca 0, 60, .inl g5)) :: ((r0 2), .inl (ca 0, 60, .inl g7)) :: ((r0 3), .inl (ca 0, 60, .inl (fa0 2))) :: ((r0 4), .inl (ca 0, 60, .inl (fa0 3))) :: ((r0 5), .inl (ca 0, 60, .inl (fa0 4))) :: ((r0 6), .inl (ca 0, 60, .inl (fa0 5))) :: ((r0 7), .inl (ca 0, 60, .inl (fa0 6))) :: ((r0 8), .inl (ca 0, 180, .inl (fa0 7))) :: ((r0 9), .inl (ca 1, 60, .inr (.inl (fb0 0)))) :: ((r0 10), .inr (0, [.ref (r0 11)])) :: ((r0 11), .inl (ca 1, 400, .inr (.inl (fb0 1)))) :: rest) := hD
        refine lv_aload_n hx hb dX1_add_101 rfl (lv_at hl 2 rfl) ?_
        refine va_get (D := D) (ci := 1) (v := .ref (r0 3)) (C := RX1) (T := TX1) (N := 12) hx hb hts inX1 hown hK hP 0 rfl rfl 3 (by decide) lk22 (fun _ h9 => h9) rfl dX1_add_102 ?_
        refine lv_iload hx hb dX1_add_105 (lv_at hl 0 rfl) ?_
        refine lv_iload_n hx hb dX1_add_107 rfl (lv_at hl 5 rfl) ?_
        have hi8 : vp_in (fi0 0) 60 := z_in (i := (fi0 0).toInt) rfl (by omega) (by omega)
        refine va_iast hx hb hK hP hD hS 3 0 rfl rfl hi8 dX1_add_108 (fun H locs hP hD hS => ?_)
        generalize eg9 : upd (fa0 2) (fi0 0).toNatClampNeg p3 = g9 at hP hD
        have hP : va_P D vwCl (((r0 0), .inr (1, [.int (fi0 0), .ref (r0 1), .ref (r0 2), .ref (r0 3), .ref (r0 4), .ref (r0 5), .ref (r0 6), .ref (r0 7), .ref (r0 8), .ref (r0 9), .long (fl0 0), .ref (r0 10)])) :: ((r0 1), .inl (ca 0, 60, .inl g5)) :: ((r0 2), .inl (ca 0, 60, .inl g7)) :: ((r0 3), .inl (ca 0, 60, .inl g9)) :: ((r0 4), .inl (ca 0, 60, .inl (fa0 3))) :: ((r0 5), .inl (ca 0, 60, .inl (fa0 4))) :: ((r0 6), .inl (ca 0, 60, .inl (fa0 5))) :: ((r0 7), .inl (ca 0, 60, .inl (fa0 6))) :: ((r0 8), .inl (ca 0, 180, .inl (fa0 7))) :: ((r0 9), .inl (ca 1, 60, .inr (.inl (fb0 0)))) :: ((r0 10), .inr (0, [.ref (r0 11)])) :: ((r0 11), .inl (ca 1, 400, .inr (.inl (fb0 1)))) :: rest) H := hP
        have hD : va_D A (((r0 0), .inr (1, [.int (fi0 0), .ref (r0 1), .ref (r0 2), .ref (r0 3), .ref (r0 4), .ref (r0 5), .ref (r0 6), .ref (r0 7), .ref (r0 8), .ref (r0 9), .long (fl0 0), .ref (r0 10)])) :: ((r0 1), .inl (ca 0, 60, .inl g5)) :: ((r0 2), .inl (ca 0, 60, .inl g7)) :: ((r0 3), .inl (ca 0, 60, .inl g9)) :: ((r0 4), .inl (ca 0, 60, .inl (fa0 3))) :: ((r0 5), .inl (ca 0, 60, .inl (fa0 4))) :: ((r0 6), .inl (ca 0, 60, .inl (fa0 5))) :: ((r0 7), .inl (ca 0, 60, .inl (fa0 6))) :: ((r0 8), .inl (ca 0, 180, .inl (fa0 7))) :: ((r0 9), .inl (ca 1, 60, .inr (.inl (fb0 0)))) :: ((r0 10), .inr (0, [.ref (r0 11)])) :: ((r0 11), .inl (ca 1, 400, .inr (.inl (fb0 1)))) :: rest) := hD
        refine lv_aload_n hx hb dX1_add_109 rfl (lv_at hl 2 rfl) ?_
        refine va_get (D := D) (ci := 1) (v := .ref (r0 4)) (C := RX1) (T := TX1) (N := 12) hx hb hts inX1 hown hK hP 0 rfl rfl 4 (by decide) lk25 (fun _ h9 => h9) rfl dX1_add_110 ?_
        refine lv_iload hx hb dX1_add_113 (lv_at hl 0 rfl) ?_
        refine lv_iload hx hb dX1_add_115 (lv_at hl 6 rfl) ?_
        have hi10 : vp_in (fi0 0) 60 := z_in (i := (fi0 0).toInt) rfl (by omega) (by omega)
        refine va_iast hx hb hK hP hD hS 4 0 rfl rfl hi10 dX1_add_117 (fun H locs hP hD hS => ?_)
        generalize eg11 : upd (fa0 3) (fi0 0).toNatClampNeg p4 = g11 at hP hD
        have hP : va_P D vwCl (((r0 0), .inr (1, [.int (fi0 0), .ref (r0 1), .ref (r0 2), .ref (r0 3), .ref (r0 4), .ref (r0 5), .ref (r0 6), .ref (r0 7), .ref (r0 8), .ref (r0 9), .long (fl0 0), .ref (r0 10)])) :: ((r0 1), .inl (ca 0, 60, .inl g5)) :: ((r0 2), .inl (ca 0, 60, .inl g7)) :: ((r0 3), .inl (ca 0, 60, .inl g9)) :: ((r0 4), .inl (ca 0, 60, .inl g11)) :: ((r0 5), .inl (ca 0, 60, .inl (fa0 4))) :: ((r0 6), .inl (ca 0, 60, .inl (fa0 5))) :: ((r0 7), .inl (ca 0, 60, .inl (fa0 6))) :: ((r0 8), .inl (ca 0, 180, .inl (fa0 7))) :: ((r0 9), .inl (ca 1, 60, .inr (.inl (fb0 0)))) :: ((r0 10), .inr (0, [.ref (r0 11)])) :: ((r0 11), .inl (ca 1, 400, .inr (.inl (fb0 1)))) :: rest) H := hP
        have hD : va_D A (((r0 0), .inr (1, [.int (fi0 0), .ref (r0 1), .ref (r0 2), .ref (r0 3), .ref (r0 4), .ref (r0 5), .ref (r0 6), .ref (r0 7), .ref (r0 8), .ref (r0 9), .long (fl0 0), .ref (r0 10)])) :: ((r0 1), .inl (ca 0, 60, .inl g5)) :: ((r0 2), .inl (ca 0, 60, .inl g7)) :: ((r0 3), .inl (ca 0, 60, .inl g9)) :: ((r0 4), .inl (ca 0, 60, .inl g11)) :: ((r0 5), .inl (ca 0, 60, .inl (fa0 4))) :: ((r0 6), .inl (ca 0, 60, .inl (fa0 5))) :: ((r0 7), .inl (ca 0, 60, .inl (fa0 6))) :: ((r0 8), .inl (ca 0, 180, .inl (fa0 7))) :: ((r0 9), .inl (ca 1, 60, .inr (.inl (fb0 0)))) :: ((r0 10), .inr (0, [.ref (r0 11)])) :: ((r0 11), .inl (ca 1, 400, .inr (.inl (fb0 1)))) :: rest) := hD
        refine lv_aload_n hx hb dX1_add_118 rfl (lv_at hl 2 rfl) ?_
        refine va_get (D := D) (ci := 1) (v := .ref (r0 5)) (C := RX1) (T := TX1) (N := 12) hx hb hts inX1 hown hK hP 0 rfl rfl 5 (by decide) lk28 (fun _ h9 => h9) rfl dX1_add_119 ?_
        refine lv_iload hx hb dX1_add_122 (lv_at hl 0 rfl) ?_
        refine lv_iconst (v := (-1)) hx hb dX1_add_124 (by decide) ?_
        refine lv_topi (fun t12 et12 => ?_)
        have ht12 : t12.toInt = (-1) := by rw [et12]; decide
        have hi13 : vp_in (fi0 0) 60 := z_in (i := (fi0 0).toInt) rfl (by omega) (by omega)
        refine va_iast hx hb hK hP hD hS 5 0 rfl rfl hi13 dX1_add_125 (fun H locs hP hD hS => ?_)
        generalize eg14 : upd (fa0 4) (fi0 0).toNatClampNeg t12 = g14 at hP hD
        have hP : va_P D vwCl (((r0 0), .inr (1, [.int (fi0 0), .ref (r0 1), .ref (r0 2), .ref (r0 3), .ref (r0 4), .ref (r0 5), .ref (r0 6), .ref (r0 7), .ref (r0 8), .ref (r0 9), .long (fl0 0), .ref (r0 10)])) :: ((r0 1), .inl (ca 0, 60, .inl g5)) :: ((r0 2), .inl (ca 0, 60, .inl g7)) :: ((r0 3), .inl (ca 0, 60, .inl g9)) :: ((r0 4), .inl (ca 0, 60, .inl g11)) :: ((r0 5), .inl (ca 0, 60, .inl g14)) :: ((r0 6), .inl (ca 0, 60, .inl (fa0 5))) :: ((r0 7), .inl (ca 0, 60, .inl (fa0 6))) :: ((r0 8), .inl (ca 0, 180, .inl (fa0 7))) :: ((r0 9), .inl (ca 1, 60, .inr (.inl (fb0 0)))) :: ((r0 10), .inr (0, [.ref (r0 11)])) :: ((r0 11), .inl (ca 1, 400, .inr (.inl (fb0 1)))) :: rest) H := hP
        have hD : va_D A (((r0 0), .inr (1, [.int (fi0 0), .ref (r0 1), .ref (r0 2), .ref (r0 3), .ref (r0 4), .ref (r0 5), .ref (r0 6), .ref (r0 7), .ref (r0 8), .ref (r0 9), .long (fl0 0), .ref (r0 10)])) :: ((r0 1), .inl (ca 0, 60, .inl g5)) :: ((r0 2), .inl (ca 0, 60, .inl g7)) :: ((r0 3), .inl (ca 0, 60, .inl g9)) :: ((r0 4), .inl (ca 0, 60, .inl g11)) :: ((r0 5), .inl (ca 0, 60, .inl g14)) :: ((r0 6), .inl (ca 0, 60, .inl (fa0 5))) :: ((r0 7), .inl (ca 0, 60, .inl (fa0 6))) :: ((r0 8), .inl (ca 0, 180, .inl (fa0 7))) :: ((r0 9), .inl (ca 1, 60, .inr (.inl (fb0 0)))) :: ((r0 10), .inr (0, [.ref (r0 11)])) :: ((r0 11), .inl (ca 1, 400, .inr (.inl (fb0 1)))) :: rest) := hD
        refine lv_aload_n hx hb dX1_add_126 rfl (lv_at hl 2 rfl) ?_
        refine va_get (D := D) (ci := 1) (v := .ref (r0 6)) (C := RX1) (T := TX1) (N := 12) hx hb hts inX1 hown hK hP 0 rfl rfl 6 (by decide) lk31 (fun _ h9 => h9) rfl dX1_add_127 ?_
        refine lv_iload hx hb dX1_add_130 (lv_at hl 0 rfl) ?_
        refine lv_iconst (v := (-1)) hx hb dX1_add_132 (by decide) ?_
        refine lv_topi (fun t15 et15 => ?_)
        have ht15 : t15.toInt = (-1) := by rw [et15]; decide
        have hi16 : vp_in (fi0 0) 60 := z_in (i := (fi0 0).toInt) rfl (by omega) (by omega)
        refine va_iast hx hb hK hP hD hS 6 0 rfl rfl hi16 dX1_add_133 (fun H locs hP hD hS => ?_)
        generalize eg17 : upd (fa0 5) (fi0 0).toNatClampNeg t15 = g17 at hP hD
        have hP : va_P D vwCl (((r0 0), .inr (1, [.int (fi0 0), .ref (r0 1), .ref (r0 2), .ref (r0 3), .ref (r0 4), .ref (r0 5), .ref (r0 6), .ref (r0 7), .ref (r0 8), .ref (r0 9), .long (fl0 0), .ref (r0 10)])) :: ((r0 1), .inl (ca 0, 60, .inl g5)) :: ((r0 2), .inl (ca 0, 60, .inl g7)) :: ((r0 3), .inl (ca 0, 60, .inl g9)) :: ((r0 4), .inl (ca 0, 60, .inl g11)) :: ((r0 5), .inl (ca 0, 60, .inl g14)) :: ((r0 6), .inl (ca 0, 60, .inl g17)) :: ((r0 7), .inl (ca 0, 60, .inl (fa0 6))) :: ((r0 8), .inl (ca 0, 180, .inl (fa0 7))) :: ((r0 9), .inl (ca 1, 60, .inr (.inl (fb0 0)))) :: ((r0 10), .inr (0, [.ref (r0 11)])) :: ((r0 11), .inl (ca 1, 400, .inr (.inl (fb0 1)))) :: rest) H := hP
        have hD : va_D A (((r0 0), .inr (1, [.int (fi0 0), .ref (r0 1), .ref (r0 2), .ref (r0 3), .ref (r0 4), .ref (r0 5), .ref (r0 6), .ref (r0 7), .ref (r0 8), .ref (r0 9), .long (fl0 0), .ref (r0 10)])) :: ((r0 1), .inl (ca 0, 60, .inl g5)) :: ((r0 2), .inl (ca 0, 60, .inl g7)) :: ((r0 3), .inl (ca 0, 60, .inl g9)) :: ((r0 4), .inl (ca 0, 60, .inl g11)) :: ((r0 5), .inl (ca 0, 60, .inl g14)) :: ((r0 6), .inl (ca 0, 60, .inl g17)) :: ((r0 7), .inl (ca 0, 60, .inl (fa0 6))) :: ((r0 8), .inl (ca 0, 180, .inl (fa0 7))) :: ((r0 9), .inl (ca 1, 60, .inr (.inl (fb0 0)))) :: ((r0 10), .inr (0, [.ref (r0 11)])) :: ((r0 11), .inl (ca 1, 400, .inr (.inl (fb0 1)))) :: rest) := hD
        refine lv_aload_n hx hb dX1_add_134 rfl (lv_at hl 2 rfl) ?_
        refine va_get (D := D) (ci := 1) (v := .ref (r0 10)) (C := RX1) (T := TX1) (N := 12) hx hb hts inX1 hown hK hP 0 rfl rfl 11 (by decide) lk51 (fun _ h9 => h9) rfl dX1_add_135 ?_
        refine lv_iload_n hx hb dX1_add_138 rfl (lv_at hl 3 rfl) ?_
        refine lv_iload hx hb dX1_add_139 (lv_at hl 0 rfl) ?_
        have hP9 := va_P.part (pl := rest) (X := [((r0 0), .inr (1, [.int (fi0 0), .ref (r0 1), .ref (r0 2), .ref (r0 3), .ref (r0 4), .ref (r0 5), .ref (r0 6), .ref (r0 7), .ref (r0 8), .ref (r0 9), .long (fl0 0), .ref (r0 10)])), ((r0 1), .inl (ca 0, 60, .inl g5)), ((r0 2), .inl (ca 0, 60, .inl g7)), ((r0 3), .inl (ca 0, 60, .inl g9)), ((r0 4), .inl (ca 0, 60, .inl g11)), ((r0 5), .inl (ca 0, 60, .inl g14)), ((r0 6), .inl (ca 0, 60, .inl g17)), ((r0 7), .inl (ca 0, 60, .inl (fa0 6))), ((r0 8), .inl (ca 0, 180, .inl (fa0 7))), ((r0 9), .inl (ca 1, 60, .inr (.inl (fb0 0)))), ((r0 10), .inr (0, [.ref (r0 11)])), ((r0 11), .inl (ca 1, 400, .inr (.inl (fb0 1))))]) (cx := [((r0 10), .inr (0, [.ref (r0 11)])), ((r0 11), .inl (ca 1, 400, .inr (.inl (fb0 1)))), ((r0 0), .inr (1, [.int (fi0 0), .ref (r0 1), .ref (r0 2), .ref (r0 3), .ref (r0 4), .ref (r0 5), .ref (r0 6), .ref (r0 7), .ref (r0 8), .ref (r0 9), .long (fl0 0), .ref (r0 10)])), ((r0 1), .inl (ca 0, 60, .inl g5)), ((r0 2), .inl (ca 0, 60, .inl g7)), ((r0 3), .inl (ca 0, 60, .inl g9)), ((r0 4), .inl (ca 0, 60, .inl g11)), ((r0 5), .inl (ca 0, 60, .inl g14)), ((r0 6), .inl (ca 0, 60, .inl g17)), ((r0 7), .inl (ca 0, 60, .inl (fa0 6))), ((r0 8), .inl (ca 0, 180, .inl (fa0 7))), ((r0 9), .inl (ca 1, 60, .inr (.inl (fb0 0))))]) hP [10, 11, 0, 1, 2, 3, 4, 5, 6, 7, 8, 9] rfl
        have hD9 := va_D.part (pl := rest) (X := [((r0 0), .inr (1, [.int (fi0 0), .ref (r0 1), .ref (r0 2), .ref (r0 3), .ref (r0 4), .ref (r0 5), .ref (r0 6), .ref (r0 7), .ref (r0 8), .ref (r0 9), .long (fl0 0), .ref (r0 10)])), ((r0 1), .inl (ca 0, 60, .inl g5)), ((r0 2), .inl (ca 0, 60, .inl g7)), ((r0 3), .inl (ca 0, 60, .inl g9)), ((r0 4), .inl (ca 0, 60, .inl g11)), ((r0 5), .inl (ca 0, 60, .inl g14)), ((r0 6), .inl (ca 0, 60, .inl g17)), ((r0 7), .inl (ca 0, 60, .inl (fa0 6))), ((r0 8), .inl (ca 0, 180, .inl (fa0 7))), ((r0 9), .inl (ca 1, 60, .inr (.inl (fb0 0)))), ((r0 10), .inr (0, [.ref (r0 11)])), ((r0 11), .inl (ca 1, 400, .inr (.inl (fb0 1))))]) (cx := [((r0 10), .inr (0, [.ref (r0 11)])), ((r0 11), .inl (ca 1, 400, .inr (.inl (fb0 1)))), ((r0 0), .inr (1, [.int (fi0 0), .ref (r0 1), .ref (r0 2), .ref (r0 3), .ref (r0 4), .ref (r0 5), .ref (r0 6), .ref (r0 7), .ref (r0 8), .ref (r0 9), .long (fl0 0), .ref (r0 10)])), ((r0 1), .inl (ca 0, 60, .inl g5)), ((r0 2), .inl (ca 0, 60, .inl g7)), ((r0 3), .inl (ca 0, 60, .inl g9)), ((r0 4), .inl (ca 0, 60, .inl g11)), ((r0 5), .inl (ca 0, 60, .inl g14)), ((r0 6), .inl (ca 0, 60, .inl g17)), ((r0 7), .inl (ca 0, 60, .inl (fa0 6))), ((r0 8), .inl (ca 0, 180, .inl (fa0 7))), ((r0 9), .inl (ca 1, 60, .inr (.inl (fb0 0))))]) hD [10, 11, 0, 1, 2, 3, 4, 5, 6, 7, 8, 9] (by decide) rfl
        refine z_vV (As := [.int p1, .int (fi0 0)]) (rest := []) hF (c_X0_put l D ca sa A (((r0 0), .inr (1, [.int (fi0 0), .ref (r0 1), .ref (r0 2), .ref (r0 3), .ref (r0 4), .ref (r0 5), .ref (r0 6), .ref (r0 7), .ref (r0 8), .ref (r0 9), .long (fl0 0), .ref (r0 10)])) :: ((r0 1), .inl (ca 0, 60, .inl g5)) :: ((r0 2), .inl (ca 0, 60, .inl g7)) :: ((r0 3), .inl (ca 0, 60, .inl g9)) :: ((r0 4), .inl (ca 0, 60, .inl g11)) :: ((r0 5), .inl (ca 0, 60, .inl g14)) :: ((r0 6), .inl (ca 0, 60, .inl g17)) :: ((r0 7), .inl (ca 0, 60, .inl (fa0 6))) :: ((r0 8), .inl (ca 0, 180, .inl (fa0 7))) :: ((r0 9), .inl (ca 1, 60, .inr (.inl (fb0 0)))) :: rest) (zl 0 [(r0 10), (r0 11)]) (zl 0 []) (zl 0 []) (zl (fun _ => 0) []) (zl (fun _ => 0) [(fb0 1)]) trivial p1 (fi0 0)) (cwV 2 hts gX1_add_X0_put rfl rfl rfl (by decide +kernel) ⟨Nat.le_of_ble_eq_true rfl, Nat.le_of_ble_eq_true rfl⟩) hE hP9 hD9 hS 0 0 rfl rfl rfl hl.1 rfl (Nat.le_of_ble_eq_true rfl) dX1_add_141 ⟨Nat.zero_le _, Nat.zero_le _⟩ (fun u18 H locs hw20 hP hD hS => ?_)
        obtain ⟨im21, lm21, am21, bm21⟩ := u18
        have hw20 : (True) := hw20
        obtain - := hw20
        have hP := va_P.part (pl := rest) (X := [((r0 10), .inr (0, [.ref (r0 11)])), ((r0 11), .inl (ca 1, 400, .inr (.inl (bm21 0)))), ((r0 0), .inr (1, [.int (fi0 0), .ref (r0 1), .ref (r0 2), .ref (r0 3), .ref (r0 4), .ref (r0 5), .ref (r0 6), .ref (r0 7), .ref (r0 8), .ref (r0 9), .long (fl0 0), .ref (r0 10)])), ((r0 1), .inl (ca 0, 60, .inl g5)), ((r0 2), .inl (ca 0, 60, .inl g7)), ((r0 3), .inl (ca 0, 60, .inl g9)), ((r0 4), .inl (ca 0, 60, .inl g11)), ((r0 5), .inl (ca 0, 60, .inl g14)), ((r0 6), .inl (ca 0, 60, .inl g17)), ((r0 7), .inl (ca 0, 60, .inl (fa0 6))), ((r0 8), .inl (ca 0, 180, .inl (fa0 7))), ((r0 9), .inl (ca 1, 60, .inr (.inl (fb0 0))))]) (cx := [((r0 0), .inr (1, [.int (fi0 0), .ref (r0 1), .ref (r0 2), .ref (r0 3), .ref (r0 4), .ref (r0 5), .ref (r0 6), .ref (r0 7), .ref (r0 8), .ref (r0 9), .long (fl0 0), .ref (r0 10)])), ((r0 1), .inl (ca 0, 60, .inl g5)), ((r0 2), .inl (ca 0, 60, .inl g7)), ((r0 3), .inl (ca 0, 60, .inl g9)), ((r0 4), .inl (ca 0, 60, .inl g11)), ((r0 5), .inl (ca 0, 60, .inl g14)), ((r0 6), .inl (ca 0, 60, .inl g17)), ((r0 7), .inl (ca 0, 60, .inl (fa0 6))), ((r0 8), .inl (ca 0, 180, .inl (fa0 7))), ((r0 9), .inl (ca 1, 60, .inr (.inl (fb0 0)))), ((r0 10), .inr (0, [.ref (r0 11)])), ((r0 11), .inl (ca 1, 400, .inr (.inl (bm21 0))))]) hP [2, 3, 4, 5, 6, 7, 8, 9, 10, 11, 0, 1] rfl
        have hD := va_D.part (pl := rest) (X := [((r0 10), .inr (0, [.ref (r0 11)])), ((r0 11), .inl (ca 1, 400, .inr (.inl (bm21 0)))), ((r0 0), .inr (1, [.int (fi0 0), .ref (r0 1), .ref (r0 2), .ref (r0 3), .ref (r0 4), .ref (r0 5), .ref (r0 6), .ref (r0 7), .ref (r0 8), .ref (r0 9), .long (fl0 0), .ref (r0 10)])), ((r0 1), .inl (ca 0, 60, .inl g5)), ((r0 2), .inl (ca 0, 60, .inl g7)), ((r0 3), .inl (ca 0, 60, .inl g9)), ((r0 4), .inl (ca 0, 60, .inl g11)), ((r0 5), .inl (ca 0, 60, .inl g14)), ((r0 6), .inl (ca 0, 60, .inl g17)), ((r0 7), .inl (ca 0, 60, .inl (fa0 6))), ((r0 8), .inl (ca 0, 180, .inl (fa0 7))), ((r0 9), .inl (ca 1, 60, .inr (.inl (fb0 0))))]) (cx := [((r0 0), .inr (1, [.int (fi0 0), .ref (r0 1), .ref (r0 2), .ref (r0 3), .ref (r0 4), .ref (r0 5), .ref (r0 6), .ref (r0 7), .ref (r0 8), .ref (r0 9), .long (fl0 0), .ref (r0 10)])), ((r0 1), .inl (ca 0, 60, .inl g5)), ((r0 2), .inl (ca 0, 60, .inl g7)), ((r0 3), .inl (ca 0, 60, .inl g9)), ((r0 4), .inl (ca 0, 60, .inl g11)), ((r0 5), .inl (ca 0, 60, .inl g14)), ((r0 6), .inl (ca 0, 60, .inl g17)), ((r0 7), .inl (ca 0, 60, .inl (fa0 6))), ((r0 8), .inl (ca 0, 180, .inl (fa0 7))), ((r0 9), .inl (ca 1, 60, .inr (.inl (fb0 0)))), ((r0 10), .inr (0, [.ref (r0 11)])), ((r0 11), .inl (ca 1, 400, .inr (.inl (bm21 0))))]) hD [2, 3, 4, 5, 6, 7, 8, 9, 10, 11, 0, 1] (by decide) rfl
        have hP : va_P D vwCl (((r0 0), .inr (1, [.int (fi0 0), .ref (r0 1), .ref (r0 2), .ref (r0 3), .ref (r0 4), .ref (r0 5), .ref (r0 6), .ref (r0 7), .ref (r0 8), .ref (r0 9), .long (fl0 0), .ref (r0 10)])) :: ((r0 1), .inl (ca 0, 60, .inl g5)) :: ((r0 2), .inl (ca 0, 60, .inl g7)) :: ((r0 3), .inl (ca 0, 60, .inl g9)) :: ((r0 4), .inl (ca 0, 60, .inl g11)) :: ((r0 5), .inl (ca 0, 60, .inl g14)) :: ((r0 6), .inl (ca 0, 60, .inl g17)) :: ((r0 7), .inl (ca 0, 60, .inl (fa0 6))) :: ((r0 8), .inl (ca 0, 180, .inl (fa0 7))) :: ((r0 9), .inl (ca 1, 60, .inr (.inl (fb0 0)))) :: ((r0 10), .inr (0, [.ref (r0 11)])) :: ((r0 11), .inl (ca 1, 400, .inr (.inl (bm21 0)))) :: rest) H := hP
        have hD : va_D A (((r0 0), .inr (1, [.int (fi0 0), .ref (r0 1), .ref (r0 2), .ref (r0 3), .ref (r0 4), .ref (r0 5), .ref (r0 6), .ref (r0 7), .ref (r0 8), .ref (r0 9), .long (fl0 0), .ref (r0 10)])) :: ((r0 1), .inl (ca 0, 60, .inl g5)) :: ((r0 2), .inl (ca 0, 60, .inl g7)) :: ((r0 3), .inl (ca 0, 60, .inl g9)) :: ((r0 4), .inl (ca 0, 60, .inl g11)) :: ((r0 5), .inl (ca 0, 60, .inl g14)) :: ((r0 6), .inl (ca 0, 60, .inl g17)) :: ((r0 7), .inl (ca 0, 60, .inl (fa0 6))) :: ((r0 8), .inl (ca 0, 180, .inl (fa0 7))) :: ((r0 9), .inl (ca 1, 60, .inr (.inl (fb0 0)))) :: ((r0 10), .inr (0, [.ref (r0 11)])) :: ((r0 11), .inl (ca 1, 400, .inr (.inl (bm21 0)))) :: rest) := hD
        refine lv_aload_n hx hb dX1_add_144 rfl (lv_at hl 2 rfl) ?_
        refine lv_dup hx hb dX1_add_145 rfl ?_
        refine va_get (D := D) (ci := 1) (v := .int (fi0 0)) (C := RX1) (T := TX1) (N := 12) hx hb hts inX1 hown hK hP 0 rfl rfl 0 (by decide) lk9 (fun _ h9 => h9) rfl dX1_add_146 ?_
        refine lv_iconst (v := 1) hx hb dX1_add_149 (by decide) ?_
        refine lv_iadd hx hb dX1_add_150 ?_
        refine lv_topi (fun t22 et22 => ?_)
        try have ht22 : t22.toInt = (fi0 0).toInt + 1 := z_add et22 rfl (by decide) (by omega -splitDisjunctions) (by omega -splitDisjunctions)
        refine va_put (D := D) (ci := 1) (v := .int t22) (ty := .int) (C := RX1) (T := TX1) (N := 12) hx hb hts inX1 tyX1 tyX1_ok nmX1 hown hK hP hD hS 0 rfl rfl 0 (by decide) lk9 (fun _ h9 => h9) rfl (by decide +kernel) rfl rfl (Nat.le_of_ble_eq_true rfl) dX1_add_151 (fun H locs hP hD hS => ?_)
        have hP : va_P D vwCl (((r0 0), .inr (1, [.int t22, .ref (r0 1), .ref (r0 2), .ref (r0 3), .ref (r0 4), .ref (r0 5), .ref (r0 6), .ref (r0 7), .ref (r0 8), .ref (r0 9), .long (fl0 0), .ref (r0 10)])) :: ((r0 1), .inl (ca 0, 60, .inl g5)) :: ((r0 2), .inl (ca 0, 60, .inl g7)) :: ((r0 3), .inl (ca 0, 60, .inl g9)) :: ((r0 4), .inl (ca 0, 60, .inl g11)) :: ((r0 5), .inl (ca 0, 60, .inl g14)) :: ((r0 6), .inl (ca 0, 60, .inl g17)) :: ((r0 7), .inl (ca 0, 60, .inl (fa0 6))) :: ((r0 8), .inl (ca 0, 180, .inl (fa0 7))) :: ((r0 9), .inl (ca 1, 60, .inr (.inl (fb0 0)))) :: ((r0 10), .inr (0, [.ref (r0 11)])) :: ((r0 11), .inl (ca 1, 400, .inr (.inl (bm21 0)))) :: rest) H := hP
        have hD : va_D A (((r0 0), .inr (1, [.int t22, .ref (r0 1), .ref (r0 2), .ref (r0 3), .ref (r0 4), .ref (r0 5), .ref (r0 6), .ref (r0 7), .ref (r0 8), .ref (r0 9), .long (fl0 0), .ref (r0 10)])) :: ((r0 1), .inl (ca 0, 60, .inl g5)) :: ((r0 2), .inl (ca 0, 60, .inl g7)) :: ((r0 3), .inl (ca 0, 60, .inl g9)) :: ((r0 4), .inl (ca 0, 60, .inl g11)) :: ((r0 5), .inl (ca 0, 60, .inl g14)) :: ((r0 6), .inl (ca 0, 60, .inl g17)) :: ((r0 7), .inl (ca 0, 60, .inl (fa0 6))) :: ((r0 8), .inl (ca 0, 180, .inl (fa0 7))) :: ((r0 9), .inl (ca 1, 60, .inr (.inl (fb0 0)))) :: ((r0 10), .inr (0, [.ref (r0 11)])) :: ((r0 11), .inl (ca 1, 400, .inr (.inl (bm21 0)))) :: rest) := hD
        refine lv_iload hx hb dX1_add_154 (lv_at hl 0 rfl) ?_
        rw [← hQ9]
        have ho23 : (0 ≤ t22.toInt ∧ t22.toInt ≤ 60) ∧ z_rng 0 3 (fa0 6) := ⟨⟨by omega, by omega⟩, hv0a6⟩
        have hq24 : ((0 ≤ p1.toInt ∧ p1.toInt ≤ 399 ∧ 1 ≤ p2.toInt ∧ p2.toInt ≤ 1073741823 ∧ 1 ≤ p3.toInt ∧ p3.toInt ≤ 20 ∧ (p4.toInt = -1 ∨ (1 ≤ p4.toInt ∧ p4.toInt ≤ 100))) ∧ (fi0 0).toInt < 60 ∧ (fi0 0).toInt = (fi0 0).toInt ∧ t22.toInt = (fi0 0).toInt + 1) ∨ (¬ (0 ≤ p1.toInt ∧ p1.toInt ≤ 399 ∧ 1 ≤ p2.toInt ∧ p2.toInt ≤ 1073741823 ∧ 1 ≤ p3.toInt ∧ p3.toInt ≤ 20 ∧ (p4.toInt = -1 ∨ (1 ≤ p4.toInt ∧ p4.toInt ≤ 100))) ∧ (fi0 0).toInt = -2 ∧ t22.toInt = (fi0 0).toInt) ∨ ((0 ≤ p1.toInt ∧ p1.toInt ≤ 399 ∧ 1 ≤ p2.toInt ∧ p2.toInt ≤ 1073741823 ∧ 1 ≤ p3.toInt ∧ p3.toInt ≤ 20 ∧ (p4.toInt = -1 ∨ (1 ≤ p4.toInt ∧ p4.toInt ≤ 100))) ∧ (fi0 0).toInt = 60 ∧ (fi0 0).toInt = -3 ∧ t22.toInt = (fi0 0).toInt) := by omega
        have hq25 : (((fi0 0)).toInt < 0 ∧ g5 = (fa0 0) ∧ g7 = (fa0 1) ∧ g9 = (fa0 2) ∧ g11 = (fa0 3) ∧ g14 = (fa0 4) ∧ g17 = (fa0 5)) ∨ (0 ≤ ((fi0 0)).toInt ∧ g5 = upd (fa0 0) ((fi0 0)).toNatClampNeg p1 ∧ g7 = upd (fa0 1) ((fi0 0)).toNatClampNeg p2 ∧ g9 = upd (fa0 2) ((fi0 0)).toNatClampNeg p3 ∧ g11 = upd (fa0 3) ((fi0 0)).toNatClampNeg p4 ∧ g14 = upd (fa0 4) ((fi0 0)).toNatClampNeg (-1) ∧ g17 = upd (fa0 5) ((fi0 0)).toNatClampNeg (-1)) := Or.inr ⟨by omega, eg5.symm, eg7.symm, eg9.symm, eg11.symm, by rw [← eg14, et12], by rw [← eg17, et15]⟩
        exact W.iret (v := (fi0 0)) hx hb hr (fun t ht hW => ⟨⟨(fi0 0), ((zl 0 [t22]), (zl 0 [(fl0 0)]), (zl (fun _ => 0) [g5, g7, g9, g11, g14, g17, (fa0 6), (fa0 7)]), (zl (fun _ => 0) [(fb0 0), (bm21 0)])), rfl, ⟨ho23, hq24, hq25⟩, ⟨by rw [ht]; exact hP, hD⟩⟩, hS.F ht⟩) hS.2.2 dX1_add_156
      ·
        have c3 := z_nlt (i := (fi0 0).toInt) (j := 60) rfl (by decide) c3
        refine lv_bipush (v := (-3)) hx hb dX1_add_76 (by decide) ?_
        rw [← hQ9]
        refine lv_topi (fun t26 et26 => ?_)
        have ht26 : t26.toInt = (-3) := by rw [et26]; decide
        have ho27 : (0 ≤ (fi0 0).toInt ∧ (fi0 0).toInt ≤ 60) ∧ z_rng 0 3 (fa0 6) := ⟨⟨by omega, by omega⟩, hv0a6⟩
        have hq28 : ((0 ≤ p1.toInt ∧ p1.toInt ≤ 399 ∧ 1 ≤ p2.toInt ∧ p2.toInt ≤ 1073741823 ∧ 1 ≤ p3.toInt ∧ p3.toInt ≤ 20 ∧ (p4.toInt = -1 ∨ (1 ≤ p4.toInt ∧ p4.toInt ≤ 100))) ∧ (fi0 0).toInt < 60 ∧ t26.toInt = (fi0 0).toInt ∧ (fi0 0).toInt = (fi0 0).toInt + 1) ∨ (¬ (0 ≤ p1.toInt ∧ p1.toInt ≤ 399 ∧ 1 ≤ p2.toInt ∧ p2.toInt ≤ 1073741823 ∧ 1 ≤ p3.toInt ∧ p3.toInt ≤ 20 ∧ (p4.toInt = -1 ∨ (1 ≤ p4.toInt ∧ p4.toInt ≤ 100))) ∧ t26.toInt = -2 ∧ (fi0 0).toInt = (fi0 0).toInt) ∨ ((0 ≤ p1.toInt ∧ p1.toInt ≤ 399 ∧ 1 ≤ p2.toInt ∧ p2.toInt ≤ 1073741823 ∧ 1 ≤ p3.toInt ∧ p3.toInt ≤ 20 ∧ (p4.toInt = -1 ∨ (1 ≤ p4.toInt ∧ p4.toInt ≤ 100))) ∧ (fi0 0).toInt = 60 ∧ t26.toInt = -3 ∧ (fi0 0).toInt = (fi0 0).toInt) := by omega
        have hq29 : ((t26).toInt < 0 ∧ (fa0 0) = (fa0 0) ∧ (fa0 1) = (fa0 1) ∧ (fa0 2) = (fa0 2) ∧ (fa0 3) = (fa0 3) ∧ (fa0 4) = (fa0 4) ∧ (fa0 5) = (fa0 5)) ∨ (0 ≤ (t26).toInt ∧ (fa0 0) = upd (fa0 0) ((fi0 0)).toNatClampNeg p1 ∧ (fa0 1) = upd (fa0 1) ((fi0 0)).toNatClampNeg p2 ∧ (fa0 2) = upd (fa0 2) ((fi0 0)).toNatClampNeg p3 ∧ (fa0 3) = upd (fa0 3) ((fi0 0)).toNatClampNeg p4 ∧ (fa0 4) = upd (fa0 4) ((fi0 0)).toNatClampNeg (-1) ∧ (fa0 5) = upd (fa0 5) ((fi0 0)).toNatClampNeg (-1)) := Or.inl ⟨by omega, rfl, rfl, rfl, rfl, rfl, rfl⟩
        exact W.iret (v := t26) hx hb hr (fun t ht hW => ⟨⟨t26, ((zl 0 [(fi0 0)]), (zl 0 [(fl0 0)]), (zl (fun _ => 0) [(fa0 0), (fa0 1), (fa0 2), (fa0 3), (fa0 4), (fa0 5), (fa0 6), (fa0 7)]), (zl (fun _ => 0) [(fb0 0), (fb0 1)])), rfl, ⟨ho27, hq28, hq29⟩, ⟨by rw [ht]; exact hP, hD⟩⟩, hS.F ht⟩) hS.2.2 dX1_add_78
    ·
      have c2 := z_eq (i := k0_1.toInt) (j := 0) rfl (by decide) c2
      refine lv_bipush (v := (-2)) hx hb dX1_add_64 (by decide) ?_
      rw [← hQ9]
      refine lv_topi (fun t30 et30 => ?_)
      have ht30 : t30.toInt = (-2) := by rw [et30]; decide
      have ho31 : (0 ≤ (fi0 0).toInt ∧ (fi0 0).toInt ≤ 60) ∧ z_rng 0 3 (fa0 6) := ⟨⟨by omega, by omega⟩, hv0a6⟩
      have hq32 : ((0 ≤ p1.toInt ∧ p1.toInt ≤ 399 ∧ 1 ≤ p2.toInt ∧ p2.toInt ≤ 1073741823 ∧ 1 ≤ p3.toInt ∧ p3.toInt ≤ 20 ∧ (p4.toInt = -1 ∨ (1 ≤ p4.toInt ∧ p4.toInt ≤ 100))) ∧ (fi0 0).toInt < 60 ∧ t30.toInt = (fi0 0).toInt ∧ (fi0 0).toInt = (fi0 0).toInt + 1) ∨ (¬ (0 ≤ p1.toInt ∧ p1.toInt ≤ 399 ∧ 1 ≤ p2.toInt ∧ p2.toInt ≤ 1073741823 ∧ 1 ≤ p3.toInt ∧ p3.toInt ≤ 20 ∧ (p4.toInt = -1 ∨ (1 ≤ p4.toInt ∧ p4.toInt ≤ 100))) ∧ t30.toInt = -2 ∧ (fi0 0).toInt = (fi0 0).toInt) ∨ ((0 ≤ p1.toInt ∧ p1.toInt ≤ 399 ∧ 1 ≤ p2.toInt ∧ p2.toInt ≤ 1073741823 ∧ 1 ≤ p3.toInt ∧ p3.toInt ≤ 20 ∧ (p4.toInt = -1 ∨ (1 ≤ p4.toInt ∧ p4.toInt ≤ 100))) ∧ (fi0 0).toInt = 60 ∧ t30.toInt = -3 ∧ (fi0 0).toInt = (fi0 0).toInt) := by omega
      have hq33 : ((t30).toInt < 0 ∧ (fa0 0) = (fa0 0) ∧ (fa0 1) = (fa0 1) ∧ (fa0 2) = (fa0 2) ∧ (fa0 3) = (fa0 3) ∧ (fa0 4) = (fa0 4) ∧ (fa0 5) = (fa0 5)) ∨ (0 ≤ (t30).toInt ∧ (fa0 0) = upd (fa0 0) ((fi0 0)).toNatClampNeg p1 ∧ (fa0 1) = upd (fa0 1) ((fi0 0)).toNatClampNeg p2 ∧ (fa0 2) = upd (fa0 2) ((fi0 0)).toNatClampNeg p3 ∧ (fa0 3) = upd (fa0 3) ((fi0 0)).toNatClampNeg p4 ∧ (fa0 4) = upd (fa0 4) ((fi0 0)).toNatClampNeg (-1) ∧ (fa0 5) = upd (fa0 5) ((fi0 0)).toNatClampNeg (-1)) := Or.inl ⟨by omega, rfl, rfl, rfl, rfl, rfl, rfl⟩
      exact W.iret (v := t30) hx hb hr (fun t ht hW => ⟨⟨t30, ((zl 0 [(fi0 0)]), (zl 0 [(fl0 0)]), (zl (fun _ => 0) [(fa0 0), (fa0 1), (fa0 2), (fa0 3), (fa0 4), (fa0 5), (fa0 6), (fa0 7)]), (zl (fun _ => 0) [(fb0 0), (fb0 1)])), rfl, ⟨ho31, hq32, hq33⟩, ⟨by rw [ht]; exact hP, hD⟩⟩, hS.F ht⟩) hS.2.2 dX1_add_66
  have J56_34 : ∀ (ls : Array Slot) (hl : lv_has ls 7 [(0, .ref (r0 0)), (1, .int p1), (2, .int p2), (3, .int p3), (4, .int p4)]) (hf34_0 : ¬ (0 ≤ p1.toInt ∧ p1.toInt ≤ 399 ∧ 1 ≤ p2.toInt ∧ p2.toInt ≤ 1073741823 ∧ 1 ≤ p3.toInt ∧ p3.toInt ≤ 20 ∧ (p4.toInt = -1 ∨ (1 ≤ p4.toInt ∧ p4.toInt ≤ 100)))), W p l e (headSpec wsX1_add ({ frames := 1, cells := 0, slots := 0, locals := 22 })).room s m ([.ref (r0 0), .int p1, .int p2, .int p3, .int p4] : List Value).toArray below meth c H [] 0 0 Q9 (F0 m 56 ls []) := by
    intro ls hl hf34_0
    refine lv_iconst (v := 0) hx hb dX1_add_56 (by decide) ?_
    refine lv_topi (fun t35 et35 => ?_)
    have ht35 : t35.toInt = 0 := by rw [et35]; decide
    have hj36 : (t35.toInt = 1 ∧ (0 ≤ p1.toInt ∧ p1.toInt ≤ 399 ∧ 1 ≤ p2.toInt ∧ p2.toInt ≤ 1073741823 ∧ 1 ≤ p3.toInt ∧ p3.toInt ≤ 20 ∧ (p4.toInt = -1 ∨ (1 ≤ p4.toInt ∧ p4.toInt ≤ 100)))) ∨ (t35.toInt = 0 ∧ ¬ (0 ≤ p1.toInt ∧ p1.toInt ≤ 399 ∧ 1 ≤ p2.toInt ∧ p2.toInt ≤ 1073741823 ∧ 1 ≤ p3.toInt ∧ p3.toInt ≤ 20 ∧ (p4.toInt = -1 ∨ (1 ≤ p4.toInt ∧ p4.toInt ≤ 100)))) := by omega
    exact J57_1 t35 ls (lv_sub hl [0, 1, 2, 3, 4] rfl) hj36
  refine lv_if_lt (tgt := 56) hx hb dX1_add_1 (by decide) (fun c37 => ?_) (fun c37 => ?_)
  ·
    have c37 := z_lt (i := p1.toInt) (j := 0) rfl (by decide) c37
    have hj38 : ¬ (0 ≤ p1.toInt ∧ p1.toInt ≤ 399 ∧ 1 ≤ p2.toInt ∧ p2.toInt ≤ 1073741823 ∧ 1 ≤ p3.toInt ∧ p3.toInt ≤ 20 ∧ (p4.toInt = -1 ∨ (1 ≤ p4.toInt ∧ p4.toInt ≤ 100))) := by omega
    exact J56_34 ls (lv_sub hl [0, 1, 2, 3, 4] rfl) hj38
  ·
    have c37 := z_nlt (i := p1.toInt) (j := 0) rfl (by decide) c37
    refine lv_iload_n hx hb dX1_add_4 rfl (lv_at hl 1 rfl) ?_
    refine lv_sipush (v := 399) hx hb dX1_add_5 (by decide) ?_
    refine lv_icmp_gt (tgt := 56) hx hb dX1_add_8 (by decide) (fun c39 => ?_) (fun c39 => ?_)
    ·
      have c39 := z_lt (i := 399) (j := p1.toInt) (by decide) rfl c39
      have hj40 : ¬ (0 ≤ p1.toInt ∧ p1.toInt ≤ 399 ∧ 1 ≤ p2.toInt ∧ p2.toInt ≤ 1073741823 ∧ 1 ≤ p3.toInt ∧ p3.toInt ≤ 20 ∧ (p4.toInt = -1 ∨ (1 ≤ p4.toInt ∧ p4.toInt ≤ 100))) := by omega
      exact J56_34 ls (lv_sub hl [0, 1, 2, 3, 4] rfl) hj40
    ·
      have c39 := z_nlt (i := 399) (j := p1.toInt) (by decide) rfl c39
      refine lv_iload_n hx hb dX1_add_11 rfl (lv_at hl 2 rfl) ?_
      refine lv_iconst (v := 1) hx hb dX1_add_12 (by decide) ?_
      refine lv_icmp_lt (tgt := 56) hx hb dX1_add_13 (by decide) (fun c41 => ?_) (fun c41 => ?_)
      ·
        have c41 := z_lt (i := p2.toInt) (j := 1) rfl (by decide) c41
        have hj42 : ¬ (0 ≤ p1.toInt ∧ p1.toInt ≤ 399 ∧ 1 ≤ p2.toInt ∧ p2.toInt ≤ 1073741823 ∧ 1 ≤ p3.toInt ∧ p3.toInt ≤ 20 ∧ (p4.toInt = -1 ∨ (1 ≤ p4.toInt ∧ p4.toInt ≤ 100))) := by omega
        exact J56_34 ls (lv_sub hl [0, 1, 2, 3, 4] rfl) hj42
      ·
        have c41 := z_nlt (i := p2.toInt) (j := 1) rfl (by decide) c41
        refine lv_iload_n hx hb dX1_add_16 rfl (lv_at hl 2 rfl) ?_
        refine lv_ldc hx hb hown lc59 dX1_add_17 ?_
        refine lv_icmp_gt (tgt := 56) hx hb dX1_add_19 (by decide) (fun c43 => ?_) (fun c43 => ?_)
        ·
          have c43 := z_lt (i := 1073741823) (j := p2.toInt) (by decide) rfl c43
          have hj44 : ¬ (0 ≤ p1.toInt ∧ p1.toInt ≤ 399 ∧ 1 ≤ p2.toInt ∧ p2.toInt ≤ 1073741823 ∧ 1 ≤ p3.toInt ∧ p3.toInt ≤ 20 ∧ (p4.toInt = -1 ∨ (1 ≤ p4.toInt ∧ p4.toInt ≤ 100))) := by omega
          exact J56_34 ls (lv_sub hl [0, 1, 2, 3, 4] rfl) hj44
        ·
          have c43 := z_nlt (i := 1073741823) (j := p2.toInt) (by decide) rfl c43
          refine lv_iload_n hx hb dX1_add_22 rfl (lv_at hl 3 rfl) ?_
          refine lv_iconst (v := 1) hx hb dX1_add_23 (by decide) ?_
          refine lv_icmp_lt (tgt := 56) hx hb dX1_add_24 (by decide) (fun c45 => ?_) (fun c45 => ?_)
          ·
            have c45 := z_lt (i := p3.toInt) (j := 1) rfl (by decide) c45
            have hj46 : ¬ (0 ≤ p1.toInt ∧ p1.toInt ≤ 399 ∧ 1 ≤ p2.toInt ∧ p2.toInt ≤ 1073741823 ∧ 1 ≤ p3.toInt ∧ p3.toInt ≤ 20 ∧ (p4.toInt = -1 ∨ (1 ≤ p4.toInt ∧ p4.toInt ≤ 100))) := by omega
            exact J56_34 ls (lv_sub hl [0, 1, 2, 3, 4] rfl) hj46
          ·
            have c45 := z_nlt (i := p3.toInt) (j := 1) rfl (by decide) c45
            refine lv_iload_n hx hb dX1_add_27 rfl (lv_at hl 3 rfl) ?_
            refine lv_bipush (v := 20) hx hb dX1_add_28 (by decide) ?_
            refine lv_icmp_gt (tgt := 56) hx hb dX1_add_30 (by decide) (fun c47 => ?_) (fun c47 => ?_)
            ·
              have c47 := z_lt (i := 20) (j := p3.toInt) (by decide) rfl c47
              have hj48 : ¬ (0 ≤ p1.toInt ∧ p1.toInt ≤ 399 ∧ 1 ≤ p2.toInt ∧ p2.toInt ≤ 1073741823 ∧ 1 ≤ p3.toInt ∧ p3.toInt ≤ 20 ∧ (p4.toInt = -1 ∨ (1 ≤ p4.toInt ∧ p4.toInt ≤ 100))) := by omega
              exact J56_34 ls (lv_sub hl [0, 1, 2, 3, 4] rfl) hj48
            ·
              have c47 := z_nlt (i := 20) (j := p3.toInt) (by decide) rfl c47
              refine lv_iload hx hb dX1_add_33 (lv_at hl 4 rfl) ?_
              refine lv_iconst (v := (-1)) hx hb dX1_add_35 (by decide) ?_
              have J52_49 : ∀ (ls : Array Slot) (hl : lv_has ls 7 [(0, .ref (r0 0)), (1, .int p1), (2, .int p2), (3, .int p3), (4, .int p4)]) (hf49_0 : (0 ≤ p1.toInt ∧ p1.toInt ≤ 399 ∧ 1 ≤ p2.toInt ∧ p2.toInt ≤ 1073741823 ∧ 1 ≤ p3.toInt ∧ p3.toInt ≤ 20 ∧ (p4.toInt = -1 ∨ (1 ≤ p4.toInt ∧ p4.toInt ≤ 100)))), W p l e (headSpec wsX1_add ({ frames := 1, cells := 0, slots := 0, locals := 22 })).room s m ([.ref (r0 0), .int p1, .int p2, .int p3, .int p4] : List Value).toArray below meth c H [] 0 0 Q9 (F0 m 52 ls []) := by
                intro ls hl hf49_0
                refine lv_iconst (v := 1) hx hb dX1_add_52 (by decide) ?_
                refine lv_goto (tgt := 57) hx hb dX1_add_53 (by decide) ?_
                refine lv_topi (fun t50 et50 => ?_)
                have ht50 : t50.toInt = 1 := by rw [et50]; decide
                have hj51 : (t50.toInt = 1 ∧ (0 ≤ p1.toInt ∧ p1.toInt ≤ 399 ∧ 1 ≤ p2.toInt ∧ p2.toInt ≤ 1073741823 ∧ 1 ≤ p3.toInt ∧ p3.toInt ≤ 20 ∧ (p4.toInt = -1 ∨ (1 ≤ p4.toInt ∧ p4.toInt ≤ 100)))) ∨ (t50.toInt = 0 ∧ ¬ (0 ≤ p1.toInt ∧ p1.toInt ≤ 399 ∧ 1 ≤ p2.toInt ∧ p2.toInt ≤ 1073741823 ∧ 1 ≤ p3.toInt ∧ p3.toInt ≤ 20 ∧ (p4.toInt = -1 ∨ (1 ≤ p4.toInt ∧ p4.toInt ≤ 100)))) := by omega
                exact J57_1 t50 ls (lv_sub hl [0, 1, 2, 3, 4] rfl) hj51
              refine lv_icmp_eq (tgt := 52) hx hb dX1_add_36 (by decide) (fun c52 => ?_) (fun c52 => ?_)
              ·
                have c52 := z_eq (i := p4.toInt) (j := (-1)) rfl (by decide) c52
                have hj53 : (0 ≤ p1.toInt ∧ p1.toInt ≤ 399 ∧ 1 ≤ p2.toInt ∧ p2.toInt ≤ 1073741823 ∧ 1 ≤ p3.toInt ∧ p3.toInt ≤ 20 ∧ (p4.toInt = -1 ∨ (1 ≤ p4.toInt ∧ p4.toInt ≤ 100))) := by omega
                exact J52_49 ls (lv_sub hl [0, 1, 2, 3, 4] rfl) hj53
              ·
                have c52 := z_ne (i := p4.toInt) (j := (-1)) rfl (by decide) c52
                refine lv_iload hx hb dX1_add_39 (lv_at hl 4 rfl) ?_
                refine lv_iconst (v := 1) hx hb dX1_add_41 (by decide) ?_
                refine lv_icmp_lt (tgt := 56) hx hb dX1_add_42 (by decide) (fun c54 => ?_) (fun c54 => ?_)
                ·
                  have c54 := z_lt (i := p4.toInt) (j := 1) rfl (by decide) c54
                  have hj55 : ¬ (0 ≤ p1.toInt ∧ p1.toInt ≤ 399 ∧ 1 ≤ p2.toInt ∧ p2.toInt ≤ 1073741823 ∧ 1 ≤ p3.toInt ∧ p3.toInt ≤ 20 ∧ (p4.toInt = -1 ∨ (1 ≤ p4.toInt ∧ p4.toInt ≤ 100))) := by omega
                  exact J56_34 ls (lv_sub hl [0, 1, 2, 3, 4] rfl) hj55
                ·
                  have c54 := z_nlt (i := p4.toInt) (j := 1) rfl (by decide) c54
                  refine lv_iload hx hb dX1_add_45 (lv_at hl 4 rfl) ?_
                  refine lv_bipush (v := 100) hx hb dX1_add_47 (by decide) ?_
                  refine lv_icmp_gt (tgt := 56) hx hb dX1_add_49 (by decide) (fun c56 => ?_) (fun c56 => ?_)
                  ·
                    have c56 := z_lt (i := 100) (j := p4.toInt) (by decide) rfl c56
                    have hj57 : ¬ (0 ≤ p1.toInt ∧ p1.toInt ≤ 399 ∧ 1 ≤ p2.toInt ∧ p2.toInt ≤ 1073741823 ∧ 1 ≤ p3.toInt ∧ p3.toInt ≤ 20 ∧ (p4.toInt = -1 ∨ (1 ≤ p4.toInt ∧ p4.toInt ≤ 100))) := by omega
                    exact J56_34 ls (lv_sub hl [0, 1, 2, 3, 4] rfl) hj57
                  ·
                    have c56 := z_nlt (i := 100) (j := p4.toInt) (by decide) rfl c56
                    have hj58 : (0 ≤ p1.toInt ∧ p1.toInt ≤ 399 ∧ 1 ≤ p2.toInt ∧ p2.toInt ≤ 1073741823 ∧ 1 ≤ p3.toInt ∧ p3.toInt ≤ 20 ∧ (p4.toInt = -1 ∨ (1 ≤ p4.toInt ∧ p4.toInt ≤ 100))) := by omega
                    exact J52_49 ls (lv_sub hl [0, 1, 2, 3, 4] rfl) hj58

set_option maxHeartbeats 8000000 in
set_option maxRecDepth 100000 in
theorem c_X1_addFix_R (l : Launch) (D : va_G) (ca : Nat → ClassId) (sa : Nat → Nat) (A : Nat → Prop) (rest : va_W) (r0 : Nat → Nat) (fi0 : Nat → Int32) (fl0 : Nat → Int64) (fa0 : Nat → Nat → Int32) (fb0 : Nat → Nat → Int64) (hv0 : Ok_CHG fi0 fa0) (p1 : Int32) (p2 : Int32) (hpre0 : 0 ≤ p1.toInt ∧ p1.toInt ≤ 59) (hpre1 : 0 ≤ p2.toInt ∧ p2.toInt ≤ 59) : Met l yX1_addFix wsX1_addFix ({ frames := 1, cells := 0, slots := 0, locals := 22 }) (va_Pc [.ref (r0 0), .int p1, .int p2] (zPre D ca sa A (w_CHG ca r0 fi0 fl0 fa0 fb0 (rest)))) (va_Qi (fun (r : Int32) (u : zS) => Ok_CHG (zx [] fi0 u.1) (zx [4, 5] fa0 u.2.2.1) ∧ (0 ≤ r.toInt ∧ r.toInt ≤ 1) ∧ (((r).toInt = 1 ∧ ((fa0 3) p2.toNatClampNeg).toInt ≠ -1 ∧ ((fa0 5) p2.toNatClampNeg).toInt = -1 ∧ ((fa0 4) p1.toNatClampNeg).toInt = -1 ∧ (u.2.2.1 4) = upd (fa0 4) p1.toNatClampNeg p2 ∧ (u.2.2.1 5) = upd (fa0 5) p2.toNatClampNeg p1) ∨ ((r).toInt = 0 ∧ (((fa0 3) p2.toNatClampNeg).toInt = -1 ∨ ((fa0 5) p2.toNatClampNeg).toInt ≠ -1 ∨ ((fa0 4) p1.toNatClampNeg).toInt ≠ -1) ∧ (u.2.2.1 4) = (fa0 4) ∧ (u.2.2.1 5) = (fa0 5)))) (fun u t => zPost D A (w_CHG ca r0 (zx [] fi0 u.1) (zx [0] fl0 u.2.1) (zx [4, 5] fa0 u.2.2.1) (zx [1] fb0 u.2.2.2) (rest)) t) A) 0 0 A := by
  refine Met.ofW (cc := cX1_addFix) (maxL := 3) (ret := (some .boolean)) (by decide) rfl ?_
  intro p e s m args below meth c s₁ B hml hv9
  obtain ⟨rfl, hE, hP, hD⟩ := hv9
  have hx := B.exec
  have hb := B.bytes
  have hr := B.returns
  have hts := atoms_spec (ws := wsX1_addFix) B.pre
  have hown : s.vm.findClass RX1 = some m.cls := findClass_of_methodNamed B.named
  have hlocks := B.notSynchronized
  have hK := hE.1
  have hF : CallFix p m c cX1_addFix 3 s _ wsX1_addFix RX1 := ⟨hx, hb, hml, hown, hts⟩
  have hS : va_S A s.heap s.heap [] := va_S.rf
  have lk25 := hts (.fieldLink RX1 25 "BranchPlay$Changes" "breakAfter" "[I") (by decide +kernel)
  have inX1 : ∀ w ∈ wsX10, w ∈ wsX1_addFix := by decide +kernel
  have lk31 := hts (.fieldLink RX1 31 "BranchPlay$Changes" "fixedBy" "[I") (by decide +kernel)
  have lk28 := hts (.fieldLink RX1 28 "BranchPlay$Changes" "fixOf" "[I") (by decide +kernel)
  have lk44 := hts (.fieldLink RX1 44 "BranchPlay$Changes" "fixes" "J") (by decide +kernel)
  have liX8 := hts (.initialized RX8) (by decide +kernel)
  have lsX8_only := hts (.static yX8_only) (by decide +kernel)
  have lk51 := hts (.fieldLink RX1 51 "BranchPlay$Changes" "births" "LBranchPlay$Agenda;") (by decide +kernel)
  have lk15 := hts (.fieldLink RX1 15 "BranchPlay$Changes" "birth" "[I") (by decide +kernel)
  obtain ⟨⟨hv0i0, hv0j0⟩, hv0a6⟩ := hv0
  generalize hHe : s.heap = H at hP
  have hS : va_S A s.heap H [] := by rw [← hHe]; exact hS
  have hP : va_P D vwCl (((r0 0), .inr (1, [.int (fi0 0), .ref (r0 1), .ref (r0 2), .ref (r0 3), .ref (r0 4), .ref (r0 5), .ref (r0 6), .ref (r0 7), .ref (r0 8), .ref (r0 9), .long (fl0 0), .ref (r0 10)])) :: ((r0 1), .inl (ca 0, 60, .inl (fa0 0))) :: ((r0 2), .inl (ca 0, 60, .inl (fa0 1))) :: ((r0 3), .inl (ca 0, 60, .inl (fa0 2))) :: ((r0 4), .inl (ca 0, 60, .inl (fa0 3))) :: ((r0 5), .inl (ca 0, 60, .inl (fa0 4))) :: ((r0 6), .inl (ca 0, 60, .inl (fa0 5))) :: ((r0 7), .inl (ca 0, 60, .inl (fa0 6))) :: ((r0 8), .inl (ca 0, 180, .inl (fa0 7))) :: ((r0 9), .inl (ca 1, 60, .inr (.inl (fb0 0)))) :: ((r0 10), .inr (0, [.ref (r0 11)])) :: ((r0 11), .inl (ca 1, 400, .inr (.inl (fb0 1)))) :: rest) H := hP
  have hD : va_D A (((r0 0), .inr (1, [.int (fi0 0), .ref (r0 1), .ref (r0 2), .ref (r0 3), .ref (r0 4), .ref (r0 5), .ref (r0 6), .ref (r0 7), .ref (r0 8), .ref (r0 9), .long (fl0 0), .ref (r0 10)])) :: ((r0 1), .inl (ca 0, 60, .inl (fa0 0))) :: ((r0 2), .inl (ca 0, 60, .inl (fa0 1))) :: ((r0 3), .inl (ca 0, 60, .inl (fa0 2))) :: ((r0 4), .inl (ca 0, 60, .inl (fa0 3))) :: ((r0 5), .inl (ca 0, 60, .inl (fa0 4))) :: ((r0 6), .inl (ca 0, 60, .inl (fa0 5))) :: ((r0 7), .inl (ca 0, 60, .inl (fa0 6))) :: ((r0 8), .inl (ca 0, 180, .inl (fa0 7))) :: ((r0 9), .inl (ca 1, 60, .inr (.inl (fb0 0)))) :: ((r0 10), .inr (0, [.ref (r0 11)])) :: ((r0 11), .inl (ca 1, 400, .inr (.inl (fb0 1)))) :: rest) := hD
  have hl := lv_entry ([.ref (r0 0), .int p1, .int p2]) (n := 3) (Nat.le_of_ble_eq_true rfl)
  rw [lg_entry_eq]
  generalize (lg_sl ([.ref (r0 0), .int p1, .int p2]) ++ List.replicate (3 - (lg_sl ([.ref (r0 0), .int p1, .int p2])).length) Slot.unset).toArray = ls at hl ⊢
  have hl : lv_has ls 3 [(0, .ref (r0 0)), (1, .int p1), (2, .int p2)] := hl
  generalize hQ9 : MQ below _ _ s 0 0 A = Q9
  refine lv_aload_n hx hb dX1_addFix_0 rfl (lv_at hl 0 rfl) ?_
  refine va_get (D := D) (ci := 1) (v := .ref (r0 4)) (C := RX1) (T := TX1) (N := 12) hx hb hts inX1 hown hK hP 0 rfl rfl 4 (by decide) lk25 (fun _ h9 => h9) rfl dX1_addFix_1 ?_
  refine lv_iload_n hx hb dX1_addFix_4 rfl (lv_at hl 2 rfl) ?_
  have hi1 : vp_in p2 60 := z_in (i := p2.toInt) rfl (by omega) (by omega)
  refine va_iald hx hb hK hP 4 0 rfl rfl hi1 dX1_addFix_5 ?_
  refine lv_topi (fun t2 et2 => ?_)
  have ht2v : t2.toInt = ((fa0 3) p2.toNatClampNeg).toInt := by rw [et2]
  refine lv_iconst (v := (-1)) hx hb dX1_addFix_6 (by decide) ?_
  refine lv_icmp_eq (tgt := 30) hx hb dX1_addFix_7 (by decide) (fun c3 => ?_) (fun c3 => ?_)
  ·
    have c3 := z_eq (i := t2.toInt) (j := (-1)) rfl (by decide) c3
    refine lv_iconst (v := 0) hx hb dX1_addFix_30 (by decide) ?_
    rw [← hQ9]
    refine lv_topi (fun t4 et4 => ?_)
    have ht4 : t4.toInt = 0 := by rw [et4]; decide
    have ho5 : (0 ≤ (fi0 0).toInt ∧ (fi0 0).toInt ≤ 60) ∧ z_rng 0 3 (fa0 6) := ⟨⟨by omega, by omega⟩, hv0a6⟩
    have hq6 : 0 ≤ t4.toInt ∧ t4.toInt ≤ 1 := by omega
    have hq7 : ((t4).toInt = 1 ∧ ((fa0 3) p2.toNatClampNeg).toInt ≠ -1 ∧ ((fa0 5) p2.toNatClampNeg).toInt = -1 ∧ ((fa0 4) p1.toNatClampNeg).toInt = -1 ∧ (fa0 4) = upd (fa0 4) p1.toNatClampNeg p2 ∧ (fa0 5) = upd (fa0 5) p2.toNatClampNeg p1) ∨ ((t4).toInt = 0 ∧ (((fa0 3) p2.toNatClampNeg).toInt = -1 ∨ ((fa0 5) p2.toNatClampNeg).toInt ≠ -1 ∨ ((fa0 4) p1.toNatClampNeg).toInt ≠ -1) ∧ (fa0 4) = (fa0 4) ∧ (fa0 5) = (fa0 5)) := Or.inr ⟨by omega, by omega, rfl, rfl⟩
    have hz8 : narrow .boolean (.int t4) = .int t4 := z_nz (by constructor <;> omega)
    exact W.zret (v := t4) hx hb hr hz8 (fun t ht hW => ⟨⟨t4, ((zl 0 [(fi0 0)]), (zl 0 [(fl0 0)]), (zl (fun _ => 0) [(fa0 0), (fa0 1), (fa0 2), (fa0 3), (fa0 4), (fa0 5), (fa0 6), (fa0 7)]), (zl (fun _ => 0) [(fb0 0), (fb0 1)])), rfl, ⟨ho5, hq6, hq7⟩, ⟨by rw [ht]; exact hP, hD⟩⟩, hS.F ht⟩) hS.2.2 dX1_addFix_31
  ·
    have c3 := z_ne (i := t2.toInt) (j := (-1)) rfl (by decide) c3
    refine lv_aload_n hx hb dX1_addFix_10 rfl (lv_at hl 0 rfl) ?_
    refine va_get (D := D) (ci := 1) (v := .ref (r0 6)) (C := RX1) (T := TX1) (N := 12) hx hb hts inX1 hown hK hP 0 rfl rfl 6 (by decide) lk31 (fun _ h9 => h9) rfl dX1_addFix_11 ?_
    refine lv_iload_n hx hb dX1_addFix_14 rfl (lv_at hl 2 rfl) ?_
    have hi9 : vp_in p2 60 := z_in (i := p2.toInt) rfl (by omega) (by omega)
    refine va_iald hx hb hK hP 6 0 rfl rfl hi9 dX1_addFix_15 ?_
    refine lv_topi (fun t10 et10 => ?_)
    have ht10v : t10.toInt = ((fa0 5) p2.toNatClampNeg).toInt := by rw [et10]
    refine lv_iconst (v := (-1)) hx hb dX1_addFix_16 (by decide) ?_
    refine lv_icmp_ne (tgt := 30) hx hb dX1_addFix_17 (by decide) (fun c11 => ?_) (fun c11 => ?_)
    ·
      have c11 := z_ne (i := t10.toInt) (j := (-1)) rfl (by decide) c11
      refine lv_iconst (v := 0) hx hb dX1_addFix_30 (by decide) ?_
      rw [← hQ9]
      refine lv_topi (fun t12 et12 => ?_)
      have ht12 : t12.toInt = 0 := by rw [et12]; decide
      have ho13 : (0 ≤ (fi0 0).toInt ∧ (fi0 0).toInt ≤ 60) ∧ z_rng 0 3 (fa0 6) := ⟨⟨by omega, by omega⟩, hv0a6⟩
      have hq14 : 0 ≤ t12.toInt ∧ t12.toInt ≤ 1 := by omega
      have hq15 : ((t12).toInt = 1 ∧ ((fa0 3) p2.toNatClampNeg).toInt ≠ -1 ∧ ((fa0 5) p2.toNatClampNeg).toInt = -1 ∧ ((fa0 4) p1.toNatClampNeg).toInt = -1 ∧ (fa0 4) = upd (fa0 4) p1.toNatClampNeg p2 ∧ (fa0 5) = upd (fa0 5) p2.toNatClampNeg p1) ∨ ((t12).toInt = 0 ∧ (((fa0 3) p2.toNatClampNeg).toInt = -1 ∨ ((fa0 5) p2.toNatClampNeg).toInt ≠ -1 ∨ ((fa0 4) p1.toNatClampNeg).toInt ≠ -1) ∧ (fa0 4) = (fa0 4) ∧ (fa0 5) = (fa0 5)) := Or.inr ⟨by omega, by omega, rfl, rfl⟩
      have hz16 : narrow .boolean (.int t12) = .int t12 := z_nz (by constructor <;> omega)
      exact W.zret (v := t12) hx hb hr hz16 (fun t ht hW => ⟨⟨t12, ((zl 0 [(fi0 0)]), (zl 0 [(fl0 0)]), (zl (fun _ => 0) [(fa0 0), (fa0 1), (fa0 2), (fa0 3), (fa0 4), (fa0 5), (fa0 6), (fa0 7)]), (zl (fun _ => 0) [(fb0 0), (fb0 1)])), rfl, ⟨ho13, hq14, hq15⟩, ⟨by rw [ht]; exact hP, hD⟩⟩, hS.F ht⟩) hS.2.2 dX1_addFix_31
    ·
      have c11 := z_eq (i := t10.toInt) (j := (-1)) rfl (by decide) c11
      refine lv_aload_n hx hb dX1_addFix_20 rfl (lv_at hl 0 rfl) ?_
      refine va_get (D := D) (ci := 1) (v := .ref (r0 5)) (C := RX1) (T := TX1) (N := 12) hx hb hts inX1 hown hK hP 0 rfl rfl 5 (by decide) lk28 (fun _ h9 => h9) rfl dX1_addFix_21 ?_
      refine lv_iload_n hx hb dX1_addFix_24 rfl (lv_at hl 1 rfl) ?_
      have hi17 : vp_in p1 60 := z_in (i := p1.toInt) rfl (by omega) (by omega)
      refine va_iald hx hb hK hP 5 0 rfl rfl hi17 dX1_addFix_25 ?_
      refine lv_topi (fun t18 et18 => ?_)
      have ht18v : t18.toInt = ((fa0 4) p1.toNatClampNeg).toInt := by rw [et18]
      refine lv_iconst (v := (-1)) hx hb dX1_addFix_26 (by decide) ?_
      refine lv_icmp_eq (tgt := 32) hx hb dX1_addFix_27 (by decide) (fun c19 => ?_) (fun c19 => ?_)
      ·
        have c19 := z_eq (i := t18.toInt) (j := (-1)) rfl (by decide) c19
        refine lv_aload_n hx hb dX1_addFix_32 rfl (lv_at hl 0 rfl) ?_
        refine va_get (D := D) (ci := 1) (v := .ref (r0 5)) (C := RX1) (T := TX1) (N := 12) hx hb hts inX1 hown hK hP 0 rfl rfl 5 (by decide) lk28 (fun _ h9 => h9) rfl dX1_addFix_33 ?_
        refine lv_iload_n hx hb dX1_addFix_36 rfl (lv_at hl 1 rfl) ?_
        refine lv_iload_n hx hb dX1_addFix_37 rfl (lv_at hl 2 rfl) ?_
        have hi20 : vp_in p1 60 := z_in (i := p1.toInt) rfl (by omega) (by omega)
        refine va_iast hx hb hK hP hD hS 5 0 rfl rfl hi20 dX1_addFix_38 (fun H locs hP hD hS => ?_)
        generalize eg21 : upd (fa0 4) p1.toNatClampNeg p2 = g21 at hP hD
        have hP : va_P D vwCl (((r0 0), .inr (1, [.int (fi0 0), .ref (r0 1), .ref (r0 2), .ref (r0 3), .ref (r0 4), .ref (r0 5), .ref (r0 6), .ref (r0 7), .ref (r0 8), .ref (r0 9), .long (fl0 0), .ref (r0 10)])) :: ((r0 1), .inl (ca 0, 60, .inl (fa0 0))) :: ((r0 2), .inl (ca 0, 60, .inl (fa0 1))) :: ((r0 3), .inl (ca 0, 60, .inl (fa0 2))) :: ((r0 4), .inl (ca 0, 60, .inl (fa0 3))) :: ((r0 5), .inl (ca 0, 60, .inl g21)) :: ((r0 6), .inl (ca 0, 60, .inl (fa0 5))) :: ((r0 7), .inl (ca 0, 60, .inl (fa0 6))) :: ((r0 8), .inl (ca 0, 180, .inl (fa0 7))) :: ((r0 9), .inl (ca 1, 60, .inr (.inl (fb0 0)))) :: ((r0 10), .inr (0, [.ref (r0 11)])) :: ((r0 11), .inl (ca 1, 400, .inr (.inl (fb0 1)))) :: rest) H := hP
        have hD : va_D A (((r0 0), .inr (1, [.int (fi0 0), .ref (r0 1), .ref (r0 2), .ref (r0 3), .ref (r0 4), .ref (r0 5), .ref (r0 6), .ref (r0 7), .ref (r0 8), .ref (r0 9), .long (fl0 0), .ref (r0 10)])) :: ((r0 1), .inl (ca 0, 60, .inl (fa0 0))) :: ((r0 2), .inl (ca 0, 60, .inl (fa0 1))) :: ((r0 3), .inl (ca 0, 60, .inl (fa0 2))) :: ((r0 4), .inl (ca 0, 60, .inl (fa0 3))) :: ((r0 5), .inl (ca 0, 60, .inl g21)) :: ((r0 6), .inl (ca 0, 60, .inl (fa0 5))) :: ((r0 7), .inl (ca 0, 60, .inl (fa0 6))) :: ((r0 8), .inl (ca 0, 180, .inl (fa0 7))) :: ((r0 9), .inl (ca 1, 60, .inr (.inl (fb0 0)))) :: ((r0 10), .inr (0, [.ref (r0 11)])) :: ((r0 11), .inl (ca 1, 400, .inr (.inl (fb0 1)))) :: rest) := hD
        refine lv_aload_n hx hb dX1_addFix_39 rfl (lv_at hl 0 rfl) ?_
        refine va_get (D := D) (ci := 1) (v := .ref (r0 6)) (C := RX1) (T := TX1) (N := 12) hx hb hts inX1 hown hK hP 0 rfl rfl 6 (by decide) lk31 (fun _ h9 => h9) rfl dX1_addFix_40 ?_
        refine lv_iload_n hx hb dX1_addFix_43 rfl (lv_at hl 2 rfl) ?_
        refine lv_iload_n hx hb dX1_addFix_44 rfl (lv_at hl 1 rfl) ?_
        have hi22 : vp_in p2 60 := z_in (i := p2.toInt) rfl (by omega) (by omega)
        refine va_iast hx hb hK hP hD hS 6 0 rfl rfl hi22 dX1_addFix_45 (fun H locs hP hD hS => ?_)
        generalize eg23 : upd (fa0 5) p2.toNatClampNeg p1 = g23 at hP hD
        have hP : va_P D vwCl (((r0 0), .inr (1, [.int (fi0 0), .ref (r0 1), .ref (r0 2), .ref (r0 3), .ref (r0 4), .ref (r0 5), .ref (r0 6), .ref (r0 7), .ref (r0 8), .ref (r0 9), .long (fl0 0), .ref (r0 10)])) :: ((r0 1), .inl (ca 0, 60, .inl (fa0 0))) :: ((r0 2), .inl (ca 0, 60, .inl (fa0 1))) :: ((r0 3), .inl (ca 0, 60, .inl (fa0 2))) :: ((r0 4), .inl (ca 0, 60, .inl (fa0 3))) :: ((r0 5), .inl (ca 0, 60, .inl g21)) :: ((r0 6), .inl (ca 0, 60, .inl g23)) :: ((r0 7), .inl (ca 0, 60, .inl (fa0 6))) :: ((r0 8), .inl (ca 0, 180, .inl (fa0 7))) :: ((r0 9), .inl (ca 1, 60, .inr (.inl (fb0 0)))) :: ((r0 10), .inr (0, [.ref (r0 11)])) :: ((r0 11), .inl (ca 1, 400, .inr (.inl (fb0 1)))) :: rest) H := hP
        have hD : va_D A (((r0 0), .inr (1, [.int (fi0 0), .ref (r0 1), .ref (r0 2), .ref (r0 3), .ref (r0 4), .ref (r0 5), .ref (r0 6), .ref (r0 7), .ref (r0 8), .ref (r0 9), .long (fl0 0), .ref (r0 10)])) :: ((r0 1), .inl (ca 0, 60, .inl (fa0 0))) :: ((r0 2), .inl (ca 0, 60, .inl (fa0 1))) :: ((r0 3), .inl (ca 0, 60, .inl (fa0 2))) :: ((r0 4), .inl (ca 0, 60, .inl (fa0 3))) :: ((r0 5), .inl (ca 0, 60, .inl g21)) :: ((r0 6), .inl (ca 0, 60, .inl g23)) :: ((r0 7), .inl (ca 0, 60, .inl (fa0 6))) :: ((r0 8), .inl (ca 0, 180, .inl (fa0 7))) :: ((r0 9), .inl (ca 1, 60, .inr (.inl (fb0 0)))) :: ((r0 10), .inr (0, [.ref (r0 11)])) :: ((r0 11), .inl (ca 1, 400, .inr (.inl (fb0 1)))) :: rest) := hD
        refine lv_aload_n hx hb dX1_addFix_46 rfl (lv_at hl 0 rfl) ?_
        refine lv_dup hx hb dX1_addFix_47 rfl ?_
        refine va_get (D := D) (ci := 1) (v := .long (fl0 0)) (C := RX1) (T := TX1) (N := 12) hx hb hts inX1 hown hK hP 0 rfl rfl 10 (by decide) lk44 (fun _ h9 => h9) rfl dX1_addFix_48 ?_
        refine lv_iload_n hx hb dX1_addFix_51 rfl (lv_at hl 1 rfl) ?_
        refine z_lN (As := [.int p1]) (rest := [.long (fl0 0), .ref (r0 0)]) (host := RX8) hF (c_X8_only l D ca sa A _ p1) ⟨va_cnB 1 hts ggX1_addFix_X8_only rfl rfl rfl (hE.2.1 _ (by decide +kernel)) liX8 (by decide +kernel) ⟨Nat.le_of_ble_eq_true rfl, Nat.le_of_ble_eq_true rfl⟩, lsX8_only, trivial⟩ hE hP hD hS rfl hl.1 rfl (Nat.le_of_ble_eq_true rfl) dX1_addFix_52 ⟨Nat.zero_le _, Nat.zero_le _⟩ (fun t25 u24 H locs hw26 hP hD hS => ?_)
        refine lv_lor hx hb dX1_addFix_55 ?_
        refine lv_topl (fun t27 et27 => ?_)
        refine va_put (D := D) (ci := 1) (v := .long t27) (ty := .long) (C := RX1) (T := TX1) (N := 12) hx hb hts inX1 tyX1 tyX1_ok nmX1 hown hK hP hD hS 0 rfl rfl 10 (by decide) lk44 (fun _ h9 => h9) rfl (by decide +kernel) rfl rfl (Nat.le_of_ble_eq_true rfl) dX1_addFix_56 (fun H locs hP hD hS => ?_)
        have hP : va_P D vwCl (((r0 0), .inr (1, [.int (fi0 0), .ref (r0 1), .ref (r0 2), .ref (r0 3), .ref (r0 4), .ref (r0 5), .ref (r0 6), .ref (r0 7), .ref (r0 8), .ref (r0 9), .long t27, .ref (r0 10)])) :: ((r0 1), .inl (ca 0, 60, .inl (fa0 0))) :: ((r0 2), .inl (ca 0, 60, .inl (fa0 1))) :: ((r0 3), .inl (ca 0, 60, .inl (fa0 2))) :: ((r0 4), .inl (ca 0, 60, .inl (fa0 3))) :: ((r0 5), .inl (ca 0, 60, .inl g21)) :: ((r0 6), .inl (ca 0, 60, .inl g23)) :: ((r0 7), .inl (ca 0, 60, .inl (fa0 6))) :: ((r0 8), .inl (ca 0, 180, .inl (fa0 7))) :: ((r0 9), .inl (ca 1, 60, .inr (.inl (fb0 0)))) :: ((r0 10), .inr (0, [.ref (r0 11)])) :: ((r0 11), .inl (ca 1, 400, .inr (.inl (fb0 1)))) :: rest) H := hP
        have hD : va_D A (((r0 0), .inr (1, [.int (fi0 0), .ref (r0 1), .ref (r0 2), .ref (r0 3), .ref (r0 4), .ref (r0 5), .ref (r0 6), .ref (r0 7), .ref (r0 8), .ref (r0 9), .long t27, .ref (r0 10)])) :: ((r0 1), .inl (ca 0, 60, .inl (fa0 0))) :: ((r0 2), .inl (ca 0, 60, .inl (fa0 1))) :: ((r0 3), .inl (ca 0, 60, .inl (fa0 2))) :: ((r0 4), .inl (ca 0, 60, .inl (fa0 3))) :: ((r0 5), .inl (ca 0, 60, .inl g21)) :: ((r0 6), .inl (ca 0, 60, .inl g23)) :: ((r0 7), .inl (ca 0, 60, .inl (fa0 6))) :: ((r0 8), .inl (ca 0, 180, .inl (fa0 7))) :: ((r0 9), .inl (ca 1, 60, .inr (.inl (fb0 0)))) :: ((r0 10), .inr (0, [.ref (r0 11)])) :: ((r0 11), .inl (ca 1, 400, .inr (.inl (fb0 1)))) :: rest) := hD
        refine lv_aload_n hx hb dX1_addFix_59 rfl (lv_at hl 0 rfl) ?_
        refine va_get (D := D) (ci := 1) (v := .ref (r0 10)) (C := RX1) (T := TX1) (N := 12) hx hb hts inX1 hown hK hP 0 rfl rfl 11 (by decide) lk51 (fun _ h9 => h9) rfl dX1_addFix_60 ?_
        refine lv_aload_n hx hb dX1_addFix_63 rfl (lv_at hl 0 rfl) ?_
        refine va_get (D := D) (ci := 1) (v := .ref (r0 1)) (C := RX1) (T := TX1) (N := 12) hx hb hts inX1 hown hK hP 0 rfl rfl 1 (by decide) lk15 (fun _ h9 => h9) rfl dX1_addFix_64 ?_
        refine lv_iload_n hx hb dX1_addFix_67 rfl (lv_at hl 1 rfl) ?_
        have hi28 : vp_in p1 60 := z_in (i := p1.toInt) rfl (by omega) (by omega)
        refine va_iald hx hb hK hP 1 0 rfl rfl hi28 dX1_addFix_68 ?_
        refine lv_topi (fun t29 et29 => ?_)
        have ht29v : t29.toInt = ((fa0 0) p1.toNatClampNeg).toInt := by rw [et29]
        refine lv_iload_n hx hb dX1_addFix_69 rfl (lv_at hl 1 rfl) ?_
        have hP9 := va_P.part (pl := rest) (X := [((r0 0), .inr (1, [.int (fi0 0), .ref (r0 1), .ref (r0 2), .ref (r0 3), .ref (r0 4), .ref (r0 5), .ref (r0 6), .ref (r0 7), .ref (r0 8), .ref (r0 9), .long t27, .ref (r0 10)])), ((r0 1), .inl (ca 0, 60, .inl (fa0 0))), ((r0 2), .inl (ca 0, 60, .inl (fa0 1))), ((r0 3), .inl (ca 0, 60, .inl (fa0 2))), ((r0 4), .inl (ca 0, 60, .inl (fa0 3))), ((r0 5), .inl (ca 0, 60, .inl g21)), ((r0 6), .inl (ca 0, 60, .inl g23)), ((r0 7), .inl (ca 0, 60, .inl (fa0 6))), ((r0 8), .inl (ca 0, 180, .inl (fa0 7))), ((r0 9), .inl (ca 1, 60, .inr (.inl (fb0 0)))), ((r0 10), .inr (0, [.ref (r0 11)])), ((r0 11), .inl (ca 1, 400, .inr (.inl (fb0 1))))]) (cx := [((r0 10), .inr (0, [.ref (r0 11)])), ((r0 11), .inl (ca 1, 400, .inr (.inl (fb0 1)))), ((r0 0), .inr (1, [.int (fi0 0), .ref (r0 1), .ref (r0 2), .ref (r0 3), .ref (r0 4), .ref (r0 5), .ref (r0 6), .ref (r0 7), .ref (r0 8), .ref (r0 9), .long t27, .ref (r0 10)])), ((r0 1), .inl (ca 0, 60, .inl (fa0 0))), ((r0 2), .inl (ca 0, 60, .inl (fa0 1))), ((r0 3), .inl (ca 0, 60, .inl (fa0 2))), ((r0 4), .inl (ca 0, 60, .inl (fa0 3))), ((r0 5), .inl (ca 0, 60, .inl g21)), ((r0 6), .inl (ca 0, 60, .inl g23)), ((r0 7), .inl (ca 0, 60, .inl (fa0 6))), ((r0 8), .inl (ca 0, 180, .inl (fa0 7))), ((r0 9), .inl (ca 1, 60, .inr (.inl (fb0 0))))]) hP [10, 11, 0, 1, 2, 3, 4, 5, 6, 7, 8, 9] rfl
        have hD9 := va_D.part (pl := rest) (X := [((r0 0), .inr (1, [.int (fi0 0), .ref (r0 1), .ref (r0 2), .ref (r0 3), .ref (r0 4), .ref (r0 5), .ref (r0 6), .ref (r0 7), .ref (r0 8), .ref (r0 9), .long t27, .ref (r0 10)])), ((r0 1), .inl (ca 0, 60, .inl (fa0 0))), ((r0 2), .inl (ca 0, 60, .inl (fa0 1))), ((r0 3), .inl (ca 0, 60, .inl (fa0 2))), ((r0 4), .inl (ca 0, 60, .inl (fa0 3))), ((r0 5), .inl (ca 0, 60, .inl g21)), ((r0 6), .inl (ca 0, 60, .inl g23)), ((r0 7), .inl (ca 0, 60, .inl (fa0 6))), ((r0 8), .inl (ca 0, 180, .inl (fa0 7))), ((r0 9), .inl (ca 1, 60, .inr (.inl (fb0 0)))), ((r0 10), .inr (0, [.ref (r0 11)])), ((r0 11), .inl (ca 1, 400, .inr (.inl (fb0 1))))]) (cx := [((r0 10), .inr (0, [.ref (r0 11)])), ((r0 11), .inl (ca 1, 400, .inr (.inl (fb0 1)))), ((r0 0), .inr (1, [.int (fi0 0), .ref (r0 1), .ref (r0 2), .ref (r0 3), .ref (r0 4), .ref (r0 5), .ref (r0 6), .ref (r0 7), .ref (r0 8), .ref (r0 9), .long t27, .ref (r0 10)])), ((r0 1), .inl (ca 0, 60, .inl (fa0 0))), ((r0 2), .inl (ca 0, 60, .inl (fa0 1))), ((r0 3), .inl (ca 0, 60, .inl (fa0 2))), ((r0 4), .inl (ca 0, 60, .inl (fa0 3))), ((r0 5), .inl (ca 0, 60, .inl g21)), ((r0 6), .inl (ca 0, 60, .inl g23)), ((r0 7), .inl (ca 0, 60, .inl (fa0 6))), ((r0 8), .inl (ca 0, 180, .inl (fa0 7))), ((r0 9), .inl (ca 1, 60, .inr (.inl (fb0 0))))]) hD [10, 11, 0, 1, 2, 3, 4, 5, 6, 7, 8, 9] (by decide) rfl
        refine z_vV (As := [.int t29, .int p1]) (rest := []) hF (c_X0_drop l D ca sa A (((r0 0), .inr (1, [.int (fi0 0), .ref (r0 1), .ref (r0 2), .ref (r0 3), .ref (r0 4), .ref (r0 5), .ref (r0 6), .ref (r0 7), .ref (r0 8), .ref (r0 9), .long t27, .ref (r0 10)])) :: ((r0 1), .inl (ca 0, 60, .inl (fa0 0))) :: ((r0 2), .inl (ca 0, 60, .inl (fa0 1))) :: ((r0 3), .inl (ca 0, 60, .inl (fa0 2))) :: ((r0 4), .inl (ca 0, 60, .inl (fa0 3))) :: ((r0 5), .inl (ca 0, 60, .inl g21)) :: ((r0 6), .inl (ca 0, 60, .inl g23)) :: ((r0 7), .inl (ca 0, 60, .inl (fa0 6))) :: ((r0 8), .inl (ca 0, 180, .inl (fa0 7))) :: ((r0 9), .inl (ca 1, 60, .inr (.inl (fb0 0)))) :: rest) (zl 0 [(r0 10), (r0 11)]) (zl 0 []) (zl 0 []) (zl (fun _ => 0) []) (zl (fun _ => 0) [(fb0 1)]) trivial t29 p1) (cwV 2 hts gX1_addFix_X0_drop rfl rfl rfl (by decide +kernel) ⟨Nat.le_of_ble_eq_true rfl, Nat.le_of_ble_eq_true rfl⟩) hE hP9 hD9 hS 0 0 rfl rfl rfl hl.1 rfl (Nat.le_of_ble_eq_true rfl) dX1_addFix_70 ⟨Nat.zero_le _, Nat.zero_le _⟩ (fun u30 H locs hw32 hP hD hS => ?_)
        obtain ⟨im33, lm33, am33, bm33⟩ := u30
        have hw32 : (True) := hw32
        obtain - := hw32
        have hP := va_P.part (pl := rest) (X := [((r0 10), .inr (0, [.ref (r0 11)])), ((r0 11), .inl (ca 1, 400, .inr (.inl (bm33 0)))), ((r0 0), .inr (1, [.int (fi0 0), .ref (r0 1), .ref (r0 2), .ref (r0 3), .ref (r0 4), .ref (r0 5), .ref (r0 6), .ref (r0 7), .ref (r0 8), .ref (r0 9), .long t27, .ref (r0 10)])), ((r0 1), .inl (ca 0, 60, .inl (fa0 0))), ((r0 2), .inl (ca 0, 60, .inl (fa0 1))), ((r0 3), .inl (ca 0, 60, .inl (fa0 2))), ((r0 4), .inl (ca 0, 60, .inl (fa0 3))), ((r0 5), .inl (ca 0, 60, .inl g21)), ((r0 6), .inl (ca 0, 60, .inl g23)), ((r0 7), .inl (ca 0, 60, .inl (fa0 6))), ((r0 8), .inl (ca 0, 180, .inl (fa0 7))), ((r0 9), .inl (ca 1, 60, .inr (.inl (fb0 0))))]) (cx := [((r0 0), .inr (1, [.int (fi0 0), .ref (r0 1), .ref (r0 2), .ref (r0 3), .ref (r0 4), .ref (r0 5), .ref (r0 6), .ref (r0 7), .ref (r0 8), .ref (r0 9), .long t27, .ref (r0 10)])), ((r0 1), .inl (ca 0, 60, .inl (fa0 0))), ((r0 2), .inl (ca 0, 60, .inl (fa0 1))), ((r0 3), .inl (ca 0, 60, .inl (fa0 2))), ((r0 4), .inl (ca 0, 60, .inl (fa0 3))), ((r0 5), .inl (ca 0, 60, .inl g21)), ((r0 6), .inl (ca 0, 60, .inl g23)), ((r0 7), .inl (ca 0, 60, .inl (fa0 6))), ((r0 8), .inl (ca 0, 180, .inl (fa0 7))), ((r0 9), .inl (ca 1, 60, .inr (.inl (fb0 0)))), ((r0 10), .inr (0, [.ref (r0 11)])), ((r0 11), .inl (ca 1, 400, .inr (.inl (bm33 0))))]) hP [2, 3, 4, 5, 6, 7, 8, 9, 10, 11, 0, 1] rfl
        have hD := va_D.part (pl := rest) (X := [((r0 10), .inr (0, [.ref (r0 11)])), ((r0 11), .inl (ca 1, 400, .inr (.inl (bm33 0)))), ((r0 0), .inr (1, [.int (fi0 0), .ref (r0 1), .ref (r0 2), .ref (r0 3), .ref (r0 4), .ref (r0 5), .ref (r0 6), .ref (r0 7), .ref (r0 8), .ref (r0 9), .long t27, .ref (r0 10)])), ((r0 1), .inl (ca 0, 60, .inl (fa0 0))), ((r0 2), .inl (ca 0, 60, .inl (fa0 1))), ((r0 3), .inl (ca 0, 60, .inl (fa0 2))), ((r0 4), .inl (ca 0, 60, .inl (fa0 3))), ((r0 5), .inl (ca 0, 60, .inl g21)), ((r0 6), .inl (ca 0, 60, .inl g23)), ((r0 7), .inl (ca 0, 60, .inl (fa0 6))), ((r0 8), .inl (ca 0, 180, .inl (fa0 7))), ((r0 9), .inl (ca 1, 60, .inr (.inl (fb0 0))))]) (cx := [((r0 0), .inr (1, [.int (fi0 0), .ref (r0 1), .ref (r0 2), .ref (r0 3), .ref (r0 4), .ref (r0 5), .ref (r0 6), .ref (r0 7), .ref (r0 8), .ref (r0 9), .long t27, .ref (r0 10)])), ((r0 1), .inl (ca 0, 60, .inl (fa0 0))), ((r0 2), .inl (ca 0, 60, .inl (fa0 1))), ((r0 3), .inl (ca 0, 60, .inl (fa0 2))), ((r0 4), .inl (ca 0, 60, .inl (fa0 3))), ((r0 5), .inl (ca 0, 60, .inl g21)), ((r0 6), .inl (ca 0, 60, .inl g23)), ((r0 7), .inl (ca 0, 60, .inl (fa0 6))), ((r0 8), .inl (ca 0, 180, .inl (fa0 7))), ((r0 9), .inl (ca 1, 60, .inr (.inl (fb0 0)))), ((r0 10), .inr (0, [.ref (r0 11)])), ((r0 11), .inl (ca 1, 400, .inr (.inl (bm33 0))))]) hD [2, 3, 4, 5, 6, 7, 8, 9, 10, 11, 0, 1] (by decide) rfl
        have hP : va_P D vwCl (((r0 0), .inr (1, [.int (fi0 0), .ref (r0 1), .ref (r0 2), .ref (r0 3), .ref (r0 4), .ref (r0 5), .ref (r0 6), .ref (r0 7), .ref (r0 8), .ref (r0 9), .long t27, .ref (r0 10)])) :: ((r0 1), .inl (ca 0, 60, .inl (fa0 0))) :: ((r0 2), .inl (ca 0, 60, .inl (fa0 1))) :: ((r0 3), .inl (ca 0, 60, .inl (fa0 2))) :: ((r0 4), .inl (ca 0, 60, .inl (fa0 3))) :: ((r0 5), .inl (ca 0, 60, .inl g21)) :: ((r0 6), .inl (ca 0, 60, .inl g23)) :: ((r0 7), .inl (ca 0, 60, .inl (fa0 6))) :: ((r0 8), .inl (ca 0, 180, .inl (fa0 7))) :: ((r0 9), .inl (ca 1, 60, .inr (.inl (fb0 0)))) :: ((r0 10), .inr (0, [.ref (r0 11)])) :: ((r0 11), .inl (ca 1, 400, .inr (.inl (bm33 0)))) :: rest) H := hP
        have hD : va_D A (((r0 0), .inr (1, [.int (fi0 0), .ref (r0 1), .ref (r0 2), .ref (r0 3), .ref (r0 4), .ref (r0 5), .ref (r0 6), .ref (r0 7), .ref (r0 8), .ref (r0 9), .long t27, .ref (r0 10)])) :: ((r0 1), .inl (ca 0, 60, .inl (fa0 0))) :: ((r0 2), .inl (ca 0, 60, .inl (fa0 1))) :: ((r0 3), .inl (ca 0, 60, .inl (fa0 2))) :: ((r0 4), .inl (ca 0, 60, .inl (fa0 3))) :: ((r0 5), .inl (ca 0, 60, .inl g21)) :: ((r0 6), .inl (ca 0, 60, .inl g23)) :: ((r0 7), .inl (ca 0, 60, .inl (fa0 6))) :: ((r0 8), .inl (ca 0, 180, .inl (fa0 7))) :: ((r0 9), .inl (ca 1, 60, .inr (.inl (fb0 0)))) :: ((r0 10), .inr (0, [.ref (r0 11)])) :: ((r0 11), .inl (ca 1, 400, .inr (.inl (bm33 0)))) :: rest) := hD
        refine lv_iconst (v := 1) hx hb dX1_addFix_73 (by decide) ?_
        rw [← hQ9]
        refine lv_topi (fun t34 et34 => ?_)
        have ht34 : t34.toInt = 1 := by rw [et34]; decide
        have ho35 : (0 ≤ (fi0 0).toInt ∧ (fi0 0).toInt ≤ 60) ∧ z_rng 0 3 (fa0 6) := ⟨⟨by omega, by omega⟩, hv0a6⟩
        have hq36 : 0 ≤ t34.toInt ∧ t34.toInt ≤ 1 := by omega
        have hq37 : ((t34).toInt = 1 ∧ ((fa0 3) p2.toNatClampNeg).toInt ≠ -1 ∧ ((fa0 5) p2.toNatClampNeg).toInt = -1 ∧ ((fa0 4) p1.toNatClampNeg).toInt = -1 ∧ g21 = upd (fa0 4) p1.toNatClampNeg p2 ∧ g23 = upd (fa0 5) p2.toNatClampNeg p1) ∨ ((t34).toInt = 0 ∧ (((fa0 3) p2.toNatClampNeg).toInt = -1 ∨ ((fa0 5) p2.toNatClampNeg).toInt ≠ -1 ∨ ((fa0 4) p1.toNatClampNeg).toInt ≠ -1) ∧ g21 = (fa0 4) ∧ g23 = (fa0 5)) := Or.inl ⟨by omega, by omega, by omega, by omega, eg21.symm, eg23.symm⟩
        have hz38 : narrow .boolean (.int t34) = .int t34 := z_nz (by constructor <;> omega)
        exact W.zret (v := t34) hx hb hr hz38 (fun t ht hW => ⟨⟨t34, ((zl 0 [(fi0 0)]), (zl 0 [t27]), (zl (fun _ => 0) [(fa0 0), (fa0 1), (fa0 2), (fa0 3), g21, g23, (fa0 6), (fa0 7)]), (zl (fun _ => 0) [(fb0 0), (bm33 0)])), rfl, ⟨ho35, hq36, hq37⟩, ⟨by rw [ht]; exact hP, hD⟩⟩, hS.F ht⟩) hS.2.2 dX1_addFix_74
      ·
        have c19 := z_ne (i := t18.toInt) (j := (-1)) rfl (by decide) c19
        refine lv_iconst (v := 0) hx hb dX1_addFix_30 (by decide) ?_
        rw [← hQ9]
        refine lv_topi (fun t39 et39 => ?_)
        have ht39 : t39.toInt = 0 := by rw [et39]; decide
        have ho40 : (0 ≤ (fi0 0).toInt ∧ (fi0 0).toInt ≤ 60) ∧ z_rng 0 3 (fa0 6) := ⟨⟨by omega, by omega⟩, hv0a6⟩
        have hq41 : 0 ≤ t39.toInt ∧ t39.toInt ≤ 1 := by omega
        have hq42 : ((t39).toInt = 1 ∧ ((fa0 3) p2.toNatClampNeg).toInt ≠ -1 ∧ ((fa0 5) p2.toNatClampNeg).toInt = -1 ∧ ((fa0 4) p1.toNatClampNeg).toInt = -1 ∧ (fa0 4) = upd (fa0 4) p1.toNatClampNeg p2 ∧ (fa0 5) = upd (fa0 5) p2.toNatClampNeg p1) ∨ ((t39).toInt = 0 ∧ (((fa0 3) p2.toNatClampNeg).toInt = -1 ∨ ((fa0 5) p2.toNatClampNeg).toInt ≠ -1 ∨ ((fa0 4) p1.toNatClampNeg).toInt ≠ -1) ∧ (fa0 4) = (fa0 4) ∧ (fa0 5) = (fa0 5)) := Or.inr ⟨by omega, by omega, rfl, rfl⟩
        have hz43 : narrow .boolean (.int t39) = .int t39 := z_nz (by constructor <;> omega)
        exact W.zret (v := t39) hx hb hr hz43 (fun t ht hW => ⟨⟨t39, ((zl 0 [(fi0 0)]), (zl 0 [(fl0 0)]), (zl (fun _ => 0) [(fa0 0), (fa0 1), (fa0 2), (fa0 3), (fa0 4), (fa0 5), (fa0 6), (fa0 7)]), (zl (fun _ => 0) [(fb0 0), (fb0 1)])), rfl, ⟨ho40, hq41, hq42⟩, ⟨by rw [ht]; exact hP, hD⟩⟩, hS.F ht⟩) hS.2.2 dX1_addFix_31

set_option maxHeartbeats 8000000 in
set_option maxRecDepth 100000 in
theorem c_X1_hangAt_R (l : Launch) (D : va_G) (ca : Nat → ClassId) (sa : Nat → Nat) (A : Nat → Prop) (rest : va_W) (r0 : Nat → Nat) (fi0 : Nat → Int32) (fl0 : Nat → Int64) (fa0 : Nat → Nat → Int32) (fb0 : Nat → Nat → Int64) (hv0 : Ok_CHG fi0 fa0) (p1 : Int32) (p2 : Int32) (hpre0 : 0 ≤ p1.toInt ∧ p1.toInt ≤ 59) : Met l yX1_hangAt wsX1_hangAt ({ frames := 0, cells := 0, slots := 0, locals := 0 }) (va_Pc [.ref (r0 0), .int p1, .int p2] (zPre D ca sa A (w_CHG ca r0 fi0 fl0 fa0 fb0 (rest)))) (va_Qi (fun (r : Int32) (u : Unit) => (r = zHa (fa0 6) (fa0 7) p1 p2)) (fun u t => zPost D A (w_CHG ca r0 fi0 fl0 fa0 fb0 (rest)) t) A) 0 0 A := by
  refine Met.ofW (cc := cX1_hangAt) (maxL := 3) (ret := (some .int)) (by decide) rfl ?_
  intro p e s m args below meth c s₁ B hml hv9
  obtain ⟨rfl, hE, hP, hD⟩ := hv9
  have hx := B.exec
  have hb := B.bytes
  have hr := B.returns
  have hts := atoms_spec (ws := wsX1_hangAt) B.pre
  have hown : s.vm.findClass RX1 = some m.cls := findClass_of_methodNamed B.named
  have hlocks := B.notSynchronized
  have hK := hE.1
  have hF : CallFix p m c cX1_hangAt 3 s _ wsX1_hangAt RX1 := ⟨hx, hb, hml, hown, hts⟩
  have hS : va_S A s.heap s.heap [] := va_S.rf
  have lk34 := hts (.fieldLink RX1 34 "BranchPlay$Changes" "hangCount" "[I") (by decide +kernel)
  have inX1 : ∀ w ∈ wsX10, w ∈ wsX1_hangAt := by decide +kernel
  have lk37 := hts (.fieldLink RX1 37 "BranchPlay$Changes" "hangs" "[I") (by decide +kernel)
  obtain ⟨⟨hv0i0, hv0j0⟩, hv0a6⟩ := hv0
  generalize hHe : s.heap = H at hP
  have hS : va_S A s.heap H [] := by rw [← hHe]; exact hS
  have hP : va_P D vwCl (((r0 0), .inr (1, [.int (fi0 0), .ref (r0 1), .ref (r0 2), .ref (r0 3), .ref (r0 4), .ref (r0 5), .ref (r0 6), .ref (r0 7), .ref (r0 8), .ref (r0 9), .long (fl0 0), .ref (r0 10)])) :: ((r0 1), .inl (ca 0, 60, .inl (fa0 0))) :: ((r0 2), .inl (ca 0, 60, .inl (fa0 1))) :: ((r0 3), .inl (ca 0, 60, .inl (fa0 2))) :: ((r0 4), .inl (ca 0, 60, .inl (fa0 3))) :: ((r0 5), .inl (ca 0, 60, .inl (fa0 4))) :: ((r0 6), .inl (ca 0, 60, .inl (fa0 5))) :: ((r0 7), .inl (ca 0, 60, .inl (fa0 6))) :: ((r0 8), .inl (ca 0, 180, .inl (fa0 7))) :: ((r0 9), .inl (ca 1, 60, .inr (.inl (fb0 0)))) :: ((r0 10), .inr (0, [.ref (r0 11)])) :: ((r0 11), .inl (ca 1, 400, .inr (.inl (fb0 1)))) :: rest) H := hP
  have hD : va_D A (((r0 0), .inr (1, [.int (fi0 0), .ref (r0 1), .ref (r0 2), .ref (r0 3), .ref (r0 4), .ref (r0 5), .ref (r0 6), .ref (r0 7), .ref (r0 8), .ref (r0 9), .long (fl0 0), .ref (r0 10)])) :: ((r0 1), .inl (ca 0, 60, .inl (fa0 0))) :: ((r0 2), .inl (ca 0, 60, .inl (fa0 1))) :: ((r0 3), .inl (ca 0, 60, .inl (fa0 2))) :: ((r0 4), .inl (ca 0, 60, .inl (fa0 3))) :: ((r0 5), .inl (ca 0, 60, .inl (fa0 4))) :: ((r0 6), .inl (ca 0, 60, .inl (fa0 5))) :: ((r0 7), .inl (ca 0, 60, .inl (fa0 6))) :: ((r0 8), .inl (ca 0, 180, .inl (fa0 7))) :: ((r0 9), .inl (ca 1, 60, .inr (.inl (fb0 0)))) :: ((r0 10), .inr (0, [.ref (r0 11)])) :: ((r0 11), .inl (ca 1, 400, .inr (.inl (fb0 1)))) :: rest) := hD
  have hl := lv_entry ([.ref (r0 0), .int p1, .int p2]) (n := 3) (Nat.le_of_ble_eq_true rfl)
  rw [lg_entry_eq]
  generalize (lg_sl ([.ref (r0 0), .int p1, .int p2]) ++ List.replicate (3 - (lg_sl ([.ref (r0 0), .int p1, .int p2])).length) Slot.unset).toArray = ls at hl ⊢
  have hl : lv_has ls 3 [(0, .ref (r0 0)), (1, .int p1), (2, .int p2)] := hl
  generalize hQ9 : MQ below _ _ s 0 0 A = Q9
  refine lv_iload_n hx hb dX1_hangAt_0 rfl (lv_at hl 2 rfl) ?_
  refine lv_bipush (v := 10) hx hb dX1_hangAt_1 (by decide) ?_
  refine lv_icmp_lt (tgt := 19) hx hb dX1_hangAt_3 (by decide) (fun c1 => ?_) (fun c1 => ?_)
  ·
    have c1 := z_lt (i := p2.toInt) (j := 10) rfl (by decide) c1
    refine lv_bipush (v := (-9)) hx hb dX1_hangAt_19 (by decide) ?_
    rw [← hQ9]
    refine lv_topi (fun t2 et2 => ?_)
    have ht2 : t2.toInt = (-9) := by rw [et2]; decide
    have hq3 : t2 = zHa (fa0 6) (fa0 7) p1 p2 := by unfold zHa; rw [if_neg (by omega)]; exact et2
    exact W.iret (v := t2) hx hb hr (fun t ht hW => ⟨⟨t2, (), rfl, hq3, ⟨by rw [ht]; exact hP, hD⟩⟩, hS.F ht⟩) hS.2.2 dX1_hangAt_21
  ·
    have c1 := z_nlt (i := p2.toInt) (j := 10) rfl (by decide) c1
    refine lv_iload_n hx hb dX1_hangAt_6 rfl (lv_at hl 2 rfl) ?_
    refine lv_bipush (v := 10) hx hb dX1_hangAt_7 (by decide) ?_
    refine lv_aload_n hx hb dX1_hangAt_9 rfl (lv_at hl 0 rfl) ?_
    refine va_get (D := D) (ci := 1) (v := .ref (r0 7)) (C := RX1) (T := TX1) (N := 12) hx hb hts inX1 hown hK hP 0 rfl rfl 7 (by decide) lk34 (fun _ h9 => h9) rfl dX1_hangAt_10 ?_
    refine lv_iload_n hx hb dX1_hangAt_13 rfl (lv_at hl 1 rfl) ?_
    have hi4 : vp_in p1 60 := z_in (i := p1.toInt) rfl (by omega) (by omega)
    refine va_iald hx hb hK hP 7 0 rfl rfl hi4 dX1_hangAt_14 ?_
    refine lv_topi (fun t5 et5 => ?_)
    have ht5v : t5.toInt = ((fa0 6) p1.toNatClampNeg).toInt := by rw [et5]
    have ht5 := z_at hv0a6 et5
    refine lv_iadd hx hb dX1_hangAt_15 ?_
    refine lv_topi (fun t6 et6 => ?_)
    try have ht6 : t6.toInt = 10 + t5.toInt := z_add et6 (by decide) rfl (by omega -splitDisjunctions) (by omega -splitDisjunctions)
    refine lv_icmp_lt (tgt := 22) hx hb dX1_hangAt_16 (by decide) (fun c7 => ?_) (fun c7 => ?_)
    ·
      have c7 := z_lt (i := p2.toInt) (j := t6.toInt) rfl rfl c7
      refine lv_aload_n hx hb dX1_hangAt_22 rfl (lv_at hl 0 rfl) ?_
      refine va_get (D := D) (ci := 1) (v := .ref (r0 8)) (C := RX1) (T := TX1) (N := 12) hx hb hts inX1 hown hK hP 0 rfl rfl 8 (by decide) lk37 (fun _ h9 => h9) rfl dX1_hangAt_23 ?_
      refine lv_iload_n hx hb dX1_hangAt_26 rfl (lv_at hl 1 rfl) ?_
      refine lv_iconst (v := 3) hx hb dX1_hangAt_27 (by decide) ?_
      refine lv_imul hx hb dX1_hangAt_28 ?_
      refine lv_topi (fun t8 et8 => ?_)
      try have ht8 : t8.toInt = p1.toInt * 3 := z_mul et8 rfl (by decide) (by omega -splitDisjunctions) (by omega -splitDisjunctions)
      refine lv_iload_n hx hb dX1_hangAt_29 rfl (lv_at hl 2 rfl) ?_
      refine lv_iadd hx hb dX1_hangAt_30 ?_
      refine lv_topi (fun t9 et9 => ?_)
      try have ht9 : t9.toInt = t8.toInt + p2.toInt := z_add et9 rfl rfl (by omega -splitDisjunctions) (by omega -splitDisjunctions)
      refine lv_bipush (v := 10) hx hb dX1_hangAt_31 (by decide) ?_
      refine lv_isub hx hb dX1_hangAt_33 ?_
      refine lv_topi (fun t10 et10 => ?_)
      try have ht10 : t10.toInt = t9.toInt - 10 := z_sub et10 rfl (by decide) (by omega -splitDisjunctions) (by omega -splitDisjunctions)
      have hi11 : vp_in t10 180 := z_in (i := t10.toInt) rfl (by omega) (by omega)
      refine va_iald hx hb hK hP 8 0 rfl rfl hi11 dX1_hangAt_34 ?_
      refine lv_topi (fun t12 et12 => ?_)
      have ht12v : t12.toInt = ((fa0 7) t10.toNatClampNeg).toInt := by rw [et12]
      rw [← hQ9]
      have hq13 : t12 = zHa (fa0 6) (fa0 7) p1 p2 := by unfold zHa; rw [if_pos (by omega), et12, show t10.toNatClampNeg = 3 * p1.toNatClampNeg + (p2.toInt - 10).toNat from by (rw [z_cl t10, z_cl p1]; omega)]
      exact W.iret (v := t12) hx hb hr (fun t ht hW => ⟨⟨t12, (), rfl, hq13, ⟨by rw [ht]; exact hP, hD⟩⟩, hS.F ht⟩) hS.2.2 dX1_hangAt_35
    ·
      have c7 := z_nlt (i := p2.toInt) (j := t6.toInt) rfl rfl c7
      refine lv_bipush (v := (-9)) hx hb dX1_hangAt_19 (by decide) ?_
      rw [← hQ9]
      refine lv_topi (fun t14 et14 => ?_)
      have ht14 : t14.toInt = (-9) := by rw [et14]; decide
      have hq15 : t14 = zHa (fa0 6) (fa0 7) p1 p2 := by unfold zHa; rw [if_neg (by omega)]; exact et14
      exact W.iret (v := t14) hx hb hr (fun t ht hW => ⟨⟨t14, (), rfl, hq15, ⟨by rw [ht]; exact hP, hD⟩⟩, hS.F ht⟩) hS.2.2 dX1_hangAt_21

set_option maxHeartbeats 8000000 in
set_option maxRecDepth 100000 in
theorem c_X1_tell_R (l : Launch) (D : va_G) (ca : Nat → ClassId) (sa : Nat → Nat) (A : Nat → Prop) (rest : va_W) (r0 : Nat → Nat) (fi0 : Nat → Int32) (fl0 : Nat → Int64) (fa0 : Nat → Nat → Int32) (fb0 : Nat → Nat → Int64) (hv0 : Ok_CHG fi0 fa0) (p1 : Int32) (p2 : Int32) (hpre0 : 0 ≤ p1.toInt ∧ p1.toInt ≤ 59) : Met l yX1_tell wsX1_tell ({ frames := 1, cells := 0, slots := 0, locals := 22 }) (va_Pc [.ref (r0 0), .int p1, .int p2] (zPre D ca sa A (w_CHG ca r0 fi0 fl0 fa0 fb0 (rest)))) (va_Qi (fun (r : Int32) (u : Unit) => (r = zAb (fa0 0) (fa0 1) (fa0 2) (fa0 3) (fa0 4) (fa0 5) (fa0 6) (fa0 7) p1 p2)) (fun u t => zPost D A (w_CHG ca r0 fi0 fl0 fa0 fb0 (rest)) t) A) 0 0 A := by
  refine Met.ofW (cc := cX1_tell) (maxL := 3) (ret := (some .int)) (by decide) rfl ?_
  intro p e s m args below meth c s₁ B hml hv9
  obtain ⟨rfl, hE, hP, hD⟩ := hv9
  have hx := B.exec
  have hb := B.bytes
  have hr := B.returns
  have hts := atoms_spec (ws := wsX1_tell) B.pre
  have hown : s.vm.findClass RX1 = some m.cls := findClass_of_methodNamed B.named
  have hlocks := B.notSynchronized
  have hK := hE.1
  have hF : CallFix p m c cX1_tell 3 s _ wsX1_tell RX1 := ⟨hx, hb, hml, hown, hts⟩
  have hS : va_S A s.heap s.heap [] := va_S.rf
  have lk15 := hts (.fieldLink RX1 15 "BranchPlay$Changes" "birth" "[I") (by decide +kernel)
  have inX1 : ∀ w ∈ wsX10, w ∈ wsX1_tell := by decide +kernel
  have lk19 := hts (.fieldLink RX1 19 "BranchPlay$Changes" "regions" "[I") (by decide +kernel)
  have lk22 := hts (.fieldLink RX1 22 "BranchPlay$Changes" "size" "[I") (by decide +kernel)
  have lk25 := hts (.fieldLink RX1 25 "BranchPlay$Changes" "breakAfter" "[I") (by decide +kernel)
  have lk28 := hts (.fieldLink RX1 28 "BranchPlay$Changes" "fixOf" "[I") (by decide +kernel)
  have lk31 := hts (.fieldLink RX1 31 "BranchPlay$Changes" "fixedBy" "[I") (by decide +kernel)
  have lk34 := hts (.fieldLink RX1 34 "BranchPlay$Changes" "hangCount" "[I") (by decide +kernel)
  obtain ⟨⟨hv0i0, hv0j0⟩, hv0a6⟩ := hv0
  generalize hHe : s.heap = H at hP
  have hS : va_S A s.heap H [] := by rw [← hHe]; exact hS
  have hP : va_P D vwCl (((r0 0), .inr (1, [.int (fi0 0), .ref (r0 1), .ref (r0 2), .ref (r0 3), .ref (r0 4), .ref (r0 5), .ref (r0 6), .ref (r0 7), .ref (r0 8), .ref (r0 9), .long (fl0 0), .ref (r0 10)])) :: ((r0 1), .inl (ca 0, 60, .inl (fa0 0))) :: ((r0 2), .inl (ca 0, 60, .inl (fa0 1))) :: ((r0 3), .inl (ca 0, 60, .inl (fa0 2))) :: ((r0 4), .inl (ca 0, 60, .inl (fa0 3))) :: ((r0 5), .inl (ca 0, 60, .inl (fa0 4))) :: ((r0 6), .inl (ca 0, 60, .inl (fa0 5))) :: ((r0 7), .inl (ca 0, 60, .inl (fa0 6))) :: ((r0 8), .inl (ca 0, 180, .inl (fa0 7))) :: ((r0 9), .inl (ca 1, 60, .inr (.inl (fb0 0)))) :: ((r0 10), .inr (0, [.ref (r0 11)])) :: ((r0 11), .inl (ca 1, 400, .inr (.inl (fb0 1)))) :: rest) H := hP
  have hD : va_D A (((r0 0), .inr (1, [.int (fi0 0), .ref (r0 1), .ref (r0 2), .ref (r0 3), .ref (r0 4), .ref (r0 5), .ref (r0 6), .ref (r0 7), .ref (r0 8), .ref (r0 9), .long (fl0 0), .ref (r0 10)])) :: ((r0 1), .inl (ca 0, 60, .inl (fa0 0))) :: ((r0 2), .inl (ca 0, 60, .inl (fa0 1))) :: ((r0 3), .inl (ca 0, 60, .inl (fa0 2))) :: ((r0 4), .inl (ca 0, 60, .inl (fa0 3))) :: ((r0 5), .inl (ca 0, 60, .inl (fa0 4))) :: ((r0 6), .inl (ca 0, 60, .inl (fa0 5))) :: ((r0 7), .inl (ca 0, 60, .inl (fa0 6))) :: ((r0 8), .inl (ca 0, 180, .inl (fa0 7))) :: ((r0 9), .inl (ca 1, 60, .inr (.inl (fb0 0)))) :: ((r0 10), .inr (0, [.ref (r0 11)])) :: ((r0 11), .inl (ca 1, 400, .inr (.inl (fb0 1)))) :: rest) := hD
  have hl := lv_entry ([.ref (r0 0), .int p1, .int p2]) (n := 3) (Nat.le_of_ble_eq_true rfl)
  rw [lg_entry_eq]
  generalize (lg_sl ([.ref (r0 0), .int p1, .int p2]) ++ List.replicate (3 - (lg_sl ([.ref (r0 0), .int p1, .int p2])).length) Slot.unset).toArray = ls at hl ⊢
  have hl : lv_has ls 3 [(0, .ref (r0 0)), (1, .int p1), (2, .int p2)] := hl
  generalize hQ9 : MQ below _ _ s 0 0 A = Q9
  refine lv_iload_n hx hb dX1_tell_0 rfl (lv_at hl 2 rfl) ?_
  by_cases c1 : p2.toInt = 0
  ·
    refine lv_tableIn (tgt := 44) hx hb dX1_tell_1 (by omega) (by omega) (by rw [c1]; rfl) (by decide) ?_
    refine lv_aload_n hx hb dX1_tell_44 rfl (lv_at hl 0 rfl) ?_
    refine va_get (D := D) (ci := 1) (v := .ref (r0 1)) (C := RX1) (T := TX1) (N := 12) hx hb hts inX1 hown hK hP 0 rfl rfl 1 (by decide) lk15 (fun _ h9 => h9) rfl dX1_tell_45 ?_
    refine lv_iload_n hx hb dX1_tell_48 rfl (lv_at hl 1 rfl) ?_
    have hi2 : vp_in p1 60 := z_in (i := p1.toInt) rfl (by omega) (by omega)
    refine va_iald hx hb hK hP 1 0 rfl rfl hi2 dX1_tell_49 ?_
    refine lv_topi (fun t3 et3 => ?_)
    rw [← hQ9]
    have hq4 : t3 = zAb (fa0 0) (fa0 1) (fa0 2) (fa0 3) (fa0 4) (fa0 5) (fa0 6) (fa0 7) p1 p2 := by unfold zAb; (repeat' split) <;> first | (exfalso; omega) | assumption
    exact W.iret (v := t3) hx hb hr (fun t ht hW => ⟨⟨t3, (), rfl, hq4, ⟨by rw [ht]; exact hP, hD⟩⟩, hS.F ht⟩) hS.2.2 dX1_tell_50
  by_cases c5 : p2.toInt = 1
  ·
    refine lv_tableIn (tgt := 51) hx hb dX1_tell_1 (by omega) (by omega) (by rw [c5]; rfl) (by decide) ?_
    refine lv_aload_n hx hb dX1_tell_51 rfl (lv_at hl 0 rfl) ?_
    refine va_get (D := D) (ci := 1) (v := .ref (r0 2)) (C := RX1) (T := TX1) (N := 12) hx hb hts inX1 hown hK hP 0 rfl rfl 2 (by decide) lk19 (fun _ h9 => h9) rfl dX1_tell_52 ?_
    refine lv_iload_n hx hb dX1_tell_55 rfl (lv_at hl 1 rfl) ?_
    have hi6 : vp_in p1 60 := z_in (i := p1.toInt) rfl (by omega) (by omega)
    refine va_iald hx hb hK hP 2 0 rfl rfl hi6 dX1_tell_56 ?_
    refine lv_topi (fun t7 et7 => ?_)
    rw [← hQ9]
    have hq8 : t7 = zAb (fa0 0) (fa0 1) (fa0 2) (fa0 3) (fa0 4) (fa0 5) (fa0 6) (fa0 7) p1 p2 := by unfold zAb; (repeat' split) <;> first | (exfalso; omega) | assumption
    exact W.iret (v := t7) hx hb hr (fun t ht hW => ⟨⟨t7, (), rfl, hq8, ⟨by rw [ht]; exact hP, hD⟩⟩, hS.F ht⟩) hS.2.2 dX1_tell_57
  by_cases c9 : p2.toInt = 2
  ·
    refine lv_tableIn (tgt := 58) hx hb dX1_tell_1 (by omega) (by omega) (by rw [c9]; rfl) (by decide) ?_
    refine lv_aload_n hx hb dX1_tell_58 rfl (lv_at hl 0 rfl) ?_
    refine va_get (D := D) (ci := 1) (v := .ref (r0 3)) (C := RX1) (T := TX1) (N := 12) hx hb hts inX1 hown hK hP 0 rfl rfl 3 (by decide) lk22 (fun _ h9 => h9) rfl dX1_tell_59 ?_
    refine lv_iload_n hx hb dX1_tell_62 rfl (lv_at hl 1 rfl) ?_
    have hi10 : vp_in p1 60 := z_in (i := p1.toInt) rfl (by omega) (by omega)
    refine va_iald hx hb hK hP 3 0 rfl rfl hi10 dX1_tell_63 ?_
    refine lv_topi (fun t11 et11 => ?_)
    rw [← hQ9]
    have hq12 : t11 = zAb (fa0 0) (fa0 1) (fa0 2) (fa0 3) (fa0 4) (fa0 5) (fa0 6) (fa0 7) p1 p2 := by unfold zAb; (repeat' split) <;> first | (exfalso; omega) | assumption
    exact W.iret (v := t11) hx hb hr (fun t ht hW => ⟨⟨t11, (), rfl, hq12, ⟨by rw [ht]; exact hP, hD⟩⟩, hS.F ht⟩) hS.2.2 dX1_tell_64
  by_cases c13 : p2.toInt = 3
  ·
    refine lv_tableIn (tgt := 65) hx hb dX1_tell_1 (by omega) (by omega) (by rw [c13]; rfl) (by decide) ?_
    refine lv_aload_n hx hb dX1_tell_65 rfl (lv_at hl 0 rfl) ?_
    refine va_get (D := D) (ci := 1) (v := .ref (r0 4)) (C := RX1) (T := TX1) (N := 12) hx hb hts inX1 hown hK hP 0 rfl rfl 4 (by decide) lk25 (fun _ h9 => h9) rfl dX1_tell_66 ?_
    refine lv_iload_n hx hb dX1_tell_69 rfl (lv_at hl 1 rfl) ?_
    have hi14 : vp_in p1 60 := z_in (i := p1.toInt) rfl (by omega) (by omega)
    refine va_iald hx hb hK hP 4 0 rfl rfl hi14 dX1_tell_70 ?_
    refine lv_topi (fun t15 et15 => ?_)
    rw [← hQ9]
    have hq16 : t15 = zAb (fa0 0) (fa0 1) (fa0 2) (fa0 3) (fa0 4) (fa0 5) (fa0 6) (fa0 7) p1 p2 := by unfold zAb; (repeat' split) <;> first | (exfalso; omega) | assumption
    exact W.iret (v := t15) hx hb hr (fun t ht hW => ⟨⟨t15, (), rfl, hq16, ⟨by rw [ht]; exact hP, hD⟩⟩, hS.F ht⟩) hS.2.2 dX1_tell_71
  by_cases c17 : p2.toInt = 4
  ·
    refine lv_tableIn (tgt := 72) hx hb dX1_tell_1 (by omega) (by omega) (by rw [c17]; rfl) (by decide) ?_
    refine lv_aload_n hx hb dX1_tell_72 rfl (lv_at hl 0 rfl) ?_
    refine va_get (D := D) (ci := 1) (v := .ref (r0 5)) (C := RX1) (T := TX1) (N := 12) hx hb hts inX1 hown hK hP 0 rfl rfl 5 (by decide) lk28 (fun _ h9 => h9) rfl dX1_tell_73 ?_
    refine lv_iload_n hx hb dX1_tell_76 rfl (lv_at hl 1 rfl) ?_
    have hi18 : vp_in p1 60 := z_in (i := p1.toInt) rfl (by omega) (by omega)
    refine va_iald hx hb hK hP 5 0 rfl rfl hi18 dX1_tell_77 ?_
    refine lv_topi (fun t19 et19 => ?_)
    rw [← hQ9]
    have hq20 : t19 = zAb (fa0 0) (fa0 1) (fa0 2) (fa0 3) (fa0 4) (fa0 5) (fa0 6) (fa0 7) p1 p2 := by unfold zAb; (repeat' split) <;> first | (exfalso; omega) | assumption
    exact W.iret (v := t19) hx hb hr (fun t ht hW => ⟨⟨t19, (), rfl, hq20, ⟨by rw [ht]; exact hP, hD⟩⟩, hS.F ht⟩) hS.2.2 dX1_tell_78
  by_cases c21 : p2.toInt = 5
  ·
    refine lv_tableIn (tgt := 79) hx hb dX1_tell_1 (by omega) (by omega) (by rw [c21]; rfl) (by decide) ?_
    refine lv_aload_n hx hb dX1_tell_79 rfl (lv_at hl 0 rfl) ?_
    refine va_get (D := D) (ci := 1) (v := .ref (r0 6)) (C := RX1) (T := TX1) (N := 12) hx hb hts inX1 hown hK hP 0 rfl rfl 6 (by decide) lk31 (fun _ h9 => h9) rfl dX1_tell_80 ?_
    refine lv_iload_n hx hb dX1_tell_83 rfl (lv_at hl 1 rfl) ?_
    have hi22 : vp_in p1 60 := z_in (i := p1.toInt) rfl (by omega) (by omega)
    refine va_iald hx hb hK hP 6 0 rfl rfl hi22 dX1_tell_84 ?_
    refine lv_topi (fun t23 et23 => ?_)
    rw [← hQ9]
    have hq24 : t23 = zAb (fa0 0) (fa0 1) (fa0 2) (fa0 3) (fa0 4) (fa0 5) (fa0 6) (fa0 7) p1 p2 := by unfold zAb; (repeat' split) <;> first | (exfalso; omega) | assumption
    exact W.iret (v := t23) hx hb hr (fun t ht hW => ⟨⟨t23, (), rfl, hq24, ⟨by rw [ht]; exact hP, hD⟩⟩, hS.F ht⟩) hS.2.2 dX1_tell_85
  by_cases c25 : p2.toInt = 6
  ·
    refine lv_tableIn (tgt := 86) hx hb dX1_tell_1 (by omega) (by omega) (by rw [c25]; rfl) (by decide) ?_
    refine lv_aload_n hx hb dX1_tell_86 rfl (lv_at hl 0 rfl) ?_
    refine va_get (D := D) (ci := 1) (v := .ref (r0 7)) (C := RX1) (T := TX1) (N := 12) hx hb hts inX1 hown hK hP 0 rfl rfl 7 (by decide) lk34 (fun _ h9 => h9) rfl dX1_tell_87 ?_
    refine lv_iload_n hx hb dX1_tell_90 rfl (lv_at hl 1 rfl) ?_
    have hi26 : vp_in p1 60 := z_in (i := p1.toInt) rfl (by omega) (by omega)
    refine va_iald hx hb hK hP 7 0 rfl rfl hi26 dX1_tell_91 ?_
    refine lv_topi (fun t27 et27 => ?_)
    have ht27 := z_at hv0a6 et27
    rw [← hQ9]
    have hq28 : t27 = zAb (fa0 0) (fa0 1) (fa0 2) (fa0 3) (fa0 4) (fa0 5) (fa0 6) (fa0 7) p1 p2 := by unfold zAb; (repeat' split) <;> first | (exfalso; omega) | assumption
    exact W.iret (v := t27) hx hb hr (fun t ht hW => ⟨⟨t27, (), rfl, hq28, ⟨by rw [ht]; exact hP, hD⟩⟩, hS.F ht⟩) hS.2.2 dX1_tell_92
  refine lv_tableOut (tgt := 93) hx hb dX1_tell_1 (by omega) (by decide) ?_
  refine lv_aload_n hx hb dX1_tell_93 rfl (lv_at hl 0 rfl) ?_
  refine lv_iload_n hx hb dX1_tell_94 rfl (lv_at hl 1 rfl) ?_
  refine lv_iload_n hx hb dX1_tell_95 rfl (lv_at hl 2 rfl) ?_
  have ho29 : (0 ≤ (fi0 0).toInt ∧ (fi0 0).toInt ≤ 60) ∧ z_rng 0 3 (fa0 6) := ⟨⟨by omega, by omega⟩, hv0a6⟩
  have hp30 : 0 ≤ p1.toInt ∧ p1.toInt ≤ 59 := by omega
  refine z_iV (As := [.int p1, .int p2]) (rest := []) hF (c_X1_hangAt_R l D ca sa A rest (zl 0 [(r0 0), (r0 1), (r0 2), (r0 3), (r0 4), (r0 5), (r0 6), (r0 7), (r0 8), (r0 9), (r0 10), (r0 11)]) (zl 0 [(fi0 0)]) (zl 0 [(fl0 0)]) (zl (fun _ => 0) [(fa0 0), (fa0 1), (fa0 2), (fa0 3), (fa0 4), (fa0 5), (fa0 6), (fa0 7)]) (zl (fun _ => 0) [(fb0 0), (fb0 1)]) ho29 p1 p2 hp30) (cwV 2 hts gX1_tell_X1_hangAt rfl rfl rfl (by decide +kernel) ⟨Nat.le_of_ble_eq_true rfl, Nat.le_of_ble_eq_true rfl⟩) hE hP hD hS 1 0 rfl rfl rfl hl.1 rfl (Nat.le_of_ble_eq_true rfl) dX1_tell_96 ⟨Nat.zero_le _, Nat.zero_le _⟩ (fun t32 u31 H locs hw33 hP hD hS => ?_)
  have hw33 : (t32 = zHa (fa0 6) (fa0 7) p1 p2) := hw33
  have hq34 := hw33
  clear hw33
  have hP : va_P D vwCl (((r0 0), .inr (1, [.int (fi0 0), .ref (r0 1), .ref (r0 2), .ref (r0 3), .ref (r0 4), .ref (r0 5), .ref (r0 6), .ref (r0 7), .ref (r0 8), .ref (r0 9), .long (fl0 0), .ref (r0 10)])) :: ((r0 1), .inl (ca 0, 60, .inl (fa0 0))) :: ((r0 2), .inl (ca 0, 60, .inl (fa0 1))) :: ((r0 3), .inl (ca 0, 60, .inl (fa0 2))) :: ((r0 4), .inl (ca 0, 60, .inl (fa0 3))) :: ((r0 5), .inl (ca 0, 60, .inl (fa0 4))) :: ((r0 6), .inl (ca 0, 60, .inl (fa0 5))) :: ((r0 7), .inl (ca 0, 60, .inl (fa0 6))) :: ((r0 8), .inl (ca 0, 180, .inl (fa0 7))) :: ((r0 9), .inl (ca 1, 60, .inr (.inl (fb0 0)))) :: ((r0 10), .inr (0, [.ref (r0 11)])) :: ((r0 11), .inl (ca 1, 400, .inr (.inl (fb0 1)))) :: rest) H := hP
  have hD : va_D A (((r0 0), .inr (1, [.int (fi0 0), .ref (r0 1), .ref (r0 2), .ref (r0 3), .ref (r0 4), .ref (r0 5), .ref (r0 6), .ref (r0 7), .ref (r0 8), .ref (r0 9), .long (fl0 0), .ref (r0 10)])) :: ((r0 1), .inl (ca 0, 60, .inl (fa0 0))) :: ((r0 2), .inl (ca 0, 60, .inl (fa0 1))) :: ((r0 3), .inl (ca 0, 60, .inl (fa0 2))) :: ((r0 4), .inl (ca 0, 60, .inl (fa0 3))) :: ((r0 5), .inl (ca 0, 60, .inl (fa0 4))) :: ((r0 6), .inl (ca 0, 60, .inl (fa0 5))) :: ((r0 7), .inl (ca 0, 60, .inl (fa0 6))) :: ((r0 8), .inl (ca 0, 180, .inl (fa0 7))) :: ((r0 9), .inl (ca 1, 60, .inr (.inl (fb0 0)))) :: ((r0 10), .inr (0, [.ref (r0 11)])) :: ((r0 11), .inl (ca 1, 400, .inr (.inl (fb0 1)))) :: rest) := hD
  rw [← hQ9]
  have hq35 : t32 = zAb (fa0 0) (fa0 1) (fa0 2) (fa0 3) (fa0 4) (fa0 5) (fa0 6) (fa0 7) p1 p2 := by unfold zAb; (repeat' split) <;> first | (exfalso; omega) | assumption
  exact W.iret (v := t32) hx hb hr (fun t ht hW => ⟨⟨t32, (), rfl, hq35, ⟨by rw [ht]; exact hP, hD⟩⟩, hS.F ht⟩) hS.2.2 dX1_tell_99

set_option maxHeartbeats 8000000 in
set_option maxRecDepth 100000 in
theorem c_X8_about_R (l : Launch) (D : va_G) (ca : Nat → ClassId) (sa : Nat → Nat) (A : Nat → Prop) (rest : va_W) (r0 : Nat → Nat) (r1 : Nat → Nat) (y0 : Nat) (y1 : Nat) (y2 : Nat) (y4 : Nat) (y5 : Nat) (y6 : Nat) (y7 : Nat) (fi0 : Nat → Int32) (fl0 : Nat → Int64) (fa0 : Nat → Nat → Int32) (fb0 : Nat → Nat → Int64) (hv0 : Ok_BP fi0 fa0) (fi1 : Nat → Int32) (fl1 : Nat → Int64) (fa1 : Nat → Nat → Int32) (fb1 : Nat → Nat → Int64) (hv1 : Ok_CHG fi1 fa1) (p1 : Int32) (p2 : Int32) : Met l yX8_about wsX8_about ({ frames := 2, cells := 0, slots := 0, locals := 44 }) (va_Pc [.ref (r0 0), .int p1, .int p2] (zPre D ca sa A (w_BP ca r0 y0 y1 y2 (r1 0) y4 y5 y6 y7 fi0 fl0 fa0 fb0 (w_CHG ca r1 fi1 fl1 fa1 fb1 (rest))))) (va_Qi (fun (r : Int32) (u : Unit) => ((0 ≤ p1.toInt ∧ p1.toInt < ((fi1 0)).toInt ∧ r = zAb (fa1 0) (fa1 1) (fa1 2) (fa1 3) (fa1 4) (fa1 5) (fa1 6) (fa1 7) p1 p2) ∨ ((p1.toInt < 0 ∨ ((fi1 0)).toInt ≤ p1.toInt) ∧ (r).toInt = -9))) (fun u t => zPost D A (w_BP ca r0 y0 y1 y2 (r1 0) y4 y5 y6 y7 fi0 fl0 fa0 fb0 (w_CHG ca r1 fi1 fl1 fa1 fb1 (rest))) t) A) 0 0 A := by
  refine Met.ofW (cc := cX8_about) (maxL := 3) (ret := (some .int)) (by decide) rfl ?_
  intro p e s m args below meth c s₁ B hml hv9
  obtain ⟨rfl, hE, hP, hD⟩ := hv9
  have hx := B.exec
  have hb := B.bytes
  have hr := B.returns
  have hts := atoms_spec (ws := wsX8_about) B.pre
  have hown : s.vm.findClass RX8 = some m.cls := findClass_of_methodNamed B.named
  have hlocks := B.notSynchronized
  have hK := hE.1
  have hF : CallFix p m c cX8_about 3 s _ wsX8_about RX8 := ⟨hx, hb, hml, hown, hts⟩
  have hS : va_S A s.heap s.heap [] := va_S.rf
  have lk39 := hts (.fieldLink RX8 39 "BranchPlay" "changes" "LBranchPlay$Changes;") (by decide +kernel)
  have inX8 : ∀ w ∈ wsX80, w ∈ wsX8_about := by decide +kernel
  obtain ⟨⟨hv1i0, hv1j0⟩, hv1a6⟩ := hv1
  generalize hHe : s.heap = H at hP
  have hS : va_S A s.heap H [] := by rw [← hHe]; exact hS
  have hP : va_P D vwCl (((r0 0), .inr (8, [.ref y0, .ref y1, .ref y2, .ref (r1 0), .ref y4, .ref y5, .ref y6, .ref y7, .int (fi0 0)])) :: ((r1 0), .inr (1, [.int (fi1 0), .ref (r1 1), .ref (r1 2), .ref (r1 3), .ref (r1 4), .ref (r1 5), .ref (r1 6), .ref (r1 7), .ref (r1 8), .ref (r1 9), .long (fl1 0), .ref (r1 10)])) :: ((r1 1), .inl (ca 0, 60, .inl (fa1 0))) :: ((r1 2), .inl (ca 0, 60, .inl (fa1 1))) :: ((r1 3), .inl (ca 0, 60, .inl (fa1 2))) :: ((r1 4), .inl (ca 0, 60, .inl (fa1 3))) :: ((r1 5), .inl (ca 0, 60, .inl (fa1 4))) :: ((r1 6), .inl (ca 0, 60, .inl (fa1 5))) :: ((r1 7), .inl (ca 0, 60, .inl (fa1 6))) :: ((r1 8), .inl (ca 0, 180, .inl (fa1 7))) :: ((r1 9), .inl (ca 1, 60, .inr (.inl (fb1 0)))) :: ((r1 10), .inr (0, [.ref (r1 11)])) :: ((r1 11), .inl (ca 1, 400, .inr (.inl (fb1 1)))) :: rest) H := hP
  have hD : va_D A (((r0 0), .inr (8, [.ref y0, .ref y1, .ref y2, .ref (r1 0), .ref y4, .ref y5, .ref y6, .ref y7, .int (fi0 0)])) :: ((r1 0), .inr (1, [.int (fi1 0), .ref (r1 1), .ref (r1 2), .ref (r1 3), .ref (r1 4), .ref (r1 5), .ref (r1 6), .ref (r1 7), .ref (r1 8), .ref (r1 9), .long (fl1 0), .ref (r1 10)])) :: ((r1 1), .inl (ca 0, 60, .inl (fa1 0))) :: ((r1 2), .inl (ca 0, 60, .inl (fa1 1))) :: ((r1 3), .inl (ca 0, 60, .inl (fa1 2))) :: ((r1 4), .inl (ca 0, 60, .inl (fa1 3))) :: ((r1 5), .inl (ca 0, 60, .inl (fa1 4))) :: ((r1 6), .inl (ca 0, 60, .inl (fa1 5))) :: ((r1 7), .inl (ca 0, 60, .inl (fa1 6))) :: ((r1 8), .inl (ca 0, 180, .inl (fa1 7))) :: ((r1 9), .inl (ca 1, 60, .inr (.inl (fb1 0)))) :: ((r1 10), .inr (0, [.ref (r1 11)])) :: ((r1 11), .inl (ca 1, 400, .inr (.inl (fb1 1)))) :: rest) := hD
  have hl := lv_entry ([.ref (r0 0), .int p1, .int p2]) (n := 3) (Nat.le_of_ble_eq_true rfl)
  rw [lg_entry_eq]
  generalize (lg_sl ([.ref (r0 0), .int p1, .int p2]) ++ List.replicate (3 - (lg_sl ([.ref (r0 0), .int p1, .int p2])).length) Slot.unset).toArray = ls at hl ⊢
  have hl : lv_has ls 3 [(0, .ref (r0 0)), (1, .int p1), (2, .int p2)] := hl
  generalize hQ9 : MQ below _ _ s 0 0 A = Q9
  refine lv_aload_n hx hb dX8_about_0 rfl (lv_at hl 0 rfl) ?_
  refine va_get (D := D) (ci := 8) (v := .ref (r1 0)) (C := RX8) (T := TX8) (N := 9) hx hb hts inX8 hown hK hP 0 rfl rfl 3 (by decide) lk39 (fun _ h9 => h9) rfl dX8_about_1 ?_
  refine lv_iload_n hx hb dX8_about_4 rfl (lv_at hl 1 rfl) ?_
  have ho1 : (0 ≤ (fi1 0).toInt ∧ (fi1 0).toInt ≤ 60) ∧ z_rng 0 3 (fa1 6) := ⟨⟨by omega, by omega⟩, hv1a6⟩
  have hP9 := va_P.part (pl := rest) (X := [((r0 0), .inr (8, [.ref y0, .ref y1, .ref y2, .ref (r1 0), .ref y4, .ref y5, .ref y6, .ref y7, .int (fi0 0)])), ((r1 0), .inr (1, [.int (fi1 0), .ref (r1 1), .ref (r1 2), .ref (r1 3), .ref (r1 4), .ref (r1 5), .ref (r1 6), .ref (r1 7), .ref (r1 8), .ref (r1 9), .long (fl1 0), .ref (r1 10)])), ((r1 1), .inl (ca 0, 60, .inl (fa1 0))), ((r1 2), .inl (ca 0, 60, .inl (fa1 1))), ((r1 3), .inl (ca 0, 60, .inl (fa1 2))), ((r1 4), .inl (ca 0, 60, .inl (fa1 3))), ((r1 5), .inl (ca 0, 60, .inl (fa1 4))), ((r1 6), .inl (ca 0, 60, .inl (fa1 5))), ((r1 7), .inl (ca 0, 60, .inl (fa1 6))), ((r1 8), .inl (ca 0, 180, .inl (fa1 7))), ((r1 9), .inl (ca 1, 60, .inr (.inl (fb1 0)))), ((r1 10), .inr (0, [.ref (r1 11)])), ((r1 11), .inl (ca 1, 400, .inr (.inl (fb1 1))))]) (cx := [((r1 0), .inr (1, [.int (fi1 0), .ref (r1 1), .ref (r1 2), .ref (r1 3), .ref (r1 4), .ref (r1 5), .ref (r1 6), .ref (r1 7), .ref (r1 8), .ref (r1 9), .long (fl1 0), .ref (r1 10)])), ((r1 1), .inl (ca 0, 60, .inl (fa1 0))), ((r1 2), .inl (ca 0, 60, .inl (fa1 1))), ((r1 3), .inl (ca 0, 60, .inl (fa1 2))), ((r1 4), .inl (ca 0, 60, .inl (fa1 3))), ((r1 5), .inl (ca 0, 60, .inl (fa1 4))), ((r1 6), .inl (ca 0, 60, .inl (fa1 5))), ((r1 7), .inl (ca 0, 60, .inl (fa1 6))), ((r1 8), .inl (ca 0, 180, .inl (fa1 7))), ((r1 9), .inl (ca 1, 60, .inr (.inl (fb1 0)))), ((r1 10), .inr (0, [.ref (r1 11)])), ((r1 11), .inl (ca 1, 400, .inr (.inl (fb1 1)))), ((r0 0), .inr (8, [.ref y0, .ref y1, .ref y2, .ref (r1 0), .ref y4, .ref y5, .ref y6, .ref y7, .int (fi0 0)]))]) hP [1, 2, 3, 4, 5, 6, 7, 8, 9, 10, 11, 12, 0] rfl
  have hD9 := va_D.part (pl := rest) (X := [((r0 0), .inr (8, [.ref y0, .ref y1, .ref y2, .ref (r1 0), .ref y4, .ref y5, .ref y6, .ref y7, .int (fi0 0)])), ((r1 0), .inr (1, [.int (fi1 0), .ref (r1 1), .ref (r1 2), .ref (r1 3), .ref (r1 4), .ref (r1 5), .ref (r1 6), .ref (r1 7), .ref (r1 8), .ref (r1 9), .long (fl1 0), .ref (r1 10)])), ((r1 1), .inl (ca 0, 60, .inl (fa1 0))), ((r1 2), .inl (ca 0, 60, .inl (fa1 1))), ((r1 3), .inl (ca 0, 60, .inl (fa1 2))), ((r1 4), .inl (ca 0, 60, .inl (fa1 3))), ((r1 5), .inl (ca 0, 60, .inl (fa1 4))), ((r1 6), .inl (ca 0, 60, .inl (fa1 5))), ((r1 7), .inl (ca 0, 60, .inl (fa1 6))), ((r1 8), .inl (ca 0, 180, .inl (fa1 7))), ((r1 9), .inl (ca 1, 60, .inr (.inl (fb1 0)))), ((r1 10), .inr (0, [.ref (r1 11)])), ((r1 11), .inl (ca 1, 400, .inr (.inl (fb1 1))))]) (cx := [((r1 0), .inr (1, [.int (fi1 0), .ref (r1 1), .ref (r1 2), .ref (r1 3), .ref (r1 4), .ref (r1 5), .ref (r1 6), .ref (r1 7), .ref (r1 8), .ref (r1 9), .long (fl1 0), .ref (r1 10)])), ((r1 1), .inl (ca 0, 60, .inl (fa1 0))), ((r1 2), .inl (ca 0, 60, .inl (fa1 1))), ((r1 3), .inl (ca 0, 60, .inl (fa1 2))), ((r1 4), .inl (ca 0, 60, .inl (fa1 3))), ((r1 5), .inl (ca 0, 60, .inl (fa1 4))), ((r1 6), .inl (ca 0, 60, .inl (fa1 5))), ((r1 7), .inl (ca 0, 60, .inl (fa1 6))), ((r1 8), .inl (ca 0, 180, .inl (fa1 7))), ((r1 9), .inl (ca 1, 60, .inr (.inl (fb1 0)))), ((r1 10), .inr (0, [.ref (r1 11)])), ((r1 11), .inl (ca 1, 400, .inr (.inl (fb1 1)))), ((r0 0), .inr (8, [.ref y0, .ref y1, .ref y2, .ref (r1 0), .ref y4, .ref y5, .ref y6, .ref y7, .int (fi0 0)]))]) hD [1, 2, 3, 4, 5, 6, 7, 8, 9, 10, 11, 12, 0] (by decide) rfl
  refine z_iV (As := [.int p1]) (rest := []) hF (c_X1_isNumber l D ca sa A (((r0 0), .inr (8, [.ref y0, .ref y1, .ref y2, .ref (r1 0), .ref y4, .ref y5, .ref y6, .ref y7, .int (fi0 0)])) :: rest) (zl 0 [(r1 0), (r1 1), (r1 2), (r1 3), (r1 4), (r1 5), (r1 6), (r1 7), (r1 8), (r1 9), (r1 10), (r1 11)]) (zl 0 [(fi1 0)]) (zl 0 [(fl1 0)]) (zl (fun _ => 0) [(fa1 0), (fa1 1), (fa1 2), (fa1 3), (fa1 4), (fa1 5), (fa1 6), (fa1 7)]) (zl (fun _ => 0) [(fb1 0), (fb1 1)]) ho1 p1) (cwV 1 hts gX8_about_X1_isNumber rfl rfl rfl (by decide +kernel) ⟨Nat.le_of_ble_eq_true rfl, Nat.le_of_ble_eq_true rfl⟩) hE hP9 hD9 hS 1 0 rfl rfl rfl hl.1 rfl (Nat.le_of_ble_eq_true rfl) dX8_about_5 ⟨Nat.zero_le _, Nat.zero_le _⟩ (fun t3 u2 H locs hw4 hP hD hS => ?_)
  have hw4 : ((t3.toInt = 1 ∧ 0 ≤ p1.toInt ∧ p1.toInt < (fi1 0).toInt) ∨ (t3.toInt = 0 ∧ (p1.toInt < 0 ∨ (fi1 0).toInt ≤ p1.toInt))) := hw4
  have hq5 := hw4
  clear hw4
  have hP := va_P.part (pl := rest) (X := [((r1 0), .inr (1, [.int (fi1 0), .ref (r1 1), .ref (r1 2), .ref (r1 3), .ref (r1 4), .ref (r1 5), .ref (r1 6), .ref (r1 7), .ref (r1 8), .ref (r1 9), .long (fl1 0), .ref (r1 10)])), ((r1 1), .inl (ca 0, 60, .inl (fa1 0))), ((r1 2), .inl (ca 0, 60, .inl (fa1 1))), ((r1 3), .inl (ca 0, 60, .inl (fa1 2))), ((r1 4), .inl (ca 0, 60, .inl (fa1 3))), ((r1 5), .inl (ca 0, 60, .inl (fa1 4))), ((r1 6), .inl (ca 0, 60, .inl (fa1 5))), ((r1 7), .inl (ca 0, 60, .inl (fa1 6))), ((r1 8), .inl (ca 0, 180, .inl (fa1 7))), ((r1 9), .inl (ca 1, 60, .inr (.inl (fb1 0)))), ((r1 10), .inr (0, [.ref (r1 11)])), ((r1 11), .inl (ca 1, 400, .inr (.inl (fb1 1)))), ((r0 0), .inr (8, [.ref y0, .ref y1, .ref y2, .ref (r1 0), .ref y4, .ref y5, .ref y6, .ref y7, .int (fi0 0)]))]) (cx := [((r0 0), .inr (8, [.ref y0, .ref y1, .ref y2, .ref (r1 0), .ref y4, .ref y5, .ref y6, .ref y7, .int (fi0 0)])), ((r1 0), .inr (1, [.int (fi1 0), .ref (r1 1), .ref (r1 2), .ref (r1 3), .ref (r1 4), .ref (r1 5), .ref (r1 6), .ref (r1 7), .ref (r1 8), .ref (r1 9), .long (fl1 0), .ref (r1 10)])), ((r1 1), .inl (ca 0, 60, .inl (fa1 0))), ((r1 2), .inl (ca 0, 60, .inl (fa1 1))), ((r1 3), .inl (ca 0, 60, .inl (fa1 2))), ((r1 4), .inl (ca 0, 60, .inl (fa1 3))), ((r1 5), .inl (ca 0, 60, .inl (fa1 4))), ((r1 6), .inl (ca 0, 60, .inl (fa1 5))), ((r1 7), .inl (ca 0, 60, .inl (fa1 6))), ((r1 8), .inl (ca 0, 180, .inl (fa1 7))), ((r1 9), .inl (ca 1, 60, .inr (.inl (fb1 0)))), ((r1 10), .inr (0, [.ref (r1 11)])), ((r1 11), .inl (ca 1, 400, .inr (.inl (fb1 1))))]) hP [12, 0, 1, 2, 3, 4, 5, 6, 7, 8, 9, 10, 11] rfl
  have hD := va_D.part (pl := rest) (X := [((r1 0), .inr (1, [.int (fi1 0), .ref (r1 1), .ref (r1 2), .ref (r1 3), .ref (r1 4), .ref (r1 5), .ref (r1 6), .ref (r1 7), .ref (r1 8), .ref (r1 9), .long (fl1 0), .ref (r1 10)])), ((r1 1), .inl (ca 0, 60, .inl (fa1 0))), ((r1 2), .inl (ca 0, 60, .inl (fa1 1))), ((r1 3), .inl (ca 0, 60, .inl (fa1 2))), ((r1 4), .inl (ca 0, 60, .inl (fa1 3))), ((r1 5), .inl (ca 0, 60, .inl (fa1 4))), ((r1 6), .inl (ca 0, 60, .inl (fa1 5))), ((r1 7), .inl (ca 0, 60, .inl (fa1 6))), ((r1 8), .inl (ca 0, 180, .inl (fa1 7))), ((r1 9), .inl (ca 1, 60, .inr (.inl (fb1 0)))), ((r1 10), .inr (0, [.ref (r1 11)])), ((r1 11), .inl (ca 1, 400, .inr (.inl (fb1 1)))), ((r0 0), .inr (8, [.ref y0, .ref y1, .ref y2, .ref (r1 0), .ref y4, .ref y5, .ref y6, .ref y7, .int (fi0 0)]))]) (cx := [((r0 0), .inr (8, [.ref y0, .ref y1, .ref y2, .ref (r1 0), .ref y4, .ref y5, .ref y6, .ref y7, .int (fi0 0)])), ((r1 0), .inr (1, [.int (fi1 0), .ref (r1 1), .ref (r1 2), .ref (r1 3), .ref (r1 4), .ref (r1 5), .ref (r1 6), .ref (r1 7), .ref (r1 8), .ref (r1 9), .long (fl1 0), .ref (r1 10)])), ((r1 1), .inl (ca 0, 60, .inl (fa1 0))), ((r1 2), .inl (ca 0, 60, .inl (fa1 1))), ((r1 3), .inl (ca 0, 60, .inl (fa1 2))), ((r1 4), .inl (ca 0, 60, .inl (fa1 3))), ((r1 5), .inl (ca 0, 60, .inl (fa1 4))), ((r1 6), .inl (ca 0, 60, .inl (fa1 5))), ((r1 7), .inl (ca 0, 60, .inl (fa1 6))), ((r1 8), .inl (ca 0, 180, .inl (fa1 7))), ((r1 9), .inl (ca 1, 60, .inr (.inl (fb1 0)))), ((r1 10), .inr (0, [.ref (r1 11)])), ((r1 11), .inl (ca 1, 400, .inr (.inl (fb1 1))))]) hD [12, 0, 1, 2, 3, 4, 5, 6, 7, 8, 9, 10, 11] (by decide) rfl
  have hP : va_P D vwCl (((r0 0), .inr (8, [.ref y0, .ref y1, .ref y2, .ref (r1 0), .ref y4, .ref y5, .ref y6, .ref y7, .int (fi0 0)])) :: ((r1 0), .inr (1, [.int (fi1 0), .ref (r1 1), .ref (r1 2), .ref (r1 3), .ref (r1 4), .ref (r1 5), .ref (r1 6), .ref (r1 7), .ref (r1 8), .ref (r1 9), .long (fl1 0), .ref (r1 10)])) :: ((r1 1), .inl (ca 0, 60, .inl (fa1 0))) :: ((r1 2), .inl (ca 0, 60, .inl (fa1 1))) :: ((r1 3), .inl (ca 0, 60, .inl (fa1 2))) :: ((r1 4), .inl (ca 0, 60, .inl (fa1 3))) :: ((r1 5), .inl (ca 0, 60, .inl (fa1 4))) :: ((r1 6), .inl (ca 0, 60, .inl (fa1 5))) :: ((r1 7), .inl (ca 0, 60, .inl (fa1 6))) :: ((r1 8), .inl (ca 0, 180, .inl (fa1 7))) :: ((r1 9), .inl (ca 1, 60, .inr (.inl (fb1 0)))) :: ((r1 10), .inr (0, [.ref (r1 11)])) :: ((r1 11), .inl (ca 1, 400, .inr (.inl (fb1 1)))) :: rest) H := hP
  have hD : va_D A (((r0 0), .inr (8, [.ref y0, .ref y1, .ref y2, .ref (r1 0), .ref y4, .ref y5, .ref y6, .ref y7, .int (fi0 0)])) :: ((r1 0), .inr (1, [.int (fi1 0), .ref (r1 1), .ref (r1 2), .ref (r1 3), .ref (r1 4), .ref (r1 5), .ref (r1 6), .ref (r1 7), .ref (r1 8), .ref (r1 9), .long (fl1 0), .ref (r1 10)])) :: ((r1 1), .inl (ca 0, 60, .inl (fa1 0))) :: ((r1 2), .inl (ca 0, 60, .inl (fa1 1))) :: ((r1 3), .inl (ca 0, 60, .inl (fa1 2))) :: ((r1 4), .inl (ca 0, 60, .inl (fa1 3))) :: ((r1 5), .inl (ca 0, 60, .inl (fa1 4))) :: ((r1 6), .inl (ca 0, 60, .inl (fa1 5))) :: ((r1 7), .inl (ca 0, 60, .inl (fa1 6))) :: ((r1 8), .inl (ca 0, 180, .inl (fa1 7))) :: ((r1 9), .inl (ca 1, 60, .inr (.inl (fb1 0)))) :: ((r1 10), .inr (0, [.ref (r1 11)])) :: ((r1 11), .inl (ca 1, 400, .inr (.inl (fb1 1)))) :: rest) := hD
  refine lv_if_eq (tgt := 23) hx hb dX8_about_8 (by decide) (fun c6 => ?_) (fun c6 => ?_)
  ·
    have c6 := z_eq (i := t3.toInt) (j := 0) rfl (by decide) c6
    refine lv_bipush (v := (-9)) hx hb dX8_about_23 (by decide) ?_
    rw [← hQ9]
    refine lv_topi (fun t7 et7 => ?_)
    have ht7 : t7.toInt = (-9) := by rw [et7]; decide
    have hq8 : (0 ≤ p1.toInt ∧ p1.toInt < ((fi1 0)).toInt ∧ t7 = zAb (fa1 0) (fa1 1) (fa1 2) (fa1 3) (fa1 4) (fa1 5) (fa1 6) (fa1 7) p1 p2) ∨ ((p1.toInt < 0 ∨ ((fi1 0)).toInt ≤ p1.toInt) ∧ (t7).toInt = -9) := Or.inr ⟨by omega, by omega⟩
    exact W.iret (v := t7) hx hb hr (fun t ht hW => ⟨⟨t7, (), rfl, hq8, ⟨by rw [ht]; exact hP, hD⟩⟩, hS.F ht⟩) hS.2.2 dX8_about_25
  ·
    have c6 := z_ne (i := t3.toInt) (j := 0) rfl (by decide) c6
    refine lv_aload_n hx hb dX8_about_11 rfl (lv_at hl 0 rfl) ?_
    refine va_get (D := D) (ci := 8) (v := .ref (r1 0)) (C := RX8) (T := TX8) (N := 9) hx hb hts inX8 hown hK hP 0 rfl rfl 3 (by decide) lk39 (fun _ h9 => h9) rfl dX8_about_12 ?_
    refine lv_iload_n hx hb dX8_about_15 rfl (lv_at hl 1 rfl) ?_
    refine lv_iload_n hx hb dX8_about_16 rfl (lv_at hl 2 rfl) ?_
    have ho9 : (0 ≤ (fi1 0).toInt ∧ (fi1 0).toInt ≤ 60) ∧ z_rng 0 3 (fa1 6) := ⟨⟨by omega, by omega⟩, hv1a6⟩
    have hp10 : 0 ≤ p1.toInt ∧ p1.toInt ≤ 59 := by omega
    have hP9 := va_P.part (pl := rest) (X := [((r0 0), .inr (8, [.ref y0, .ref y1, .ref y2, .ref (r1 0), .ref y4, .ref y5, .ref y6, .ref y7, .int (fi0 0)])), ((r1 0), .inr (1, [.int (fi1 0), .ref (r1 1), .ref (r1 2), .ref (r1 3), .ref (r1 4), .ref (r1 5), .ref (r1 6), .ref (r1 7), .ref (r1 8), .ref (r1 9), .long (fl1 0), .ref (r1 10)])), ((r1 1), .inl (ca 0, 60, .inl (fa1 0))), ((r1 2), .inl (ca 0, 60, .inl (fa1 1))), ((r1 3), .inl (ca 0, 60, .inl (fa1 2))), ((r1 4), .inl (ca 0, 60, .inl (fa1 3))), ((r1 5), .inl (ca 0, 60, .inl (fa1 4))), ((r1 6), .inl (ca 0, 60, .inl (fa1 5))), ((r1 7), .inl (ca 0, 60, .inl (fa1 6))), ((r1 8), .inl (ca 0, 180, .inl (fa1 7))), ((r1 9), .inl (ca 1, 60, .inr (.inl (fb1 0)))), ((r1 10), .inr (0, [.ref (r1 11)])), ((r1 11), .inl (ca 1, 400, .inr (.inl (fb1 1))))]) (cx := [((r1 0), .inr (1, [.int (fi1 0), .ref (r1 1), .ref (r1 2), .ref (r1 3), .ref (r1 4), .ref (r1 5), .ref (r1 6), .ref (r1 7), .ref (r1 8), .ref (r1 9), .long (fl1 0), .ref (r1 10)])), ((r1 1), .inl (ca 0, 60, .inl (fa1 0))), ((r1 2), .inl (ca 0, 60, .inl (fa1 1))), ((r1 3), .inl (ca 0, 60, .inl (fa1 2))), ((r1 4), .inl (ca 0, 60, .inl (fa1 3))), ((r1 5), .inl (ca 0, 60, .inl (fa1 4))), ((r1 6), .inl (ca 0, 60, .inl (fa1 5))), ((r1 7), .inl (ca 0, 60, .inl (fa1 6))), ((r1 8), .inl (ca 0, 180, .inl (fa1 7))), ((r1 9), .inl (ca 1, 60, .inr (.inl (fb1 0)))), ((r1 10), .inr (0, [.ref (r1 11)])), ((r1 11), .inl (ca 1, 400, .inr (.inl (fb1 1)))), ((r0 0), .inr (8, [.ref y0, .ref y1, .ref y2, .ref (r1 0), .ref y4, .ref y5, .ref y6, .ref y7, .int (fi0 0)]))]) hP [1, 2, 3, 4, 5, 6, 7, 8, 9, 10, 11, 12, 0] rfl
    have hD9 := va_D.part (pl := rest) (X := [((r0 0), .inr (8, [.ref y0, .ref y1, .ref y2, .ref (r1 0), .ref y4, .ref y5, .ref y6, .ref y7, .int (fi0 0)])), ((r1 0), .inr (1, [.int (fi1 0), .ref (r1 1), .ref (r1 2), .ref (r1 3), .ref (r1 4), .ref (r1 5), .ref (r1 6), .ref (r1 7), .ref (r1 8), .ref (r1 9), .long (fl1 0), .ref (r1 10)])), ((r1 1), .inl (ca 0, 60, .inl (fa1 0))), ((r1 2), .inl (ca 0, 60, .inl (fa1 1))), ((r1 3), .inl (ca 0, 60, .inl (fa1 2))), ((r1 4), .inl (ca 0, 60, .inl (fa1 3))), ((r1 5), .inl (ca 0, 60, .inl (fa1 4))), ((r1 6), .inl (ca 0, 60, .inl (fa1 5))), ((r1 7), .inl (ca 0, 60, .inl (fa1 6))), ((r1 8), .inl (ca 0, 180, .inl (fa1 7))), ((r1 9), .inl (ca 1, 60, .inr (.inl (fb1 0)))), ((r1 10), .inr (0, [.ref (r1 11)])), ((r1 11), .inl (ca 1, 400, .inr (.inl (fb1 1))))]) (cx := [((r1 0), .inr (1, [.int (fi1 0), .ref (r1 1), .ref (r1 2), .ref (r1 3), .ref (r1 4), .ref (r1 5), .ref (r1 6), .ref (r1 7), .ref (r1 8), .ref (r1 9), .long (fl1 0), .ref (r1 10)])), ((r1 1), .inl (ca 0, 60, .inl (fa1 0))), ((r1 2), .inl (ca 0, 60, .inl (fa1 1))), ((r1 3), .inl (ca 0, 60, .inl (fa1 2))), ((r1 4), .inl (ca 0, 60, .inl (fa1 3))), ((r1 5), .inl (ca 0, 60, .inl (fa1 4))), ((r1 6), .inl (ca 0, 60, .inl (fa1 5))), ((r1 7), .inl (ca 0, 60, .inl (fa1 6))), ((r1 8), .inl (ca 0, 180, .inl (fa1 7))), ((r1 9), .inl (ca 1, 60, .inr (.inl (fb1 0)))), ((r1 10), .inr (0, [.ref (r1 11)])), ((r1 11), .inl (ca 1, 400, .inr (.inl (fb1 1)))), ((r0 0), .inr (8, [.ref y0, .ref y1, .ref y2, .ref (r1 0), .ref y4, .ref y5, .ref y6, .ref y7, .int (fi0 0)]))]) hD [1, 2, 3, 4, 5, 6, 7, 8, 9, 10, 11, 12, 0] (by decide) rfl
    refine z_iV (As := [.int p1, .int p2]) (rest := []) hF (c_X1_tell_R l D ca sa A (((r0 0), .inr (8, [.ref y0, .ref y1, .ref y2, .ref (r1 0), .ref y4, .ref y5, .ref y6, .ref y7, .int (fi0 0)])) :: rest) (zl 0 [(r1 0), (r1 1), (r1 2), (r1 3), (r1 4), (r1 5), (r1 6), (r1 7), (r1 8), (r1 9), (r1 10), (r1 11)]) (zl 0 [(fi1 0)]) (zl 0 [(fl1 0)]) (zl (fun _ => 0) [(fa1 0), (fa1 1), (fa1 2), (fa1 3), (fa1 4), (fa1 5), (fa1 6), (fa1 7)]) (zl (fun _ => 0) [(fb1 0), (fb1 1)]) ho9 p1 p2 hp10) (cwV 2 hts gX8_about_X1_tell rfl rfl rfl (by decide +kernel) ⟨Nat.le_of_ble_eq_true rfl, Nat.le_of_ble_eq_true rfl⟩) hE hP9 hD9 hS 1 0 rfl rfl rfl hl.1 rfl (Nat.le_of_ble_eq_true rfl) dX8_about_17 ⟨Nat.zero_le _, Nat.zero_le _⟩ (fun t12 u11 H locs hw13 hP hD hS => ?_)
    have hw13 : (t12 = zAb (fa1 0) (fa1 1) (fa1 2) (fa1 3) (fa1 4) (fa1 5) (fa1 6) (fa1 7) p1 p2) := hw13
    have hq14 := hw13
    clear hw13
    have hP := va_P.part (pl := rest) (X := [((r1 0), .inr (1, [.int (fi1 0), .ref (r1 1), .ref (r1 2), .ref (r1 3), .ref (r1 4), .ref (r1 5), .ref (r1 6), .ref (r1 7), .ref (r1 8), .ref (r1 9), .long (fl1 0), .ref (r1 10)])), ((r1 1), .inl (ca 0, 60, .inl (fa1 0))), ((r1 2), .inl (ca 0, 60, .inl (fa1 1))), ((r1 3), .inl (ca 0, 60, .inl (fa1 2))), ((r1 4), .inl (ca 0, 60, .inl (fa1 3))), ((r1 5), .inl (ca 0, 60, .inl (fa1 4))), ((r1 6), .inl (ca 0, 60, .inl (fa1 5))), ((r1 7), .inl (ca 0, 60, .inl (fa1 6))), ((r1 8), .inl (ca 0, 180, .inl (fa1 7))), ((r1 9), .inl (ca 1, 60, .inr (.inl (fb1 0)))), ((r1 10), .inr (0, [.ref (r1 11)])), ((r1 11), .inl (ca 1, 400, .inr (.inl (fb1 1)))), ((r0 0), .inr (8, [.ref y0, .ref y1, .ref y2, .ref (r1 0), .ref y4, .ref y5, .ref y6, .ref y7, .int (fi0 0)]))]) (cx := [((r0 0), .inr (8, [.ref y0, .ref y1, .ref y2, .ref (r1 0), .ref y4, .ref y5, .ref y6, .ref y7, .int (fi0 0)])), ((r1 0), .inr (1, [.int (fi1 0), .ref (r1 1), .ref (r1 2), .ref (r1 3), .ref (r1 4), .ref (r1 5), .ref (r1 6), .ref (r1 7), .ref (r1 8), .ref (r1 9), .long (fl1 0), .ref (r1 10)])), ((r1 1), .inl (ca 0, 60, .inl (fa1 0))), ((r1 2), .inl (ca 0, 60, .inl (fa1 1))), ((r1 3), .inl (ca 0, 60, .inl (fa1 2))), ((r1 4), .inl (ca 0, 60, .inl (fa1 3))), ((r1 5), .inl (ca 0, 60, .inl (fa1 4))), ((r1 6), .inl (ca 0, 60, .inl (fa1 5))), ((r1 7), .inl (ca 0, 60, .inl (fa1 6))), ((r1 8), .inl (ca 0, 180, .inl (fa1 7))), ((r1 9), .inl (ca 1, 60, .inr (.inl (fb1 0)))), ((r1 10), .inr (0, [.ref (r1 11)])), ((r1 11), .inl (ca 1, 400, .inr (.inl (fb1 1))))]) hP [12, 0, 1, 2, 3, 4, 5, 6, 7, 8, 9, 10, 11] rfl
    have hD := va_D.part (pl := rest) (X := [((r1 0), .inr (1, [.int (fi1 0), .ref (r1 1), .ref (r1 2), .ref (r1 3), .ref (r1 4), .ref (r1 5), .ref (r1 6), .ref (r1 7), .ref (r1 8), .ref (r1 9), .long (fl1 0), .ref (r1 10)])), ((r1 1), .inl (ca 0, 60, .inl (fa1 0))), ((r1 2), .inl (ca 0, 60, .inl (fa1 1))), ((r1 3), .inl (ca 0, 60, .inl (fa1 2))), ((r1 4), .inl (ca 0, 60, .inl (fa1 3))), ((r1 5), .inl (ca 0, 60, .inl (fa1 4))), ((r1 6), .inl (ca 0, 60, .inl (fa1 5))), ((r1 7), .inl (ca 0, 60, .inl (fa1 6))), ((r1 8), .inl (ca 0, 180, .inl (fa1 7))), ((r1 9), .inl (ca 1, 60, .inr (.inl (fb1 0)))), ((r1 10), .inr (0, [.ref (r1 11)])), ((r1 11), .inl (ca 1, 400, .inr (.inl (fb1 1)))), ((r0 0), .inr (8, [.ref y0, .ref y1, .ref y2, .ref (r1 0), .ref y4, .ref y5, .ref y6, .ref y7, .int (fi0 0)]))]) (cx := [((r0 0), .inr (8, [.ref y0, .ref y1, .ref y2, .ref (r1 0), .ref y4, .ref y5, .ref y6, .ref y7, .int (fi0 0)])), ((r1 0), .inr (1, [.int (fi1 0), .ref (r1 1), .ref (r1 2), .ref (r1 3), .ref (r1 4), .ref (r1 5), .ref (r1 6), .ref (r1 7), .ref (r1 8), .ref (r1 9), .long (fl1 0), .ref (r1 10)])), ((r1 1), .inl (ca 0, 60, .inl (fa1 0))), ((r1 2), .inl (ca 0, 60, .inl (fa1 1))), ((r1 3), .inl (ca 0, 60, .inl (fa1 2))), ((r1 4), .inl (ca 0, 60, .inl (fa1 3))), ((r1 5), .inl (ca 0, 60, .inl (fa1 4))), ((r1 6), .inl (ca 0, 60, .inl (fa1 5))), ((r1 7), .inl (ca 0, 60, .inl (fa1 6))), ((r1 8), .inl (ca 0, 180, .inl (fa1 7))), ((r1 9), .inl (ca 1, 60, .inr (.inl (fb1 0)))), ((r1 10), .inr (0, [.ref (r1 11)])), ((r1 11), .inl (ca 1, 400, .inr (.inl (fb1 1))))]) hD [12, 0, 1, 2, 3, 4, 5, 6, 7, 8, 9, 10, 11] (by decide) rfl
    have hP : va_P D vwCl (((r0 0), .inr (8, [.ref y0, .ref y1, .ref y2, .ref (r1 0), .ref y4, .ref y5, .ref y6, .ref y7, .int (fi0 0)])) :: ((r1 0), .inr (1, [.int (fi1 0), .ref (r1 1), .ref (r1 2), .ref (r1 3), .ref (r1 4), .ref (r1 5), .ref (r1 6), .ref (r1 7), .ref (r1 8), .ref (r1 9), .long (fl1 0), .ref (r1 10)])) :: ((r1 1), .inl (ca 0, 60, .inl (fa1 0))) :: ((r1 2), .inl (ca 0, 60, .inl (fa1 1))) :: ((r1 3), .inl (ca 0, 60, .inl (fa1 2))) :: ((r1 4), .inl (ca 0, 60, .inl (fa1 3))) :: ((r1 5), .inl (ca 0, 60, .inl (fa1 4))) :: ((r1 6), .inl (ca 0, 60, .inl (fa1 5))) :: ((r1 7), .inl (ca 0, 60, .inl (fa1 6))) :: ((r1 8), .inl (ca 0, 180, .inl (fa1 7))) :: ((r1 9), .inl (ca 1, 60, .inr (.inl (fb1 0)))) :: ((r1 10), .inr (0, [.ref (r1 11)])) :: ((r1 11), .inl (ca 1, 400, .inr (.inl (fb1 1)))) :: rest) H := hP
    have hD : va_D A (((r0 0), .inr (8, [.ref y0, .ref y1, .ref y2, .ref (r1 0), .ref y4, .ref y5, .ref y6, .ref y7, .int (fi0 0)])) :: ((r1 0), .inr (1, [.int (fi1 0), .ref (r1 1), .ref (r1 2), .ref (r1 3), .ref (r1 4), .ref (r1 5), .ref (r1 6), .ref (r1 7), .ref (r1 8), .ref (r1 9), .long (fl1 0), .ref (r1 10)])) :: ((r1 1), .inl (ca 0, 60, .inl (fa1 0))) :: ((r1 2), .inl (ca 0, 60, .inl (fa1 1))) :: ((r1 3), .inl (ca 0, 60, .inl (fa1 2))) :: ((r1 4), .inl (ca 0, 60, .inl (fa1 3))) :: ((r1 5), .inl (ca 0, 60, .inl (fa1 4))) :: ((r1 6), .inl (ca 0, 60, .inl (fa1 5))) :: ((r1 7), .inl (ca 0, 60, .inl (fa1 6))) :: ((r1 8), .inl (ca 0, 180, .inl (fa1 7))) :: ((r1 9), .inl (ca 1, 60, .inr (.inl (fb1 0)))) :: ((r1 10), .inr (0, [.ref (r1 11)])) :: ((r1 11), .inl (ca 1, 400, .inr (.inl (fb1 1)))) :: rest) := hD
    refine lv_goto (tgt := 25) hx hb dX8_about_20 (by decide) ?_
    rw [← hQ9]
    have hq15 : (0 ≤ p1.toInt ∧ p1.toInt < ((fi1 0)).toInt ∧ t12 = zAb (fa1 0) (fa1 1) (fa1 2) (fa1 3) (fa1 4) (fa1 5) (fa1 6) (fa1 7) p1 p2) ∨ ((p1.toInt < 0 ∨ ((fi1 0)).toInt ≤ p1.toInt) ∧ (t12).toInt = -9) := Or.inl ⟨by omega, by omega, hq14⟩
    exact W.iret (v := t12) hx hb hr (fun t ht hW => ⟨⟨t12, (), rfl, hq15, ⟨by rw [ht]; exact hP, hD⟩⟩, hS.F ht⟩) hS.2.2 dX8_about_25

set_option maxHeartbeats 8000000 in
set_option maxRecDepth 100000 in
theorem c_X9_about_R (l : Launch) (D : va_G) (ca : Nat → ClassId) (sa : Nat → Nat) (A : Nat → Prop) (rest : va_W) (r0 : Nat → Nat) (fi0 : Nat → Int32) (fl0 : Nat → Int64) (fa0 : Nat → Nat → Int32) (fb0 : Nat → Nat → Int64) (hv0 : Ok_MOD fi0 fa0) (p1 : Int32) (p2 : Int32) : Met l yX9_about wsX9_about ({ frames := 2, cells := 0, slots := 0, locals := 43 }) (va_Pc [.ref (r0 0), .int p1, .int p2] (zPre D ca sa A (w_MOD ca r0 fi0 fl0 fa0 fb0 (rest)))) (va_Qi (fun (r : Int32) (u : Unit) => ((0 ≤ p1.toInt ∧ p1.toInt < ((fi0 9)).toInt ∧ r = zAb (fa0 2) (fa0 3) (fa0 4) (fa0 5) (fa0 6) (fa0 7) (fa0 9) (fa0 8) p1 p2) ∨ ((p1.toInt < 0 ∨ ((fi0 9)).toInt ≤ p1.toInt) ∧ (r).toInt = -9))) (fun u t => zPost D A (w_MOD ca r0 fi0 fl0 fa0 fb0 (rest)) t) A) 0 0 A := by
  refine Met.ofW (cc := cX9_about) (maxL := 3) (ret := (some .int)) (by decide) rfl ?_
  intro p e s m args below meth c s₁ B hml hv9
  obtain ⟨rfl, hE, hP, hD⟩ := hv9
  have hx := B.exec
  have hb := B.bytes
  have hr := B.returns
  have hts := atoms_spec (ws := wsX9_about) B.pre
  have hown : s.vm.findClass RX9 = some m.cls := findClass_of_methodNamed B.named
  have hlocks := B.notSynchronized
  have hK := hE.1
  have hF : CallFix p m c cX9_about 3 s _ wsX9_about RX9 := ⟨hx, hb, hml, hown, hts⟩
  have hS : va_S A s.heap s.heap [] := va_S.rf
  have lk21 := hts (.fieldLink RX9 21 "BranchPlayModel" "birth" "[I") (by decide +kernel)
  have inX9 : ∀ w ∈ wsX90, w ∈ wsX9_about := by decide +kernel
  have lk24 := hts (.fieldLink RX9 24 "BranchPlayModel" "regions" "[I") (by decide +kernel)
  have lk27 := hts (.fieldLink RX9 27 "BranchPlayModel" "sizes" "[I") (by decide +kernel)
  have lk30 := hts (.fieldLink RX9 30 "BranchPlayModel" "breaks" "[I") (by decide +kernel)
  have lk33 := hts (.fieldLink RX9 33 "BranchPlayModel" "fixOf" "[I") (by decide +kernel)
  have lk36 := hts (.fieldLink RX9 36 "BranchPlayModel" "fixedBy" "[I") (by decide +kernel)
  have lk42 := hts (.fieldLink RX9 42 "BranchPlayModel" "hangMany" "[I") (by decide +kernel)
  have lk39 := hts (.fieldLink RX9 39 "BranchPlayModel" "hangs" "[I") (by decide +kernel)
  obtain ⟨⟨hv0i0, hv0j0⟩, ⟨hv0i1, hv0j1⟩, ⟨hv0i5, hv0j5⟩, ⟨hv0i9, hv0j9⟩, hv0a6, hv0a8, hv0a9, hv0a23, hv0a27, hv0a28, hv0x0, hv0y0⟩ := hv0
  generalize hHe : s.heap = H at hP
  have hS : va_S A s.heap H [] := by rw [← hHe]; exact hS
  have hP : va_P D vwCl (((r0 0), .inr (9, [.ref (r0 1), .int (fi0 0), .int (fi0 1), .int (fi0 2), .int (fi0 3), .int (fi0 4), .int (fi0 5), .int (fi0 6), .int (fi0 7), .int (fi0 8), .ref (r0 2), .int (fi0 9), .ref (r0 3), .ref (r0 4), .ref (r0 5), .ref (r0 6), .ref (r0 7), .ref (r0 8), .ref (r0 9), .ref (r0 10), .ref (r0 11), .ref (r0 12), .ref (r0 13), .ref (r0 14), .ref (r0 15), .ref (r0 16), .ref (r0 17), .ref (r0 18), .ref (r0 19), .ref (r0 20), .ref (r0 21), .ref (r0 22), .ref (r0 23), .ref (r0 24), .ref (r0 25), .ref (r0 26), .ref (r0 27), .ref (r0 28), .ref (r0 29), .ref (r0 30), .ref (r0 31), .ref (r0 32), .int (fi0 10), .ref (r0 33)])) :: ((r0 1), .inl (ca 2, 600, .inl (fa0 0))) :: ((r0 2), .inl (ca 0, 48, .inl (fa0 1))) :: ((r0 3), .inl (ca 0, 60, .inl (fa0 2))) :: ((r0 4), .inl (ca 0, 60, .inl (fa0 3))) :: ((r0 5), .inl (ca 0, 60, .inl (fa0 4))) :: ((r0 6), .inl (ca 0, 60, .inl (fa0 5))) :: ((r0 7), .inl (ca 0, 60, .inl (fa0 6))) :: ((r0 8), .inl (ca 0, 60, .inl (fa0 7))) :: ((r0 9), .inl (ca 0, 180, .inl (fa0 8))) :: ((r0 10), .inl (ca 0, 60, .inl (fa0 9))) :: ((r0 11), .inl (ca 0, 180, .inl (fa0 10))) :: ((r0 12), .inl (ca 0, 180, .inl (fa0 11))) :: ((r0 13), .inl (ca 0, 180, .inl (fa0 12))) :: ((r0 14), .inl (ca 0, 180, .inl (fa0 13))) :: ((r0 15), .inl (ca 0, 180, .inl (fa0 14))) :: ((r0 16), .inl (ca 0, 180, .inl (fa0 15))) :: ((r0 17), .inl (ca 0, 180, .inl (fa0 16))) :: ((r0 18), .inl (ca 0, 180, .inl (fa0 17))) :: ((r0 19), .inl (ca 0, 180, .inl (fa0 18))) :: ((r0 20), .inl (ca 0, 180, .inl (fa0 19))) :: ((r0 21), .inl (ca 0, 3, .inl (fa0 20))) :: ((r0 22), .inl (ca 1, 3, .inr (.inl (fb0 0)))) :: ((r0 23), .inl (ca 1, 3, .inr (.inl (fb0 1)))) :: ((r0 24), .inl (ca 3, 3, .inl (fa0 21))) :: ((r0 25), .inl (ca 0, 3, .inl (fa0 22))) :: ((r0 26), .inl (ca 0, 3, .inl (fa0 23))) :: ((r0 27), .inl (ca 0, 810, .inl (fa0 24))) :: ((r0 28), .inl (ca 3, 810, .inl (fa0 25))) :: ((r0 29), .inl (ca 1, 810, .inr (.inl (fb0 2)))) :: ((r0 30), .inl (ca 0, 810, .inl (fa0 26))) :: ((r0 31), .inl (ca 0, 3, .inl (fa0 27))) :: ((r0 32), .inl (ca 0, 60, .inl (fa0 28))) :: ((r0 33), .inl (ca 0, 4, .inl (fa0 29))) :: rest) H := hP
  have hD : va_D A (((r0 0), .inr (9, [.ref (r0 1), .int (fi0 0), .int (fi0 1), .int (fi0 2), .int (fi0 3), .int (fi0 4), .int (fi0 5), .int (fi0 6), .int (fi0 7), .int (fi0 8), .ref (r0 2), .int (fi0 9), .ref (r0 3), .ref (r0 4), .ref (r0 5), .ref (r0 6), .ref (r0 7), .ref (r0 8), .ref (r0 9), .ref (r0 10), .ref (r0 11), .ref (r0 12), .ref (r0 13), .ref (r0 14), .ref (r0 15), .ref (r0 16), .ref (r0 17), .ref (r0 18), .ref (r0 19), .ref (r0 20), .ref (r0 21), .ref (r0 22), .ref (r0 23), .ref (r0 24), .ref (r0 25), .ref (r0 26), .ref (r0 27), .ref (r0 28), .ref (r0 29), .ref (r0 30), .ref (r0 31), .ref (r0 32), .int (fi0 10), .ref (r0 33)])) :: ((r0 1), .inl (ca 2, 600, .inl (fa0 0))) :: ((r0 2), .inl (ca 0, 48, .inl (fa0 1))) :: ((r0 3), .inl (ca 0, 60, .inl (fa0 2))) :: ((r0 4), .inl (ca 0, 60, .inl (fa0 3))) :: ((r0 5), .inl (ca 0, 60, .inl (fa0 4))) :: ((r0 6), .inl (ca 0, 60, .inl (fa0 5))) :: ((r0 7), .inl (ca 0, 60, .inl (fa0 6))) :: ((r0 8), .inl (ca 0, 60, .inl (fa0 7))) :: ((r0 9), .inl (ca 0, 180, .inl (fa0 8))) :: ((r0 10), .inl (ca 0, 60, .inl (fa0 9))) :: ((r0 11), .inl (ca 0, 180, .inl (fa0 10))) :: ((r0 12), .inl (ca 0, 180, .inl (fa0 11))) :: ((r0 13), .inl (ca 0, 180, .inl (fa0 12))) :: ((r0 14), .inl (ca 0, 180, .inl (fa0 13))) :: ((r0 15), .inl (ca 0, 180, .inl (fa0 14))) :: ((r0 16), .inl (ca 0, 180, .inl (fa0 15))) :: ((r0 17), .inl (ca 0, 180, .inl (fa0 16))) :: ((r0 18), .inl (ca 0, 180, .inl (fa0 17))) :: ((r0 19), .inl (ca 0, 180, .inl (fa0 18))) :: ((r0 20), .inl (ca 0, 180, .inl (fa0 19))) :: ((r0 21), .inl (ca 0, 3, .inl (fa0 20))) :: ((r0 22), .inl (ca 1, 3, .inr (.inl (fb0 0)))) :: ((r0 23), .inl (ca 1, 3, .inr (.inl (fb0 1)))) :: ((r0 24), .inl (ca 3, 3, .inl (fa0 21))) :: ((r0 25), .inl (ca 0, 3, .inl (fa0 22))) :: ((r0 26), .inl (ca 0, 3, .inl (fa0 23))) :: ((r0 27), .inl (ca 0, 810, .inl (fa0 24))) :: ((r0 28), .inl (ca 3, 810, .inl (fa0 25))) :: ((r0 29), .inl (ca 1, 810, .inr (.inl (fb0 2)))) :: ((r0 30), .inl (ca 0, 810, .inl (fa0 26))) :: ((r0 31), .inl (ca 0, 3, .inl (fa0 27))) :: ((r0 32), .inl (ca 0, 60, .inl (fa0 28))) :: ((r0 33), .inl (ca 0, 4, .inl (fa0 29))) :: rest) := hD
  have hl := lv_entry ([.ref (r0 0), .int p1, .int p2]) (n := 3) (Nat.le_of_ble_eq_true rfl)
  rw [lg_entry_eq]
  generalize (lg_sl ([.ref (r0 0), .int p1, .int p2]) ++ List.replicate (3 - (lg_sl ([.ref (r0 0), .int p1, .int p2])).length) Slot.unset).toArray = ls at hl ⊢
  have hl : lv_has ls 3 [(0, .ref (r0 0)), (1, .int p1), (2, .int p2)] := hl
  generalize hQ9 : MQ below _ _ s 0 0 A = Q9
  refine lv_aload_n hx hb dX9_about_0 rfl (lv_at hl 0 rfl) ?_
  refine lv_iload_n hx hb dX9_about_1 rfl (lv_at hl 1 rfl) ?_
  have ho1 : (0 ≤ (fi0 0).toInt ∧ (fi0 0).toInt ≤ 600) ∧ (0 ≤ (fi0 1).toInt ∧ (fi0 1).toInt ≤ 600) ∧ (0 ≤ (fi0 5).toInt ∧ (fi0 5).toInt ≤ 600) ∧ (0 ≤ (fi0 9).toInt ∧ (fi0 9).toInt ≤ 60) ∧ z_rng (-1) 59 (fa0 6) ∧ z_rng 0 59 (fa0 8) ∧ z_rng 0 3 (fa0 9) ∧ z_rng 0 269 (fa0 23) ∧ z_rng 0 5 (fa0 27) ∧ z_rng 0 59 (fa0 28) ∧ ((fi0 2).toInt = 1 → 0 ≤ (fi0 3).toInt) ∧ zOkR (fa0 1) (fa0 27) := ⟨⟨by omega, by omega⟩, ⟨by omega, by omega⟩, ⟨by omega, by omega⟩, ⟨by omega, by omega⟩, hv0a6, hv0a8, hv0a9, hv0a23, hv0a27, hv0a28, by omega, hv0y0⟩
  refine z_iV (As := [.int p1]) (rest := []) hF (c_X9_isChange l D ca sa A rest (zl 0 [(r0 0), (r0 1), (r0 2), (r0 3), (r0 4), (r0 5), (r0 6), (r0 7), (r0 8), (r0 9), (r0 10), (r0 11), (r0 12), (r0 13), (r0 14), (r0 15), (r0 16), (r0 17), (r0 18), (r0 19), (r0 20), (r0 21), (r0 22), (r0 23), (r0 24), (r0 25), (r0 26), (r0 27), (r0 28), (r0 29), (r0 30), (r0 31), (r0 32), (r0 33)]) (zl 0 [(fi0 0), (fi0 1), (fi0 2), (fi0 3), (fi0 4), (fi0 5), (fi0 6), (fi0 7), (fi0 8), (fi0 9), (fi0 10)]) (zl 0 []) (zl (fun _ => 0) [(fa0 0), (fa0 1), (fa0 2), (fa0 3), (fa0 4), (fa0 5), (fa0 6), (fa0 7), (fa0 8), (fa0 9), (fa0 10), (fa0 11), (fa0 12), (fa0 13), (fa0 14), (fa0 15), (fa0 16), (fa0 17), (fa0 18), (fa0 19), (fa0 20), (fa0 21), (fa0 22), (fa0 23), (fa0 24), (fa0 25), (fa0 26), (fa0 27), (fa0 28), (fa0 29)]) (zl (fun _ => 0) [(fb0 0), (fb0 1), (fb0 2)]) ho1 p1) (cwV 1 hts gX9_about_X9_isChange rfl rfl rfl (by decide +kernel) ⟨Nat.le_of_ble_eq_true rfl, Nat.le_of_ble_eq_true rfl⟩) hE hP hD hS 9 0 rfl rfl rfl hl.1 rfl (Nat.le_of_ble_eq_true rfl) dX9_about_2 ⟨Nat.zero_le _, Nat.zero_le _⟩ (fun t3 u2 H locs hw4 hP hD hS => ?_)
  have hw4 : ((t3.toInt = 1 ∧ 0 ≤ p1.toInt ∧ p1.toInt < (fi0 9).toInt) ∨ (t3.toInt = 0 ∧ (p1.toInt < 0 ∨ (fi0 9).toInt ≤ p1.toInt))) := hw4
  have hq5 := hw4
  clear hw4
  have hP : va_P D vwCl (((r0 0), .inr (9, [.ref (r0 1), .int (fi0 0), .int (fi0 1), .int (fi0 2), .int (fi0 3), .int (fi0 4), .int (fi0 5), .int (fi0 6), .int (fi0 7), .int (fi0 8), .ref (r0 2), .int (fi0 9), .ref (r0 3), .ref (r0 4), .ref (r0 5), .ref (r0 6), .ref (r0 7), .ref (r0 8), .ref (r0 9), .ref (r0 10), .ref (r0 11), .ref (r0 12), .ref (r0 13), .ref (r0 14), .ref (r0 15), .ref (r0 16), .ref (r0 17), .ref (r0 18), .ref (r0 19), .ref (r0 20), .ref (r0 21), .ref (r0 22), .ref (r0 23), .ref (r0 24), .ref (r0 25), .ref (r0 26), .ref (r0 27), .ref (r0 28), .ref (r0 29), .ref (r0 30), .ref (r0 31), .ref (r0 32), .int (fi0 10), .ref (r0 33)])) :: ((r0 1), .inl (ca 2, 600, .inl (fa0 0))) :: ((r0 2), .inl (ca 0, 48, .inl (fa0 1))) :: ((r0 3), .inl (ca 0, 60, .inl (fa0 2))) :: ((r0 4), .inl (ca 0, 60, .inl (fa0 3))) :: ((r0 5), .inl (ca 0, 60, .inl (fa0 4))) :: ((r0 6), .inl (ca 0, 60, .inl (fa0 5))) :: ((r0 7), .inl (ca 0, 60, .inl (fa0 6))) :: ((r0 8), .inl (ca 0, 60, .inl (fa0 7))) :: ((r0 9), .inl (ca 0, 180, .inl (fa0 8))) :: ((r0 10), .inl (ca 0, 60, .inl (fa0 9))) :: ((r0 11), .inl (ca 0, 180, .inl (fa0 10))) :: ((r0 12), .inl (ca 0, 180, .inl (fa0 11))) :: ((r0 13), .inl (ca 0, 180, .inl (fa0 12))) :: ((r0 14), .inl (ca 0, 180, .inl (fa0 13))) :: ((r0 15), .inl (ca 0, 180, .inl (fa0 14))) :: ((r0 16), .inl (ca 0, 180, .inl (fa0 15))) :: ((r0 17), .inl (ca 0, 180, .inl (fa0 16))) :: ((r0 18), .inl (ca 0, 180, .inl (fa0 17))) :: ((r0 19), .inl (ca 0, 180, .inl (fa0 18))) :: ((r0 20), .inl (ca 0, 180, .inl (fa0 19))) :: ((r0 21), .inl (ca 0, 3, .inl (fa0 20))) :: ((r0 22), .inl (ca 1, 3, .inr (.inl (fb0 0)))) :: ((r0 23), .inl (ca 1, 3, .inr (.inl (fb0 1)))) :: ((r0 24), .inl (ca 3, 3, .inl (fa0 21))) :: ((r0 25), .inl (ca 0, 3, .inl (fa0 22))) :: ((r0 26), .inl (ca 0, 3, .inl (fa0 23))) :: ((r0 27), .inl (ca 0, 810, .inl (fa0 24))) :: ((r0 28), .inl (ca 3, 810, .inl (fa0 25))) :: ((r0 29), .inl (ca 1, 810, .inr (.inl (fb0 2)))) :: ((r0 30), .inl (ca 0, 810, .inl (fa0 26))) :: ((r0 31), .inl (ca 0, 3, .inl (fa0 27))) :: ((r0 32), .inl (ca 0, 60, .inl (fa0 28))) :: ((r0 33), .inl (ca 0, 4, .inl (fa0 29))) :: rest) H := hP
  have hD : va_D A (((r0 0), .inr (9, [.ref (r0 1), .int (fi0 0), .int (fi0 1), .int (fi0 2), .int (fi0 3), .int (fi0 4), .int (fi0 5), .int (fi0 6), .int (fi0 7), .int (fi0 8), .ref (r0 2), .int (fi0 9), .ref (r0 3), .ref (r0 4), .ref (r0 5), .ref (r0 6), .ref (r0 7), .ref (r0 8), .ref (r0 9), .ref (r0 10), .ref (r0 11), .ref (r0 12), .ref (r0 13), .ref (r0 14), .ref (r0 15), .ref (r0 16), .ref (r0 17), .ref (r0 18), .ref (r0 19), .ref (r0 20), .ref (r0 21), .ref (r0 22), .ref (r0 23), .ref (r0 24), .ref (r0 25), .ref (r0 26), .ref (r0 27), .ref (r0 28), .ref (r0 29), .ref (r0 30), .ref (r0 31), .ref (r0 32), .int (fi0 10), .ref (r0 33)])) :: ((r0 1), .inl (ca 2, 600, .inl (fa0 0))) :: ((r0 2), .inl (ca 0, 48, .inl (fa0 1))) :: ((r0 3), .inl (ca 0, 60, .inl (fa0 2))) :: ((r0 4), .inl (ca 0, 60, .inl (fa0 3))) :: ((r0 5), .inl (ca 0, 60, .inl (fa0 4))) :: ((r0 6), .inl (ca 0, 60, .inl (fa0 5))) :: ((r0 7), .inl (ca 0, 60, .inl (fa0 6))) :: ((r0 8), .inl (ca 0, 60, .inl (fa0 7))) :: ((r0 9), .inl (ca 0, 180, .inl (fa0 8))) :: ((r0 10), .inl (ca 0, 60, .inl (fa0 9))) :: ((r0 11), .inl (ca 0, 180, .inl (fa0 10))) :: ((r0 12), .inl (ca 0, 180, .inl (fa0 11))) :: ((r0 13), .inl (ca 0, 180, .inl (fa0 12))) :: ((r0 14), .inl (ca 0, 180, .inl (fa0 13))) :: ((r0 15), .inl (ca 0, 180, .inl (fa0 14))) :: ((r0 16), .inl (ca 0, 180, .inl (fa0 15))) :: ((r0 17), .inl (ca 0, 180, .inl (fa0 16))) :: ((r0 18), .inl (ca 0, 180, .inl (fa0 17))) :: ((r0 19), .inl (ca 0, 180, .inl (fa0 18))) :: ((r0 20), .inl (ca 0, 180, .inl (fa0 19))) :: ((r0 21), .inl (ca 0, 3, .inl (fa0 20))) :: ((r0 22), .inl (ca 1, 3, .inr (.inl (fb0 0)))) :: ((r0 23), .inl (ca 1, 3, .inr (.inl (fb0 1)))) :: ((r0 24), .inl (ca 3, 3, .inl (fa0 21))) :: ((r0 25), .inl (ca 0, 3, .inl (fa0 22))) :: ((r0 26), .inl (ca 0, 3, .inl (fa0 23))) :: ((r0 27), .inl (ca 0, 810, .inl (fa0 24))) :: ((r0 28), .inl (ca 3, 810, .inl (fa0 25))) :: ((r0 29), .inl (ca 1, 810, .inr (.inl (fb0 2)))) :: ((r0 30), .inl (ca 0, 810, .inl (fa0 26))) :: ((r0 31), .inl (ca 0, 3, .inl (fa0 27))) :: ((r0 32), .inl (ca 0, 60, .inl (fa0 28))) :: ((r0 33), .inl (ca 0, 4, .inl (fa0 29))) :: rest) := hD
  refine lv_if_ne (tgt := 11) hx hb dX9_about_5 (by decide) (fun c6 => ?_) (fun c6 => ?_)
  ·
    have c6 := z_ne (i := t3.toInt) (j := 0) rfl (by decide) c6
    have hnt7 : 0 ≤ p1.toInt ∧ p1.toInt < (fi0 9).toInt := by omega
    refine lv_iload_n hx hb dX9_about_11 rfl (lv_at hl 2 rfl) ?_
    by_cases c8 : p2.toInt = 0
    ·
      refine lv_tableIn (tgt := 56) hx hb dX9_about_12 (by omega) (by omega) (by rw [c8]; rfl) (by decide) ?_
      refine lv_aload_n hx hb dX9_about_56 rfl (lv_at hl 0 rfl) ?_
      refine va_get (D := D) (ci := 9) (v := .ref (r0 3)) (C := RX9) (T := TX9) (N := 44) hx hb hts inX9 hown hK hP 0 rfl rfl 12 (by decide) lk21 (fun _ h9 => h9) rfl dX9_about_57 ?_
      refine lv_iload_n hx hb dX9_about_60 rfl (lv_at hl 1 rfl) ?_
      have hi9 : vp_in p1 60 := z_in (i := p1.toInt) rfl (by omega) (by omega)
      refine va_iald hx hb hK hP 3 0 rfl rfl hi9 dX9_about_61 ?_
      refine lv_topi (fun t10 et10 => ?_)
      have ht10v : t10.toInt = ((fa0 2) p1.toNatClampNeg).toInt := by rw [et10]
      rw [← hQ9]
      have hq11 : (0 ≤ p1.toInt ∧ p1.toInt < ((fi0 9)).toInt ∧ t10 = zAb (fa0 2) (fa0 3) (fa0 4) (fa0 5) (fa0 6) (fa0 7) (fa0 9) (fa0 8) p1 p2) ∨ ((p1.toInt < 0 ∨ ((fi0 9)).toInt ≤ p1.toInt) ∧ (t10).toInt = -9) := Or.inl ⟨by omega, by omega, by unfold zAb; (repeat' split) <;> first | (exfalso; omega) | assumption⟩
      exact W.iret (v := t10) hx hb hr (fun t ht hW => ⟨⟨t10, (), rfl, hq11, ⟨by rw [ht]; exact hP, hD⟩⟩, hS.F ht⟩) hS.2.2 dX9_about_62
    by_cases c12 : p2.toInt = 1
    ·
      refine lv_tableIn (tgt := 63) hx hb dX9_about_12 (by omega) (by omega) (by rw [c12]; rfl) (by decide) ?_
      refine lv_aload_n hx hb dX9_about_63 rfl (lv_at hl 0 rfl) ?_
      refine va_get (D := D) (ci := 9) (v := .ref (r0 4)) (C := RX9) (T := TX9) (N := 44) hx hb hts inX9 hown hK hP 0 rfl rfl 13 (by decide) lk24 (fun _ h9 => h9) rfl dX9_about_64 ?_
      refine lv_iload_n hx hb dX9_about_67 rfl (lv_at hl 1 rfl) ?_
      have hi13 : vp_in p1 60 := z_in (i := p1.toInt) rfl (by omega) (by omega)
      refine va_iald hx hb hK hP 4 0 rfl rfl hi13 dX9_about_68 ?_
      refine lv_topi (fun t14 et14 => ?_)
      have ht14v : t14.toInt = ((fa0 3) p1.toNatClampNeg).toInt := by rw [et14]
      rw [← hQ9]
      have hq15 : (0 ≤ p1.toInt ∧ p1.toInt < ((fi0 9)).toInt ∧ t14 = zAb (fa0 2) (fa0 3) (fa0 4) (fa0 5) (fa0 6) (fa0 7) (fa0 9) (fa0 8) p1 p2) ∨ ((p1.toInt < 0 ∨ ((fi0 9)).toInt ≤ p1.toInt) ∧ (t14).toInt = -9) := Or.inl ⟨by omega, by omega, by unfold zAb; (repeat' split) <;> first | (exfalso; omega) | assumption⟩
      exact W.iret (v := t14) hx hb hr (fun t ht hW => ⟨⟨t14, (), rfl, hq15, ⟨by rw [ht]; exact hP, hD⟩⟩, hS.F ht⟩) hS.2.2 dX9_about_69
    by_cases c16 : p2.toInt = 2
    ·
      refine lv_tableIn (tgt := 70) hx hb dX9_about_12 (by omega) (by omega) (by rw [c16]; rfl) (by decide) ?_
      refine lv_aload_n hx hb dX9_about_70 rfl (lv_at hl 0 rfl) ?_
      refine va_get (D := D) (ci := 9) (v := .ref (r0 5)) (C := RX9) (T := TX9) (N := 44) hx hb hts inX9 hown hK hP 0 rfl rfl 14 (by decide) lk27 (fun _ h9 => h9) rfl dX9_about_71 ?_
      refine lv_iload_n hx hb dX9_about_74 rfl (lv_at hl 1 rfl) ?_
      have hi17 : vp_in p1 60 := z_in (i := p1.toInt) rfl (by omega) (by omega)
      refine va_iald hx hb hK hP 5 0 rfl rfl hi17 dX9_about_75 ?_
      refine lv_topi (fun t18 et18 => ?_)
      have ht18v : t18.toInt = ((fa0 4) p1.toNatClampNeg).toInt := by rw [et18]
      rw [← hQ9]
      have hq19 : (0 ≤ p1.toInt ∧ p1.toInt < ((fi0 9)).toInt ∧ t18 = zAb (fa0 2) (fa0 3) (fa0 4) (fa0 5) (fa0 6) (fa0 7) (fa0 9) (fa0 8) p1 p2) ∨ ((p1.toInt < 0 ∨ ((fi0 9)).toInt ≤ p1.toInt) ∧ (t18).toInt = -9) := Or.inl ⟨by omega, by omega, by unfold zAb; (repeat' split) <;> first | (exfalso; omega) | assumption⟩
      exact W.iret (v := t18) hx hb hr (fun t ht hW => ⟨⟨t18, (), rfl, hq19, ⟨by rw [ht]; exact hP, hD⟩⟩, hS.F ht⟩) hS.2.2 dX9_about_76
    by_cases c20 : p2.toInt = 3
    ·
      refine lv_tableIn (tgt := 77) hx hb dX9_about_12 (by omega) (by omega) (by rw [c20]; rfl) (by decide) ?_
      refine lv_aload_n hx hb dX9_about_77 rfl (lv_at hl 0 rfl) ?_
      refine va_get (D := D) (ci := 9) (v := .ref (r0 6)) (C := RX9) (T := TX9) (N := 44) hx hb hts inX9 hown hK hP 0 rfl rfl 15 (by decide) lk30 (fun _ h9 => h9) rfl dX9_about_78 ?_
      refine lv_iload_n hx hb dX9_about_81 rfl (lv_at hl 1 rfl) ?_
      have hi21 : vp_in p1 60 := z_in (i := p1.toInt) rfl (by omega) (by omega)
      refine va_iald hx hb hK hP 6 0 rfl rfl hi21 dX9_about_82 ?_
      refine lv_topi (fun t22 et22 => ?_)
      have ht22v : t22.toInt = ((fa0 5) p1.toNatClampNeg).toInt := by rw [et22]
      rw [← hQ9]
      have hq23 : (0 ≤ p1.toInt ∧ p1.toInt < ((fi0 9)).toInt ∧ t22 = zAb (fa0 2) (fa0 3) (fa0 4) (fa0 5) (fa0 6) (fa0 7) (fa0 9) (fa0 8) p1 p2) ∨ ((p1.toInt < 0 ∨ ((fi0 9)).toInt ≤ p1.toInt) ∧ (t22).toInt = -9) := Or.inl ⟨by omega, by omega, by unfold zAb; (repeat' split) <;> first | (exfalso; omega) | assumption⟩
      exact W.iret (v := t22) hx hb hr (fun t ht hW => ⟨⟨t22, (), rfl, hq23, ⟨by rw [ht]; exact hP, hD⟩⟩, hS.F ht⟩) hS.2.2 dX9_about_83
    by_cases c24 : p2.toInt = 4
    ·
      refine lv_tableIn (tgt := 84) hx hb dX9_about_12 (by omega) (by omega) (by rw [c24]; rfl) (by decide) ?_
      refine lv_aload_n hx hb dX9_about_84 rfl (lv_at hl 0 rfl) ?_
      refine va_get (D := D) (ci := 9) (v := .ref (r0 7)) (C := RX9) (T := TX9) (N := 44) hx hb hts inX9 hown hK hP 0 rfl rfl 16 (by decide) lk33 (fun _ h9 => h9) rfl dX9_about_85 ?_
      refine lv_iload_n hx hb dX9_about_88 rfl (lv_at hl 1 rfl) ?_
      have hi25 : vp_in p1 60 := z_in (i := p1.toInt) rfl (by omega) (by omega)
      refine va_iald hx hb hK hP 7 0 rfl rfl hi25 dX9_about_89 ?_
      refine lv_topi (fun t26 et26 => ?_)
      have ht26v : t26.toInt = ((fa0 6) p1.toNatClampNeg).toInt := by rw [et26]
      have ht26 := z_at hv0a6 et26
      rw [← hQ9]
      have hq27 : (0 ≤ p1.toInt ∧ p1.toInt < ((fi0 9)).toInt ∧ t26 = zAb (fa0 2) (fa0 3) (fa0 4) (fa0 5) (fa0 6) (fa0 7) (fa0 9) (fa0 8) p1 p2) ∨ ((p1.toInt < 0 ∨ ((fi0 9)).toInt ≤ p1.toInt) ∧ (t26).toInt = -9) := Or.inl ⟨by omega, by omega, by unfold zAb; (repeat' split) <;> first | (exfalso; omega) | assumption⟩
      exact W.iret (v := t26) hx hb hr (fun t ht hW => ⟨⟨t26, (), rfl, hq27, ⟨by rw [ht]; exact hP, hD⟩⟩, hS.F ht⟩) hS.2.2 dX9_about_90
    by_cases c28 : p2.toInt = 5
    ·
      refine lv_tableIn (tgt := 91) hx hb dX9_about_12 (by omega) (by omega) (by rw [c28]; rfl) (by decide) ?_
      refine lv_aload_n hx hb dX9_about_91 rfl (lv_at hl 0 rfl) ?_
      refine va_get (D := D) (ci := 9) (v := .ref (r0 8)) (C := RX9) (T := TX9) (N := 44) hx hb hts inX9 hown hK hP 0 rfl rfl 17 (by decide) lk36 (fun _ h9 => h9) rfl dX9_about_92 ?_
      refine lv_iload_n hx hb dX9_about_95 rfl (lv_at hl 1 rfl) ?_
      have hi29 : vp_in p1 60 := z_in (i := p1.toInt) rfl (by omega) (by omega)
      refine va_iald hx hb hK hP 8 0 rfl rfl hi29 dX9_about_96 ?_
      refine lv_topi (fun t30 et30 => ?_)
      have ht30v : t30.toInt = ((fa0 7) p1.toNatClampNeg).toInt := by rw [et30]
      rw [← hQ9]
      have hq31 : (0 ≤ p1.toInt ∧ p1.toInt < ((fi0 9)).toInt ∧ t30 = zAb (fa0 2) (fa0 3) (fa0 4) (fa0 5) (fa0 6) (fa0 7) (fa0 9) (fa0 8) p1 p2) ∨ ((p1.toInt < 0 ∨ ((fi0 9)).toInt ≤ p1.toInt) ∧ (t30).toInt = -9) := Or.inl ⟨by omega, by omega, by unfold zAb; (repeat' split) <;> first | (exfalso; omega) | assumption⟩
      exact W.iret (v := t30) hx hb hr (fun t ht hW => ⟨⟨t30, (), rfl, hq31, ⟨by rw [ht]; exact hP, hD⟩⟩, hS.F ht⟩) hS.2.2 dX9_about_97
    by_cases c32 : p2.toInt = 6
    ·
      refine lv_tableIn (tgt := 98) hx hb dX9_about_12 (by omega) (by omega) (by rw [c32]; rfl) (by decide) ?_
      refine lv_aload_n hx hb dX9_about_98 rfl (lv_at hl 0 rfl) ?_
      refine va_get (D := D) (ci := 9) (v := .ref (r0 10)) (C := RX9) (T := TX9) (N := 44) hx hb hts inX9 hown hK hP 0 rfl rfl 19 (by decide) lk42 (fun _ h9 => h9) rfl dX9_about_99 ?_
      refine lv_iload_n hx hb dX9_about_102 rfl (lv_at hl 1 rfl) ?_
      have hi33 : vp_in p1 60 := z_in (i := p1.toInt) rfl (by omega) (by omega)
      refine va_iald hx hb hK hP 10 0 rfl rfl hi33 dX9_about_103 ?_
      refine lv_topi (fun t34 et34 => ?_)
      have ht34v : t34.toInt = ((fa0 9) p1.toNatClampNeg).toInt := by rw [et34]
      have ht34 := z_at hv0a9 et34
      rw [← hQ9]
      have hq35 : (0 ≤ p1.toInt ∧ p1.toInt < ((fi0 9)).toInt ∧ t34 = zAb (fa0 2) (fa0 3) (fa0 4) (fa0 5) (fa0 6) (fa0 7) (fa0 9) (fa0 8) p1 p2) ∨ ((p1.toInt < 0 ∨ ((fi0 9)).toInt ≤ p1.toInt) ∧ (t34).toInt = -9) := Or.inl ⟨by omega, by omega, by unfold zAb; (repeat' split) <;> first | (exfalso; omega) | assumption⟩
      exact W.iret (v := t34) hx hb hr (fun t ht hW => ⟨⟨t34, (), rfl, hq35, ⟨by rw [ht]; exact hP, hD⟩⟩, hS.F ht⟩) hS.2.2 dX9_about_104
    refine lv_tableOut (tgt := 105) hx hb dX9_about_12 (by omega) (by decide) ?_
    refine lv_iload_n hx hb dX9_about_105 rfl (lv_at hl 2 rfl) ?_
    refine lv_bipush (v := 10) hx hb dX9_about_106 (by decide) ?_
    refine lv_bipush (v := 9) hx hb dX9_about_108 (by decide) ?_
    refine lv_aload_n hx hb dX9_about_110 rfl (lv_at hl 0 rfl) ?_
    refine va_get (D := D) (ci := 9) (v := .ref (r0 10)) (C := RX9) (T := TX9) (N := 44) hx hb hts inX9 hown hK hP 0 rfl rfl 19 (by decide) lk42 (fun _ h9 => h9) rfl dX9_about_111 ?_
    refine lv_iload_n hx hb dX9_about_114 rfl (lv_at hl 1 rfl) ?_
    have hi36 : vp_in p1 60 := z_in (i := p1.toInt) rfl (by omega) (by omega)
    refine va_iald hx hb hK hP 10 0 rfl rfl hi36 dX9_about_115 ?_
    refine lv_topi (fun t37 et37 => ?_)
    have ht37v : t37.toInt = ((fa0 9) p1.toNatClampNeg).toInt := by rw [et37]
    have ht37 := z_at hv0a9 et37
    refine lv_iadd hx hb dX9_about_116 ?_
    refine lv_topi (fun t38 et38 => ?_)
    try have ht38 : t38.toInt = 9 + t37.toInt := z_add et38 (by decide) rfl (by omega -splitDisjunctions) (by omega -splitDisjunctions)
    refine z_iS (As := [.int p2, .int 10, .int t38]) (rest := []) hF (c_X9_in l D ca sa A _ p2 10 t38) (va_cwS 3 hts gX9_about_X9_in rfl rfl rfl (by decide +kernel) ⟨Nat.le_of_ble_eq_true rfl, Nat.le_of_ble_eq_true rfl⟩) hE hP hD hS rfl hl.1 rfl (Nat.le_of_ble_eq_true rfl) dX9_about_117 ⟨Nat.zero_le _, Nat.zero_le _⟩ (fun t40 u39 H locs hw41 hP hD hS => ?_)
    have hw41 : ((t40.toInt = 1 ∧ (10 : Int32).toInt ≤ p2.toInt ∧ p2.toInt ≤ t38.toInt) ∨ (t40.toInt = 0 ∧ (p2.toInt < (10 : Int32).toInt ∨ t38.toInt < p2.toInt))) := hw41
    have hq42 := hw41
    clear hw41
    have hk43 : (10 : Int32).toInt = 10 := by decide
    refine lv_if_eq (tgt := 139) hx hb dX9_about_120 (by decide) (fun c44 => ?_) (fun c44 => ?_)
    ·
      have c44 := z_eq (i := t40.toInt) (j := 0) rfl (by decide) c44
      refine lv_bipush (v := (-9)) hx hb dX9_about_139 (by decide) ?_
      rw [← hQ9]
      refine lv_topi (fun t45 et45 => ?_)
      have ht45 : t45.toInt = (-9) := by rw [et45]; decide
      have hq46 : (0 ≤ p1.toInt ∧ p1.toInt < ((fi0 9)).toInt ∧ t45 = zAb (fa0 2) (fa0 3) (fa0 4) (fa0 5) (fa0 6) (fa0 7) (fa0 9) (fa0 8) p1 p2) ∨ ((p1.toInt < 0 ∨ ((fi0 9)).toInt ≤ p1.toInt) ∧ (t45).toInt = -9) := Or.inl ⟨by omega, by omega, by unfold zAb; rw [if_neg (by omega), if_neg (by omega), if_neg (by omega), if_neg (by omega), if_neg (by omega), if_neg (by omega), if_neg (by omega)]; unfold zHa; rw [if_neg (by omega)]; exact et45⟩
      exact W.iret (v := t45) hx hb hr (fun t ht hW => ⟨⟨t45, (), rfl, hq46, ⟨by rw [ht]; exact hP, hD⟩⟩, hS.F ht⟩) hS.2.2 dX9_about_141
    ·
      have c44 := z_ne (i := t40.toInt) (j := 0) rfl (by decide) c44
      have hnt47 : 10 ≤ p2.toInt ∧ p2.toInt ≤ 12 := by omega
      refine lv_aload_n hx hb dX9_about_123 rfl (lv_at hl 0 rfl) ?_
      refine va_get (D := D) (ci := 9) (v := .ref (r0 9)) (C := RX9) (T := TX9) (N := 44) hx hb hts inX9 hown hK hP 0 rfl rfl 18 (by decide) lk39 (fun _ h9 => h9) rfl dX9_about_124 ?_
      refine lv_iconst (v := 3) hx hb dX9_about_127 (by decide) ?_
      refine lv_iload_n hx hb dX9_about_128 rfl (lv_at hl 1 rfl) ?_
      refine lv_imul hx hb dX9_about_129 ?_
      refine lv_topi (fun t48 et48 => ?_)
      try have ht48 : t48.toInt = 3 * p1.toInt := z_mul et48 (by decide) rfl (by omega -splitDisjunctions) (by omega -splitDisjunctions)
      refine lv_iload_n hx hb dX9_about_130 rfl (lv_at hl 2 rfl) ?_
      refine lv_iadd hx hb dX9_about_131 ?_
      refine lv_topi (fun t49 et49 => ?_)
      try have ht49 : t49.toInt = t48.toInt + p2.toInt := z_add et49 rfl rfl (by omega -splitDisjunctions) (by omega -splitDisjunctions)
      refine lv_bipush (v := 10) hx hb dX9_about_132 (by decide) ?_
      refine lv_isub hx hb dX9_about_134 ?_
      refine lv_topi (fun t50 et50 => ?_)
      try have ht50 : t50.toInt = t49.toInt - 10 := z_sub et50 rfl (by decide) (by omega -splitDisjunctions) (by omega -splitDisjunctions)
      have hi51 : vp_in t50 180 := z_in (i := t50.toInt) rfl (by omega) (by omega)
      refine va_iald hx hb hK hP 9 0 rfl rfl hi51 dX9_about_135 ?_
      refine lv_topi (fun t52 et52 => ?_)
      have ht52v : t52.toInt = ((fa0 8) t50.toNatClampNeg).toInt := by rw [et52]
      have ht52 := z_at hv0a8 et52
      refine lv_goto (tgt := 141) hx hb dX9_about_136 (by decide) ?_
      rw [← hQ9]
      have hq53 : (0 ≤ p1.toInt ∧ p1.toInt < ((fi0 9)).toInt ∧ t52 = zAb (fa0 2) (fa0 3) (fa0 4) (fa0 5) (fa0 6) (fa0 7) (fa0 9) (fa0 8) p1 p2) ∨ ((p1.toInt < 0 ∨ ((fi0 9)).toInt ≤ p1.toInt) ∧ (t52).toInt = -9) := Or.inl ⟨by omega, by omega, by unfold zAb; rw [if_neg (by omega), if_neg (by omega), if_neg (by omega), if_neg (by omega), if_neg (by omega), if_neg (by omega), if_neg (by omega)]; unfold zHa; rw [if_pos (by omega), et52, show t50.toNatClampNeg = 3 * p1.toNatClampNeg + (p2.toInt - 10).toNat from by (rw [z_cl t50, z_cl p1]; omega)]⟩
      exact W.iret (v := t52) hx hb hr (fun t ht hW => ⟨⟨t52, (), rfl, hq53, ⟨by rw [ht]; exact hP, hD⟩⟩, hS.F ht⟩) hS.2.2 dX9_about_141
  ·
    have c6 := z_eq (i := t3.toInt) (j := 0) rfl (by decide) c6
    refine lv_bipush (v := (-9)) hx hb dX9_about_8 (by decide) ?_
    rw [← hQ9]
    refine lv_topi (fun t54 et54 => ?_)
    have ht54 : t54.toInt = (-9) := by rw [et54]; decide
    have hq55 : (0 ≤ p1.toInt ∧ p1.toInt < ((fi0 9)).toInt ∧ t54 = zAb (fa0 2) (fa0 3) (fa0 4) (fa0 5) (fa0 6) (fa0 7) (fa0 9) (fa0 8) p1 p2) ∨ ((p1.toInt < 0 ∨ ((fi0 9)).toInt ≤ p1.toInt) ∧ (t54).toInt = -9) := Or.inr ⟨by omega, by omega⟩
    exact W.iret (v := t54) hx hb hr (fun t ht hW => ⟨⟨t54, (), rfl, hq55, ⟨by rw [ht]; exact hP, hD⟩⟩, hS.F ht⟩) hS.2.2 dX9_about_10
