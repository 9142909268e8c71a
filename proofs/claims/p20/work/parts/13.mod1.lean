def zx {α : Type} (ks : List Nat) (f g : Nat → α) : Nat → α := fun k => if ks.contains k then g k else f k
def zIv (r : Nat) (x : Int32) : Prop := (r = 0 → 2 ≤ x.toInt ∧ x.toInt ≤ 100) ∧ (r = 6 → x.toInt = -1 ∨ (1 ≤ x.toInt ∧ x.toInt ≤ 50))
def zOkR (f g : Nat → Int32) : Prop := (∀ j : Nat, j < 32 → zIv (j % 8) (f j)) ∧ ∀ p : Nat, p < 3 → ∀ r : Nat, r < 8 → zIv r (f (8 * (g p).toNatClampNeg + r))
theorem zOkR_upd {f g f' : Nat → Int32} {j : Nat} {x : Int32} (h : zOkR f g) (e : upd f j x = f') (hx : zIv (j % 8) x) : zOkR f' g := by
  subst e
  refine ⟨fun i hi => ?_, fun p hp r hr => ?_⟩
  · unfold upd
    split
    · next q => rw [q]; exact hx
    · exact h.1 i hi
  · unfold upd
    split
    · next q => rw [show r = j % 8 by omega]; exact hx
    · exact h.2 p hp r hr
theorem zOkR_way {f g g' : Nat → Int32} {q : Nat} {w : Int32} (h : zOkR f g) (e : upd g q w = g') (hw : ∀ r : Nat, r < 8 → zIv r (f (8 * w.toNatClampNeg + r))) : zOkR f g' := by
  subst e
  refine ⟨h.1, fun p hp r hr => ?_⟩
  unfold upd
  split
  · exact hw r hr
  · exact h.2 p hp r hr
theorem zOkR_row {f g : Nat → Int32} (h : zOkR f g) {w : Nat} (hw : w < 4) : ∀ r : Nat, r < 8 → zIv r (f (8 * w + r)) := fun r hr => by
  have := h.1 (8 * w + r) (by omega)
  rwa [show (8 * w + r) % 8 = r by omega] at this
theorem z_and255 {x y : Int32} (e : y = x &&& 255) : 0 ≤ y.toInt ∧ y.toInt ≤ 255 := by
  obtain ⟨j, hj, h⟩ := pk_andE x (m := 255) 8 (by decide)
  rw [e, h, nI_toInt (by omega)]; omega
theorem z_and1 {x y : Int32} (e : y = x &&& 1) : 0 ≤ y.toInt ∧ y.toInt ≤ 1 := by
  obtain ⟨j, hj, h⟩ := pk_andE x (m := 1) 1 (by decide)
  rw [e, h, nI_toInt (by omega)]; omega

def w_MOD (ca : Nat → ClassId) (r : Nat → Nat) (fi : Nat → Int32) (fl : Nat → Int64) (fa : Nat → Nat → Int32) (fb : Nat → Nat → Int64) (tl : va_W) : va_W := ((r 0), .inr (9, [.ref (r 1), .int (fi 0), .int (fi 1), .int (fi 2), .int (fi 3), .int (fi 4), .int (fi 5), .int (fi 6), .int (fi 7), .int (fi 8), .ref (r 2), .int (fi 9), .ref (r 3), .ref (r 4), .ref (r 5), .ref (r 6), .ref (r 7), .ref (r 8), .ref (r 9), .ref (r 10), .ref (r 11), .ref (r 12), .ref (r 13), .ref (r 14), .ref (r 15), .ref (r 16), .ref (r 17), .ref (r 18), .ref (r 19), .ref (r 20), .ref (r 21), .ref (r 22), .ref (r 23), .ref (r 24), .ref (r 25), .ref (r 26), .ref (r 27), .ref (r 28), .ref (r 29), .ref (r 30), .ref (r 31), .ref (r 32), .int (fi 10), .ref (r 33)])) :: ((r 1), .inl (ca 2, 600, .inl (fa 0))) :: ((r 2), .inl (ca 0, 48, .inl (fa 1))) :: ((r 3), .inl (ca 0, 60, .inl (fa 2))) :: ((r 4), .inl (ca 0, 60, .inl (fa 3))) :: ((r 5), .inl (ca 0, 60, .inl (fa 4))) :: ((r 6), .inl (ca 0, 60, .inl (fa 5))) :: ((r 7), .inl (ca 0, 60, .inl (fa 6))) :: ((r 8), .inl (ca 0, 60, .inl (fa 7))) :: ((r 9), .inl (ca 0, 180, .inl (fa 8))) :: ((r 10), .inl (ca 0, 60, .inl (fa 9))) :: ((r 11), .inl (ca 0, 180, .inl (fa 10))) :: ((r 12), .inl (ca 0, 180, .inl (fa 11))) :: ((r 13), .inl (ca 0, 180, .inl (fa 12))) :: ((r 14), .inl (ca 0, 180, .inl (fa 13))) :: ((r 15), .inl (ca 0, 180, .inl (fa 14))) :: ((r 16), .inl (ca 0, 180, .inl (fa 15))) :: ((r 17), .inl (ca 0, 180, .inl (fa 16))) :: ((r 18), .inl (ca 0, 180, .inl (fa 17))) :: ((r 19), .inl (ca 0, 180, .inl (fa 18))) :: ((r 20), .inl (ca 0, 180, .inl (fa 19))) :: ((r 21), .inl (ca 0, 3, .inl (fa 20))) :: ((r 22), .inl (ca 1, 3, .inr (.inl (fb 0)))) :: ((r 23), .inl (ca 1, 3, .inr (.inl (fb 1)))) :: ((r 24), .inl (ca 3, 3, .inl (fa 21))) :: ((r 25), .inl (ca 0, 3, .inl (fa 22))) :: ((r 26), .inl (ca 0, 3, .inl (fa 23))) :: ((r 27), .inl (ca 0, 810, .inl (fa 24))) :: ((r 28), .inl (ca 3, 810, .inl (fa 25))) :: ((r 29), .inl (ca 1, 810, .inr (.inl (fb 2)))) :: ((r 30), .inl (ca 0, 810, .inl (fa 26))) :: ((r 31), .inl (ca 0, 3, .inl (fa 27))) :: ((r 32), .inl (ca 0, 60, .inl (fa 28))) :: ((r 33), .inl (ca 0, 4, .inl (fa 29))) :: tl
def Ok_MOD (fi : Nat → Int32) (fa : Nat → Nat → Int32) : Prop := (0 ≤ (fi 0).toInt ∧ (fi 0).toInt ≤ 600) ∧ (0 ≤ (fi 1).toInt ∧ (fi 1).toInt ≤ 600) ∧ (0 ≤ (fi 5).toInt ∧ (fi 5).toInt ≤ 600) ∧ (0 ≤ (fi 9).toInt ∧ (fi 9).toInt ≤ 60) ∧ z_rng (-1) 59 (fa 6) ∧ z_rng 0 59 (fa 8) ∧ z_rng 0 3 (fa 9) ∧ z_rng 0 269 (fa 23) ∧ z_rng 0 5 (fa 27) ∧ z_rng 0 59 (fa 28) ∧ ((fi 2).toInt = 1 → 0 ≤ (fi 3).toInt) ∧ zOkR (fa 1) (fa 27)

set_option maxHeartbeats 8000000 in
set_option maxRecDepth 100000 in
theorem c_X9_plain (l : Launch) (D : va_G) (ca : Nat → ClassId) (sa : Nat → Nat) (A : Nat → Prop) (rest : va_W) (p0 : Int32) : Met l yX9_plain wsX9_plain ({ frames := 0, cells := 0, slots := 0, locals := 0 }) (va_Pc [.int p0] (zPre D ca sa A (rest))) (va_Qi (fun (r : Int32) (u : Unit) => ((p0.toInt = 0 → 2 ≤ r.toInt ∧ r.toInt ≤ 100) ∧ (p0.toInt = 6 → r.toInt = -1))) (fun u t => zPost D A (rest) t) A) 0 0 A := by
  refine Met.ofW (cc := cX9_plain) (maxL := 1) (ret := (some .int)) (by decide) rfl ?_
  intro p e s m args below meth c s₁ B hml hv9
  obtain ⟨rfl, hE, hP, hD⟩ := hv9
  have hx := B.exec
  have hb := B.bytes
  have hr := B.returns
  have hts := atoms_spec (ws := wsX9_plain) B.pre
  have hown : s.vm.findClass RX9 = some m.cls := findClass_of_methodNamed B.named
  have hlocks := B.notSynchronized
  have hK := hE.1
  have hF : CallFix p m c cX9_plain 1 s _ wsX9_plain RX9 := ⟨hx, hb, hml, hown, hts⟩
  have hS : va_S A s.heap s.heap [] := va_S.rf
  generalize hHe : s.heap = H at hP
  have hS : va_S A s.heap H [] := by rw [← hHe]; exact hS
  have hl := lv_entry ([.int p0]) (n := 1) (Nat.le_of_ble_eq_true rfl)
  rw [lg_entry_eq]
  generalize (lg_sl ([.int p0]) ++ List.replicate (1 - (lg_sl ([.int p0])).length) Slot.unset).toArray = ls at hl ⊢
  have hl : lv_has ls 1 [(0, .int p0)] := hl
  generalize hQ9 : MQ below _ _ s 0 0 A = Q9
  refine lv_iload_n hx hb dX9_plain_0 rfl (lv_at hl 0 rfl) ?_
  refine lv_if_ne (tgt := 9) hx hb dX9_plain_1 (by decide) (fun c1 => ?_) (fun c1 => ?_)
  ·
    have c1 := z_ne (i := p0.toInt) (j := 0) rfl (by decide) c1
    refine lv_iload_n hx hb dX9_plain_9 rfl (lv_at hl 0 rfl) ?_
    refine lv_iconst (v := 1) hx hb dX9_plain_10 (by decide) ?_
    refine lv_icmp_ne (tgt := 18) hx hb dX9_plain_11 (by decide) (fun c2 => ?_) (fun c2 => ?_)
    ·
      have c2 := z_ne (i := p0.toInt) (j := 1) rfl (by decide) c2
      refine lv_iload_n hx hb dX9_plain_18 rfl (lv_at hl 0 rfl) ?_
      refine lv_iconst (v := 2) hx hb dX9_plain_19 (by decide) ?_
      refine lv_icmp_ne (tgt := 27) hx hb dX9_plain_20 (by decide) (fun c3 => ?_) (fun c3 => ?_)
      ·
        have c3 := z_ne (i := p0.toInt) (j := 2) rfl (by decide) c3
        refine lv_iload_n hx hb dX9_plain_27 rfl (lv_at hl 0 rfl) ?_
        refine lv_iconst (v := 3) hx hb dX9_plain_28 (by decide) ?_
        refine lv_icmp_ne (tgt := 36) hx hb dX9_plain_29 (by decide) (fun c4 => ?_) (fun c4 => ?_)
        ·
          have c4 := z_ne (i := p0.toInt) (j := 3) rfl (by decide) c4
          refine lv_iload_n hx hb dX9_plain_36 rfl (lv_at hl 0 rfl) ?_
          refine lv_iconst (v := 4) hx hb dX9_plain_37 (by decide) ?_
          refine lv_icmp_ne (tgt := 45) hx hb dX9_plain_38 (by decide) (fun c5 => ?_) (fun c5 => ?_)
          ·
            have c5 := z_ne (i := p0.toInt) (j := 4) rfl (by decide) c5
            refine lv_iload_n hx hb dX9_plain_45 rfl (lv_at hl 0 rfl) ?_
            refine lv_iconst (v := 5) hx hb dX9_plain_46 (by decide) ?_
            refine lv_icmp_ne (tgt := 54) hx hb dX9_plain_47 (by decide) (fun c6 => ?_) (fun c6 => ?_)
            ·
              have c6 := z_ne (i := p0.toInt) (j := 5) rfl (by decide) c6
              refine lv_iload_n hx hb dX9_plain_54 rfl (lv_at hl 0 rfl) ?_
              refine lv_bipush (v := 6) hx hb dX9_plain_55 (by decide) ?_
              refine lv_icmp_ne (tgt := 64) hx hb dX9_plain_57 (by decide) (fun c7 => ?_) (fun c7 => ?_)
              ·
                have c7 := z_ne (i := p0.toInt) (j := 6) rfl (by decide) c7
                refine lv_iconst (v := 1) hx hb dX9_plain_64 (by decide) ?_
                subst hQ9
                refine lv_topi (fun t8 et8 => ?_)
                have ht8 : t8.toInt = 1 := by rw [et8]; decide
                have hq9 : (p0.toInt = 0 → 2 ≤ t8.toInt ∧ t8.toInt ≤ 100) ∧ (p0.toInt = 6 → t8.toInt = -1) := by omega
                exact W.iret (v := t8) hx hb hr (fun t ht hW => ⟨⟨t8, (), rfl, hq9, ⟨by rw [ht]; exact hP, hD⟩⟩, hS.F ht⟩) hS.2.2 dX9_plain_65
              ·
                have c7 := z_eq (i := p0.toInt) (j := 6) rfl (by decide) c7
                refine lv_iconst (v := (-1)) hx hb dX9_plain_60 (by decide) ?_
                refine lv_goto (tgt := 65) hx hb dX9_plain_61 (by decide) ?_
                subst hQ9
                refine lv_topi (fun t10 et10 => ?_)
                have ht10 : t10.toInt = (-1) := by rw [et10]; decide
                have hq11 : (p0.toInt = 0 → 2 ≤ t10.toInt ∧ t10.toInt ≤ 100) ∧ (p0.toInt = 6 → t10.toInt = -1) := by omega
                exact W.iret (v := t10) hx hb hr (fun t ht hW => ⟨⟨t10, (), rfl, hq11, ⟨by rw [ht]; exact hP, hD⟩⟩, hS.F ht⟩) hS.2.2 dX9_plain_65
            ·
              have c6 := z_eq (i := p0.toInt) (j := 5) rfl (by decide) c6
              refine lv_iconst (v := 1) hx hb dX9_plain_50 (by decide) ?_
              refine lv_goto (tgt := 65) hx hb dX9_plain_51 (by decide) ?_
              subst hQ9
              refine lv_topi (fun t12 et12 => ?_)
              have ht12 : t12.toInt = 1 := by rw [et12]; decide
              have hq13 : (p0.toInt = 0 → 2 ≤ t12.toInt ∧ t12.toInt ≤ 100) ∧ (p0.toInt = 6 → t12.toInt = -1) := by omega
              exact W.iret (v := t12) hx hb hr (fun t ht hW => ⟨⟨t12, (), rfl, hq13, ⟨by rw [ht]; exact hP, hD⟩⟩, hS.F ht⟩) hS.2.2 dX9_plain_65
          ·
            have c5 := z_eq (i := p0.toInt) (j := 4) rfl (by decide) c5
            refine lv_iconst (v := 0) hx hb dX9_plain_41 (by decide) ?_
            refine lv_goto (tgt := 65) hx hb dX9_plain_42 (by decide) ?_
            subst hQ9
            refine lv_topi (fun t14 et14 => ?_)
            have ht14 : t14.toInt = 0 := by rw [et14]; decide
            have hq15 : (p0.toInt = 0 → 2 ≤ t14.toInt ∧ t14.toInt ≤ 100) ∧ (p0.toInt = 6 → t14.toInt = -1) := by omega
            exact W.iret (v := t14) hx hb hr (fun t ht hW => ⟨⟨t14, (), rfl, hq15, ⟨by rw [ht]; exact hP, hD⟩⟩, hS.F ht⟩) hS.2.2 dX9_plain_65
        ·
          have c4 := z_eq (i := p0.toInt) (j := 3) rfl (by decide) c4
          refine lv_iconst (v := 3) hx hb dX9_plain_32 (by decide) ?_
          refine lv_goto (tgt := 65) hx hb dX9_plain_33 (by decide) ?_
          subst hQ9
          refine lv_topi (fun t16 et16 => ?_)
          have ht16 : t16.toInt = 3 := by rw [et16]; decide
          have hq17 : (p0.toInt = 0 → 2 ≤ t16.toInt ∧ t16.toInt ≤ 100) ∧ (p0.toInt = 6 → t16.toInt = -1) := by omega
          exact W.iret (v := t16) hx hb hr (fun t ht hW => ⟨⟨t16, (), rfl, hq17, ⟨by rw [ht]; exact hP, hD⟩⟩, hS.F ht⟩) hS.2.2 dX9_plain_65
      ·
        have c3 := z_eq (i := p0.toInt) (j := 2) rfl (by decide) c3
        refine lv_iconst (v := 2) hx hb dX9_plain_23 (by decide) ?_
        refine lv_goto (tgt := 65) hx hb dX9_plain_24 (by decide) ?_
        subst hQ9
        refine lv_topi (fun t18 et18 => ?_)
        have ht18 : t18.toInt = 2 := by rw [et18]; decide
        have hq19 : (p0.toInt = 0 → 2 ≤ t18.toInt ∧ t18.toInt ≤ 100) ∧ (p0.toInt = 6 → t18.toInt = -1) := by omega
        exact W.iret (v := t18) hx hb hr (fun t ht hW => ⟨⟨t18, (), rfl, hq19, ⟨by rw [ht]; exact hP, hD⟩⟩, hS.F ht⟩) hS.2.2 dX9_plain_65
    ·
      have c2 := z_eq (i := p0.toInt) (j := 1) rfl (by decide) c2
      refine lv_iconst (v := 4) hx hb dX9_plain_14 (by decide) ?_
      refine lv_goto (tgt := 65) hx hb dX9_plain_15 (by decide) ?_
      subst hQ9
      refine lv_topi (fun t20 et20 => ?_)
      have ht20 : t20.toInt = 4 := by rw [et20]; decide
      have hq21 : (p0.toInt = 0 → 2 ≤ t20.toInt ∧ t20.toInt ≤ 100) ∧ (p0.toInt = 6 → t20.toInt = -1) := by omega
      exact W.iret (v := t20) hx hb hr (fun t ht hW => ⟨⟨t20, (), rfl, hq21, ⟨by rw [ht]; exact hP, hD⟩⟩, hS.F ht⟩) hS.2.2 dX9_plain_65
  ·
    have c1 := z_eq (i := p0.toInt) (j := 0) rfl (by decide) c1
    refine lv_bipush (v := 20) hx hb dX9_plain_4 (by decide) ?_
    refine lv_goto (tgt := 65) hx hb dX9_plain_6 (by decide) ?_
    subst hQ9
    refine lv_topi (fun t22 et22 => ?_)
    have ht22 : t22.toInt = 20 := by rw [et22]; decide
    have hq23 : (p0.toInt = 0 → 2 ≤ t22.toInt ∧ t22.toInt ≤ 100) ∧ (p0.toInt = 6 → t22.toInt = -1) := by omega
    exact W.iret (v := t22) hx hb hr (fun t ht hW => ⟨⟨t22, (), rfl, hq23, ⟨by rw [ht]; exact hP, hD⟩⟩, hS.F ht⟩) hS.2.2 dX9_plain_65

set_option maxHeartbeats 8000000 in
set_option maxRecDepth 100000 in
theorem c_X9_low (l : Launch) (D : va_G) (ca : Nat → ClassId) (sa : Nat → Nat) (A : Nat → Prop) (rest : va_W) (p0 : Int32) : Met l yX9_low wsX9_low ({ frames := 0, cells := 0, slots := 0, locals := 0 }) (va_Pc [.int p0] (zPre D ca sa A (rest))) (va_Qi (fun (r : Int32) (u : Unit) => ((p0.toInt = 0 → r.toInt = 2) ∧ (p0.toInt = 6 → r.toInt = 1) ∧ 0 ≤ r.toInt ∧ r.toInt ≤ 2)) (fun u t => zPost D A (rest) t) A) 0 0 A := by
  refine Met.ofW (cc := cX9_low) (maxL := 1) (ret := (some .int)) (by decide) rfl ?_
  intro p e s m args below meth c s₁ B hml hv9
  obtain ⟨rfl, hE, hP, hD⟩ := hv9
  have hx := B.exec
  have hb := B.bytes
  have hr := B.returns
  have hts := atoms_spec (ws := wsX9_low) B.pre
  have hown : s.vm.findClass RX9 = some m.cls := findClass_of_methodNamed B.named
  have hlocks := B.notSynchronized
  have hK := hE.1
  have hF : CallFix p m c cX9_low 1 s _ wsX9_low RX9 := ⟨hx, hb, hml, hown, hts⟩
  have hS : va_S A s.heap s.heap [] := va_S.rf
  generalize hHe : s.heap = H at hP
  have hS : va_S A s.heap H [] := by rw [← hHe]; exact hS
  have hl := lv_entry ([.int p0]) (n := 1) (Nat.le_of_ble_eq_true rfl)
  rw [lg_entry_eq]
  generalize (lg_sl ([.int p0]) ++ List.replicate (1 - (lg_sl ([.int p0])).length) Slot.unset).toArray = ls at hl ⊢
  have hl : lv_has ls 1 [(0, .int p0)] := hl
  generalize hQ9 : MQ below _ _ s 0 0 A = Q9
  refine lv_iload_n hx hb dX9_low_0 rfl (lv_at hl 0 rfl) ?_
  refine lv_if_ne (tgt := 8) hx hb dX9_low_1 (by decide) (fun c1 => ?_) (fun c1 => ?_)
  ·
    have c1 := z_ne (i := p0.toInt) (j := 0) rfl (by decide) c1
    refine lv_iload_n hx hb dX9_low_8 rfl (lv_at hl 0 rfl) ?_
    refine lv_iconst (v := 1) hx hb dX9_low_9 (by decide) ?_
    have J24_2 : ∀ (ls : Array Slot) (hl : lv_has ls 1 []), W p l e (headSpec wsX9_low ({ frames := 0, cells := 0, slots := 0, locals := 0 })).room s m ([.int p0] : List Value).toArray below meth c H [] 0 0 Q9 (F0 m 24 ls []) := by
      intro ls hl
      refine lv_iconst (v := 1) hx hb dX9_low_24 (by decide) ?_
      refine lv_goto (tgt := 29) hx hb dX9_low_25 (by decide) ?_
      subst hQ9
      refine lv_topi (fun t3 et3 => ?_)
      have ht3 : t3.toInt = 1 := by rw [et3]; decide
      have hq4 : (p0.toInt = 0 → t3.toInt = 2) ∧ (p0.toInt = 6 → t3.toInt = 1) ∧ 0 ≤ t3.toInt ∧ t3.toInt ≤ 2 := by omega
      exact W.iret (v := t3) hx hb hr (fun t ht hW => ⟨⟨t3, (), rfl, hq4, ⟨by rw [ht]; exact hP, hD⟩⟩, hS.F ht⟩) hS.2.2 dX9_low_29
    refine lv_icmp_eq (tgt := 24) hx hb dX9_low_10 (by decide) (fun c5 => ?_) (fun c5 => ?_)
    ·
      have c5 := z_eq (i := p0.toInt) (j := 1) rfl (by decide) c5
      exact J24_2 ls (lv_sub hl [] rfl)
    ·
      have c5 := z_ne (i := p0.toInt) (j := 1) rfl (by decide) c5
      refine lv_iload_n hx hb dX9_low_13 rfl (lv_at hl 0 rfl) ?_
      refine lv_iconst (v := 3) hx hb dX9_low_14 (by decide) ?_
      refine lv_icmp_eq (tgt := 24) hx hb dX9_low_15 (by decide) (fun c6 => ?_) (fun c6 => ?_)
      ·
        have c6 := z_eq (i := p0.toInt) (j := 3) rfl (by decide) c6
        exact J24_2 ls (lv_sub hl [] rfl)
      ·
        have c6 := z_ne (i := p0.toInt) (j := 3) rfl (by decide) c6
        refine lv_iload_n hx hb dX9_low_18 rfl (lv_at hl 0 rfl) ?_
        refine lv_bipush (v := 6) hx hb dX9_low_19 (by decide) ?_
        refine lv_icmp_ne (tgt := 28) hx hb dX9_low_21 (by decide) (fun c7 => ?_) (fun c7 => ?_)
        ·
          have c7 := z_ne (i := p0.toInt) (j := 6) rfl (by decide) c7
          refine lv_iconst (v := 0) hx hb dX9_low_28 (by decide) ?_
          subst hQ9
          refine lv_topi (fun t8 et8 => ?_)
          have ht8 : t8.toInt = 0 := by rw [et8]; decide
          have hq9 : (p0.toInt = 0 → t8.toInt = 2) ∧ (p0.toInt = 6 → t8.toInt = 1) ∧ 0 ≤ t8.toInt ∧ t8.toInt ≤ 2 := by omega
          exact W.iret (v := t8) hx hb hr (fun t ht hW => ⟨⟨t8, (), rfl, hq9, ⟨by rw [ht]; exact hP, hD⟩⟩, hS.F ht⟩) hS.2.2 dX9_low_29
        ·
          have c7 := z_eq (i := p0.toInt) (j := 6) rfl (by decide) c7
          exact J24_2 ls (lv_sub hl [] rfl)
  ·
    have c1 := z_eq (i := p0.toInt) (j := 0) rfl (by decide) c1
    refine lv_iconst (v := 2) hx hb dX9_low_4 (by decide) ?_
    refine lv_goto (tgt := 29) hx hb dX9_low_5 (by decide) ?_
    subst hQ9
    refine lv_topi (fun t10 et10 => ?_)
    have ht10 : t10.toInt = 2 := by rw [et10]; decide
    have hq11 : (p0.toInt = 0 → t10.toInt = 2) ∧ (p0.toInt = 6 → t10.toInt = 1) ∧ 0 ≤ t10.toInt ∧ t10.toInt ≤ 2 := by omega
    exact W.iret (v := t10) hx hb hr (fun t ht hW => ⟨⟨t10, (), rfl, hq11, ⟨by rw [ht]; exact hP, hD⟩⟩, hS.F ht⟩) hS.2.2 dX9_low_29

set_option maxHeartbeats 8000000 in
set_option maxRecDepth 100000 in
theorem c_X9_high (l : Launch) (D : va_G) (ca : Nat → ClassId) (sa : Nat → Nat) (A : Nat → Prop) (rest : va_W) (p0 : Int32) : Met l yX9_high wsX9_high ({ frames := 0, cells := 0, slots := 0, locals := 0 }) (va_Pc [.int p0] (zPre D ca sa A (rest))) (va_Qi (fun (r : Int32) (u : Unit) => (9 ≤ r.toInt ∧ r.toInt ≤ 100 ∧ (p0.toInt = 6 → r.toInt = 50))) (fun u t => zPost D A (rest) t) A) 0 0 A := by
  refine Met.ofW (cc := cX9_high) (maxL := 1) (ret := (some .int)) (by decide) rfl ?_
  intro p e s m args below meth c s₁ B hml hv9
  obtain ⟨rfl, hE, hP, hD⟩ := hv9
  have hx := B.exec
  have hb := B.bytes
  have hr := B.returns
  have hts := atoms_spec (ws := wsX9_high) B.pre
  have hown : s.vm.findClass RX9 = some m.cls := findClass_of_methodNamed B.named
  have hlocks := B.notSynchronized
  have hK := hE.1
  have hF : CallFix p m c cX9_high 1 s _ wsX9_high RX9 := ⟨hx, hb, hml, hown, hts⟩
  have hS : va_S A s.heap s.heap [] := va_S.rf
  generalize hHe : s.heap = H at hP
  have hS : va_S A s.heap H [] := by rw [← hHe]; exact hS
  have hl := lv_entry ([.int p0]) (n := 1) (Nat.le_of_ble_eq_true rfl)
  rw [lg_entry_eq]
  generalize (lg_sl ([.int p0]) ++ List.replicate (1 - (lg_sl ([.int p0])).length) Slot.unset).toArray = ls at hl ⊢
  have hl : lv_has ls 1 [(0, .int p0)] := hl
  generalize hQ9 : MQ below _ _ s 0 0 A = Q9
  refine lv_iload_n hx hb dX9_high_0 rfl (lv_at hl 0 rfl) ?_
  refine lv_if_ne (tgt := 9) hx hb dX9_high_1 (by decide) (fun c1 => ?_) (fun c1 => ?_)
  ·
    have c1 := z_ne (i := p0.toInt) (j := 0) rfl (by decide) c1
    refine lv_iload_n hx hb dX9_high_9 rfl (lv_at hl 0 rfl) ?_
    refine lv_iconst (v := 3) hx hb dX9_high_10 (by decide) ?_
    have J19_2 : ∀ (ls : Array Slot) (hl : lv_has ls 1 []) (hf2_0 : p0.toInt = 3 ∨ p0.toInt = 5), W p l e (headSpec wsX9_high ({ frames := 0, cells := 0, slots := 0, locals := 0 })).room s m ([.int p0] : List Value).toArray below meth c H [] 0 0 Q9 (F0 m 19 ls []) := by
      intro ls hl hf2_0
      refine lv_bipush (v := 9) hx hb dX9_high_19 (by decide) ?_
      refine lv_goto (tgt := 26) hx hb dX9_high_21 (by decide) ?_
      subst hQ9
      refine lv_topi (fun t3 et3 => ?_)
      have ht3 : t3.toInt = 9 := by rw [et3]; decide
      have hq4 : 9 ≤ t3.toInt ∧ t3.toInt ≤ 100 ∧ (p0.toInt = 6 → t3.toInt = 50) := by omega
      exact W.iret (v := t3) hx hb hr (fun t ht hW => ⟨⟨t3, (), rfl, hq4, ⟨by rw [ht]; exact hP, hD⟩⟩, hS.F ht⟩) hS.2.2 dX9_high_26
    refine lv_icmp_eq (tgt := 19) hx hb dX9_high_11 (by decide) (fun c5 => ?_) (fun c5 => ?_)
    ·
      have c5 := z_eq (i := p0.toInt) (j := 3) rfl (by decide) c5
      have hj6 : p0.toInt = 3 ∨ p0.toInt = 5 := by omega
      exact J19_2 ls (lv_sub hl [] rfl) hj6
    ·
      have c5 := z_ne (i := p0.toInt) (j := 3) rfl (by decide) c5
      refine lv_iload_n hx hb dX9_high_14 rfl (lv_at hl 0 rfl) ?_
      refine lv_iconst (v := 5) hx hb dX9_high_15 (by decide) ?_
      refine lv_icmp_ne (tgt := 24) hx hb dX9_high_16 (by decide) (fun c7 => ?_) (fun c7 => ?_)
      ·
        have c7 := z_ne (i := p0.toInt) (j := 5) rfl (by decide) c7
        refine lv_bipush (v := 50) hx hb dX9_high_24 (by decide) ?_
        subst hQ9
        refine lv_topi (fun t8 et8 => ?_)
        have ht8 : t8.toInt = 50 := by rw [et8]; decide
        have hq9 : 9 ≤ t8.toInt ∧ t8.toInt ≤ 100 ∧ (p0.toInt = 6 → t8.toInt = 50) := by omega
        exact W.iret (v := t8) hx hb hr (fun t ht hW => ⟨⟨t8, (), rfl, hq9, ⟨by rw [ht]; exact hP, hD⟩⟩, hS.F ht⟩) hS.2.2 dX9_high_26
      ·
        have c7 := z_eq (i := p0.toInt) (j := 5) rfl (by decide) c7
        have hj10 : p0.toInt = 3 ∨ p0.toInt = 5 := by omega
        exact J19_2 ls (lv_sub hl [] rfl) hj10
  ·
    have c1 := z_eq (i := p0.toInt) (j := 0) rfl (by decide) c1
    refine lv_bipush (v := 100) hx hb dX9_high_4 (by decide) ?_
    refine lv_goto (tgt := 26) hx hb dX9_high_6 (by decide) ?_
    subst hQ9
    refine lv_topi (fun t11 et11 => ?_)
    have ht11 : t11.toInt = 100 := by rw [et11]; decide
    have hq12 : 9 ≤ t11.toInt ∧ t11.toInt ≤ 100 ∧ (p0.toInt = 6 → t11.toInt = 50) := by omega
    exact W.iret (v := t11) hx hb hr (fun t ht hW => ⟨⟨t11, (), rfl, hq12, ⟨by rw [ht]; exact hP, hD⟩⟩, hS.F ht⟩) hS.2.2 dX9_high_26

set_option maxHeartbeats 8000000 in
set_option maxRecDepth 100000 in
theorem c_X9_isChange (l : Launch) (D : va_G) (ca : Nat → ClassId) (sa : Nat → Nat) (A : Nat → Prop) (rest : va_W) (r0 : Nat → Nat) (fi0 : Nat → Int32) (fl0 : Nat → Int64) (fa0 : Nat → Nat → Int32) (fb0 : Nat → Nat → Int64) (hv0 : Ok_MOD fi0 fa0) (p1 : Int32) : Met l yX9_isChange wsX9_isChange ({ frames := 1, cells := 0, slots := 0, locals := 22 }) (va_Pc [.ref (r0 0), .int p1] (zPre D ca sa A (w_MOD ca r0 fi0 fl0 fa0 fb0 (rest)))) (va_Qi (fun (r : Int32) (u : Unit) => ((r.toInt = 1 ∧ 0 ≤ p1.toInt ∧ p1.toInt < (fi0 9).toInt) ∨ (r.toInt = 0 ∧ (p1.toInt < 0 ∨ (fi0 9).toInt ≤ p1.toInt)))) (fun u t => zPost D A (w_MOD ca r0 fi0 fl0 fa0 fb0 (rest)) t) A) 0 0 A := by
  refine Met.ofW (cc := cX9_isChange) (maxL := 2) (ret := (some .boolean)) (by decide) rfl ?_
  intro p e s m args below meth c s₁ B hml hv9
  obtain ⟨rfl, hE, hP, hD⟩ := hv9
  have hx := B.exec
  have hb := B.bytes
  have hr := B.returns
  have hts := atoms_spec (ws := wsX9_isChange) B.pre
  have hown : s.vm.findClass RX9 = some m.cls := findClass_of_methodNamed B.named
  have hlocks := B.notSynchronized
  have hK := hE.1
  have hF : CallFix p m c cX9_isChange 2 s _ wsX9_isChange RX9 := ⟨hx, hb, hml, hown, hts⟩
  have hS : va_S A s.heap s.heap [] := va_S.rf
  have lk192 := hts (.fieldLink RX9 192 "BranchPlayModel" "changes" "I") (by decide +kernel)
  have inX9 : ∀ w ∈ wsX90, w ∈ wsX9_isChange := by decide +kernel
  obtain ⟨⟨hv0i0, hv0j0⟩, ⟨hv0i1, hv0j1⟩, ⟨hv0i5, hv0j5⟩, ⟨hv0i9, hv0j9⟩, hv0a6, hv0a8, hv0a9, hv0a23, hv0a27, hv0a28, hv0x0, hv0y0⟩ := hv0
  generalize hHe : s.heap = H at hP
  have hS : va_S A s.heap H [] := by rw [← hHe]; exact hS
  have hP : va_P D vwCl (((r0 0), .inr (9, [.ref (r0 1), .int (fi0 0), .int (fi0 1), .int (fi0 2), .int (fi0 3), .int (fi0 4), .int (fi0 5), .int (fi0 6), .int (fi0 7), .int (fi0 8), .ref (r0 2), .int (fi0 9), .ref (r0 3), .ref (r0 4), .ref (r0 5), .ref (r0 6), .ref (r0 7), .ref (r0 8), .ref (r0 9), .ref (r0 10), .ref (r0 11), .ref (r0 12), .ref (r0 13), .ref (r0 14), .ref (r0 15), .ref (r0 16), .ref (r0 17), .ref (r0 18), .ref (r0 19), .ref (r0 20), .ref (r0 21), .ref (r0 22), .ref (r0 23), .ref (r0 24), .ref (r0 25), .ref (r0 26), .ref (r0 27), .ref (r0 28), .ref (r0 29), .ref (r0 30), .ref (r0 31), .ref (r0 32), .int (fi0 10), .ref (r0 33)])) :: ((r0 1), .inl (ca 2, 600, .inl (fa0 0))) :: ((r0 2), .inl (ca 0, 48, .inl (fa0 1))) :: ((r0 3), .inl (ca 0, 60, .inl (fa0 2))) :: ((r0 4), .inl (ca 0, 60, .inl (fa0 3))) :: ((r0 5), .inl (ca 0, 60, .inl (fa0 4))) :: ((r0 6), .inl (ca 0, 60, .inl (fa0 5))) :: ((r0 7), .inl (ca 0, 60, .inl (fa0 6))) :: ((r0 8), .inl (ca 0, 60, .inl (fa0 7))) :: ((r0 9), .inl (ca 0, 180, .inl (fa0 8))) :: ((r0 10), .inl (ca 0, 60, .inl (fa0 9))) :: ((r0 11), .inl (ca 0, 180, .inl (fa0 10))) :: ((r0 12), .inl (ca 0, 180, .inl (fa0 11))) :: ((r0 13), .inl (ca 0, 180, .inl (fa0 12))) :: ((r0 14), .inl (ca 0, 180, .inl (fa0 13))) :: ((r0 15), .inl (ca 0, 180, .inl (fa0 14))) :: ((r0 16), .inl (ca 0, 180, .inl (fa0 15))) :: ((r0 17), .inl (ca 0, 180, .inl (fa0 16))) :: ((r0 18), .inl (ca 0, 180, .inl (fa0 17))) :: ((r0 19), .inl (ca 0, 180, .inl (fa0 18))) :: ((r0 20), .inl (ca 0, 180, .inl (fa0 19))) :: ((r0 21), .inl (ca 0, 3, .inl (fa0 20))) :: ((r0 22), .inl (ca 1, 3, .inr (.inl (fb0 0)))) :: ((r0 23), .inl (ca 1, 3, .inr (.inl (fb0 1)))) :: ((r0 24), .inl (ca 3, 3, .inl (fa0 21))) :: ((r0 25), .inl (ca 0, 3, .inl (fa0 22))) :: ((r0 26), .inl (ca 0, 3, .inl (fa0 23))) :: ((r0 27), .inl (ca 0, 810, .inl (fa0 24))) :: ((r0 28), .inl (ca 3, 810, .inl (fa0 25))) :: ((r0 29), .inl (ca 1, 810, .inr (.inl (fb0 2)))) :: ((r0 30), .inl (ca 0, 810, .inl (fa0 26))) :: ((r0 31), .inl (ca 0, 3, .inl (fa0 27))) :: ((r0 32), .inl (ca 0, 60, .inl (fa0 28))) :: ((r0 33), .inl (ca 0, 4, .inl (fa0 29))) :: rest) H := hP
  have hD : va_D A (((r0 0), .inr (9, [.ref (r0 1), .int (fi0 0), .int (fi0 1), .int (fi0 2), .int (fi0 3), .int (fi0 4), .int (fi0 5), .int (fi0 6), .int (fi0 7), .int (fi0 8), .ref (r0 2), .int (fi0 9), .ref (r0 3), .ref (r0 4), .ref (r0 5), .ref (r0 6), .ref (r0 7), .ref (r0 8), .ref (r0 9), .ref (r0 10), .ref (r0 11), .ref (r0 12), .ref (r0 13), .ref (r0 14), .ref (r0 15), .ref (r0 16), .ref (r0 17), .ref (r0 18), .ref (r0 19), .ref (r0 20), .ref (r0 21), .ref (r0 22), .ref (r0 23), .ref (r0 24), .ref (r0 25), .ref (r0 26), .ref (r0 27), .ref (r0 28), .ref (r0 29), .ref (r0 30), .ref (r0 31), .ref (r0 32), .int (fi0 10), .ref (r0 33)])) :: ((r0 1), .inl (ca 2, 600, .inl (fa0 0))) :: ((r0 2), .inl (ca 0, 48, .inl (fa0 1))) :: ((r0 3), .inl (ca 0, 60, .inl (fa0 2))) :: ((r0 4), .inl (ca 0, 60, .inl (fa0 3))) :: ((r0 5), .inl (ca 0, 60, .inl (fa0 4))) :: ((r0 6), .inl (ca 0, 60, .inl (fa0 5))) :: ((r0 7), .inl (ca 0, 60, .inl (fa0 6))) :: ((r0 8), .inl (ca 0, 60, .inl (fa0 7))) :: ((r0 9), .inl (ca 0, 180, .inl (fa0 8))) :: ((r0 10), .inl (ca 0, 60, .inl (fa0 9))) :: ((r0 11), .inl (ca 0, 180, .inl (fa0 10))) :: ((r0 12), .inl (ca 0, 180, .inl (fa0 11))) :: ((r0 13), .inl (ca 0, 180, .inl (fa0 12))) :: ((r0 14), .inl (ca 0, 180, .inl (fa0 13))) :: ((r0 15), .inl (ca 0, 180, .inl (fa0 14))) :: ((r0 16), .inl (ca 0, 180, .inl (fa0 15))) :: ((r0 17), .inl (ca 0, 180, .inl (fa0 16))) :: ((r0 18), .inl (ca 0, 180, .inl (fa0 17))) :: ((r0 19), .inl (ca 0, 180, .inl (fa0 18))) :: ((r0 20), .inl (ca 0, 180, .inl (fa0 19))) :: ((r0 21), .inl (ca 0, 3, .inl (fa0 20))) :: ((r0 22), .inl (ca 1, 3, .inr (.inl (fb0 0)))) :: ((r0 23), .inl (ca 1, 3, .inr (.inl (fb0 1)))) :: ((r0 24), .inl (ca 3, 3, .inl (fa0 21))) :: ((r0 25), .inl (ca 0, 3, .inl (fa0 22))) :: ((r0 26), .inl (ca 0, 3, .inl (fa0 23))) :: ((r0 27), .inl (ca 0, 810, .inl (fa0 24))) :: ((r0 28), .inl (ca 3, 810, .inl (fa0 25))) :: ((r0 29), .inl (ca 1, 810, .inr (.inl (fb0 2)))) :: ((r0 30), .inl (ca 0, 810, .inl (fa0 26))) :: ((r0 31), .inl (ca 0, 3, .inl (fa0 27))) :: ((r0 32), .inl (ca 0, 60, .inl (fa0 28))) :: ((r0 33), .inl (ca 0, 4, .inl (fa0 29))) :: rest) := hD
  have hl := lv_entry ([.ref (r0 0), .int p1]) (n := 2) (Nat.le_of_ble_eq_true rfl)
  rw [lg_entry_eq]
  generalize (lg_sl ([.ref (r0 0), .int p1]) ++ List.replicate (2 - (lg_sl ([.ref (r0 0), .int p1])).length) Slot.unset).toArray = ls at hl ⊢
  have hl : lv_has ls 2 [(0, .ref (r0 0)), (1, .int p1)] := hl
  generalize hQ9 : MQ below _ _ s 0 0 A = Q9
  refine lv_iload_n hx hb dX9_isChange_0 rfl (lv_at hl 1 rfl) ?_
  refine lv_iconst (v := 0) hx hb dX9_isChange_1 (by decide) ?_
  refine lv_aload_n hx hb dX9_isChange_2 rfl (lv_at hl 0 rfl) ?_
  refine va_get (D := D) (ci := 9) (v := .int (fi0 9)) (C := RX9) (T := TX9) (N := 44) hx hb hts inX9 hown hK hP 0 rfl rfl 11 (by decide) lk192 (fun _ h9 => h9) rfl dX9_isChange_3 ?_
  refine lv_iconst (v := 1) hx hb dX9_isChange_6 (by decide) ?_
  refine lv_isub hx hb dX9_isChange_7 ?_
  refine lv_topi (fun t1 et1 => ?_)
  try have ht1 : t1.toInt = (fi0 9).toInt - 1 := z_sub et1 rfl (by decide) (by omega) (by omega)
  refine z_iS (As := [.int p1, .int 0, .int t1]) (rest := []) hF (c_X9_in l D ca sa A _ p1 0 t1) (va_cwS 3 hts gX9_isChange_X9_in rfl rfl rfl (by decide +kernel) ⟨Nat.le_of_ble_eq_true rfl, Nat.le_of_ble_eq_true rfl⟩) hE hP hD hS rfl hl.1 rfl (Nat.le_of_ble_eq_true rfl) dX9_isChange_8 ⟨Nat.zero_le _, Nat.zero_le _⟩ (fun t3 u2 H locs hw4 hP hD hS => ?_)
  have hw4 : ((t3.toInt = 1 ∧ 0 ≤ p1.toInt ∧ p1.toInt ≤ t1.toInt) ∨ (t3.toInt = 0 ∧ (p1.toInt < 0 ∨ t1.toInt < p1.toInt))) := hw4
  obtain hq5 := hw4
  subst hQ9
  have hq6 : (t3.toInt = 1 ∧ 0 ≤ p1.toInt ∧ p1.toInt < (fi0 9).toInt) ∨ (t3.toInt = 0 ∧ (p1.toInt < 0 ∨ (fi0 9).toInt ≤ p1.toInt)) := by omega
  have hz7 : narrow .boolean (.int t3) = .int t3 := z_nz (by constructor <;> omega)
  exact W.zret (v := t3) hx hb hr hz7 (fun t ht hW => ⟨⟨t3, (), rfl, hq6, ⟨by rw [ht]; exact hP, hD⟩⟩, hS.F ht⟩) hS.2.2 dX9_isChange_11

set_option maxHeartbeats 8000000 in
set_option maxRecDepth 100000 in
theorem c_X9_prices (l : Launch) (D : va_G) (ca : Nat → ClassId) (sa : Nat → Nat) (A : Nat → Prop) (rest : va_W) (r0 : Nat → Nat) (fi0 : Nat → Int32) (fl0 : Nat → Int64) (fa0 : Nat → Nat → Int32) (fb0 : Nat → Nat → Int64) (hv0 : Ok_MOD fi0 fa0) (p1 : Int32) (p2 : Int32) (p3 : Int32) (p4 : Int32) : Met l yX9_prices wsX9_prices ({ frames := 1, cells := 0, slots := 0, locals := 22 }) (va_Pc [.ref (r0 0), .int p1, .int p2, .int p3, .int p4] (zPre D ca sa A (w_MOD ca r0 fi0 fl0 fa0 fb0 (rest)))) (va_Qi (fun (r : Int32) (u : zS) => Ok_MOD (zx [] fi0 u.1) (zx [29] fa0 u.2.2.1) ∧ (((0 ≤ p1.toInt ∧ p1.toInt ≤ 1000 ∧ 0 ≤ p2.toInt ∧ p2.toInt ≤ 1000 ∧ 0 ≤ p3.toInt ∧ p3.toInt ≤ 1000 ∧ 0 ≤ p4.toInt ∧ p4.toInt ≤ 1000) ∧ r.toInt = 1) ∨ (¬ (0 ≤ p1.toInt ∧ p1.toInt ≤ 1000 ∧ 0 ≤ p2.toInt ∧ p2.toInt ≤ 1000 ∧ 0 ≤ p3.toInt ∧ p3.toInt ≤ 1000 ∧ 0 ≤ p4.toInt ∧ p4.toInt ≤ 1000) ∧ r.toInt = -2))) (fun u t => zPost D A (w_MOD ca r0 (zx [] fi0 u.1) (zx [] fl0 u.2.1) (zx [29] fa0 u.2.2.1) (zx [] fb0 u.2.2.2) (rest)) t) A) 0 0 A := by
  refine Met.ofW (cc := cX9_prices) (maxL := 5) (ret := (some .int)) (by decide) rfl ?_
  intro p e s m args below meth c s₁ B hml hv9
  obtain ⟨rfl, hE, hP, hD⟩ := hv9
  have hx := B.exec
  have hb := B.bytes
  have hr := B.returns
  have hts := atoms_spec (ws := wsX9_prices) B.pre
  have hown : s.vm.findClass RX9 = some m.cls := findClass_of_methodNamed B.named
  have hlocks := B.notSynchronized
  have hK := hE.1
  have hF : CallFix p m c cX9_prices 5 s _ wsX9_prices RX9 := ⟨hx, hb, hml, hown, hts⟩
  have hS : va_S A s.heap s.heap [] := va_S.rf
  have lk116 := hts (.fieldLink RX9 116 "BranchPlayModel" "price" "[I") (by decide +kernel)
  have inX9 : ∀ w ∈ wsX90, w ∈ wsX9_prices := by decide +kernel
  obtain ⟨⟨hv0i0, hv0j0⟩, ⟨hv0i1, hv0j1⟩, ⟨hv0i5, hv0j5⟩, ⟨hv0i9, hv0j9⟩, hv0a6, hv0a8, hv0a9, hv0a23, hv0a27, hv0a28, hv0x0, hv0y0⟩ := hv0
  generalize hHe : s.heap = H at hP
  have hS : va_S A s.heap H [] := by rw [← hHe]; exact hS
  have hP : va_P D vwCl (((r0 0), .inr (9, [.ref (r0 1), .int (fi0 0), .int (fi0 1), .int (fi0 2), .int (fi0 3), .int (fi0 4), .int (fi0 5), .int (fi0 6), .int (fi0 7), .int (fi0 8), .ref (r0 2), .int (fi0 9), .ref (r0 3), .ref (r0 4), .ref (r0 5), .ref (r0 6), .ref (r0 7), .ref (r0 8), .ref (r0 9), .ref (r0 10), .ref (r0 11), .ref (r0 12), .ref (r0 13), .ref (r0 14), .ref (r0 15), .ref (r0 16), .ref (r0 17), .ref (r0 18), .ref (r0 19), .ref (r0 20), .ref (r0 21), .ref (r0 22), .ref (r0 23), .ref (r0 24), .ref (r0 25), .ref (r0 26), .ref (r0 27), .ref (r0 28), .ref (r0 29), .ref (r0 30), .ref (r0 31), .ref (r0 32), .int (fi0 10), .ref (r0 33)])) :: ((r0 1), .inl (ca 2, 600, .inl (fa0 0))) :: ((r0 2), .inl (ca 0, 48, .inl (fa0 1))) :: ((r0 3), .inl (ca 0, 60, .inl (fa0 2))) :: ((r0 4), .inl (ca 0, 60, .inl (fa0 3))) :: ((r0 5), .inl (ca 0, 60, .inl (fa0 4))) :: ((r0 6), .inl (ca 0, 60, .inl (fa0 5))) :: ((r0 7), .inl (ca 0, 60, .inl (fa0 6))) :: ((r0 8), .inl (ca 0, 60, .inl (fa0 7))) :: ((r0 9), .inl (ca 0, 180, .inl (fa0 8))) :: ((r0 10), .inl (ca 0, 60, .inl (fa0 9))) :: ((r0 11), .inl (ca 0, 180, .inl (fa0 10))) :: ((r0 12), .inl (ca 0, 180, .inl (fa0 11))) :: ((r0 13), .inl (ca 0, 180, .inl (fa0 12))) :: ((r0 14), .inl (ca 0, 180, .inl (fa0 13))) :: ((r0 15), .inl (ca 0, 180, .inl (fa0 14))) :: ((r0 16), .inl (ca 0, 180, .inl (fa0 15))) :: ((r0 17), .inl (ca 0, 180, .inl (fa0 16))) :: ((r0 18), .inl (ca 0, 180, .inl (fa0 17))) :: ((r0 19), .inl (ca 0, 180, .inl (fa0 18))) :: ((r0 20), .inl (ca 0, 180, .inl (fa0 19))) :: ((r0 21), .inl (ca 0, 3, .inl (fa0 20))) :: ((r0 22), .inl (ca 1, 3, .inr (.inl (fb0 0)))) :: ((r0 23), .inl (ca 1, 3, .inr (.inl (fb0 1)))) :: ((r0 24), .inl (ca 3, 3, .inl (fa0 21))) :: ((r0 25), .inl (ca 0, 3, .inl (fa0 22))) :: ((r0 26), .inl (ca 0, 3, .inl (fa0 23))) :: ((r0 27), .inl (ca 0, 810, .inl (fa0 24))) :: ((r0 28), .inl (ca 3, 810, .inl (fa0 25))) :: ((r0 29), .inl (ca 1, 810, .inr (.inl (fb0 2)))) :: ((r0 30), .inl (ca 0, 810, .inl (fa0 26))) :: ((r0 31), .inl (ca 0, 3, .inl (fa0 27))) :: ((r0 32), .inl (ca 0, 60, .inl (fa0 28))) :: ((r0 33), .inl (ca 0, 4, .inl (fa0 29))) :: rest) H := hP
  have hD : va_D A (((r0 0), .inr (9, [.ref (r0 1), .int (fi0 0), .int (fi0 1), .int (fi0 2), .int (fi0 3), .int (fi0 4), .int (fi0 5), .int (fi0 6), .int (fi0 7), .int (fi0 8), .ref (r0 2), .int (fi0 9), .ref (r0 3), .ref (r0 4), .ref (r0 5), .ref (r0 6), .ref (r0 7), .ref (r0 8), .ref (r0 9), .ref (r0 10), .ref (r0 11), .ref (r0 12), .ref (r0 13), .ref (r0 14), .ref (r0 15), .ref (r0 16), .ref (r0 17), .ref (r0 18), .ref (r0 19), .ref (r0 20), .ref (r0 21), .ref (r0 22), .ref (r0 23), .ref (r0 24), .ref (r0 25), .ref (r0 26), .ref (r0 27), .ref (r0 28), .ref (r0 29), .ref (r0 30), .ref (r0 31), .ref (r0 32), .int (fi0 10), .ref (r0 33)])) :: ((r0 1), .inl (ca 2, 600, .inl (fa0 0))) :: ((r0 2), .inl (ca 0, 48, .inl (fa0 1))) :: ((r0 3), .inl (ca 0, 60, .inl (fa0 2))) :: ((r0 4), .inl (ca 0, 60, .inl (fa0 3))) :: ((r0 5), .inl (ca 0, 60, .inl (fa0 4))) :: ((r0 6), .inl (ca 0, 60, .inl (fa0 5))) :: ((r0 7), .inl (ca 0, 60, .inl (fa0 6))) :: ((r0 8), .inl (ca 0, 60, .inl (fa0 7))) :: ((r0 9), .inl (ca 0, 180, .inl (fa0 8))) :: ((r0 10), .inl (ca 0, 60, .inl (fa0 9))) :: ((r0 11), .inl (ca 0, 180, .inl (fa0 10))) :: ((r0 12), .inl (ca 0, 180, .inl (fa0 11))) :: ((r0 13), .inl (ca 0, 180, .inl (fa0 12))) :: ((r0 14), .inl (ca 0, 180, .inl (fa0 13))) :: ((r0 15), .inl (ca 0, 180, .inl (fa0 14))) :: ((r0 16), .inl (ca 0, 180, .inl (fa0 15))) :: ((r0 17), .inl (ca 0, 180, .inl (fa0 16))) :: ((r0 18), .inl (ca 0, 180, .inl (fa0 17))) :: ((r0 19), .inl (ca 0, 180, .inl (fa0 18))) :: ((r0 20), .inl (ca 0, 180, .inl (fa0 19))) :: ((r0 21), .inl (ca 0, 3, .inl (fa0 20))) :: ((r0 22), .inl (ca 1, 3, .inr (.inl (fb0 0)))) :: ((r0 23), .inl (ca 1, 3, .inr (.inl (fb0 1)))) :: ((r0 24), .inl (ca 3, 3, .inl (fa0 21))) :: ((r0 25), .inl (ca 0, 3, .inl (fa0 22))) :: ((r0 26), .inl (ca 0, 3, .inl (fa0 23))) :: ((r0 27), .inl (ca 0, 810, .inl (fa0 24))) :: ((r0 28), .inl (ca 3, 810, .inl (fa0 25))) :: ((r0 29), .inl (ca 1, 810, .inr (.inl (fb0 2)))) :: ((r0 30), .inl (ca 0, 810, .inl (fa0 26))) :: ((r0 31), .inl (ca 0, 3, .inl (fa0 27))) :: ((r0 32), .inl (ca 0, 60, .inl (fa0 28))) :: ((r0 33), .inl (ca 0, 4, .inl (fa0 29))) :: rest) := hD
  have hl := lv_entry ([.ref (r0 0), .int p1, .int p2, .int p3, .int p4]) (n := 5) (Nat.le_of_ble_eq_true rfl)
  rw [lg_entry_eq]
  generalize (lg_sl ([.ref (r0 0), .int p1, .int p2, .int p3, .int p4]) ++ List.replicate (5 - (lg_sl ([.ref (r0 0), .int p1, .int p2, .int p3, .int p4])).length) Slot.unset).toArray = ls at hl ⊢
  have hl : lv_has ls 5 [(0, .ref (r0 0)), (1, .int p1), (2, .int p2), (3, .int p3), (4, .int p4)] := hl
  generalize hQ9 : MQ below _ _ s 0 0 A = Q9
  refine lv_iload_n hx hb dX9_prices_0 rfl (lv_at hl 1 rfl) ?_
  refine lv_iconst (v := 0) hx hb dX9_prices_1 (by decide) ?_
  refine lv_sipush (v := 1000) hx hb dX9_prices_2 (by decide) ?_
  refine z_iS (As := [.int p1, .int 0, .int 1000]) (rest := []) hF (c_X9_in l D ca sa A _ p1 0 1000) (va_cwS 3 hts gX9_prices_X9_in rfl rfl rfl (by decide +kernel) ⟨Nat.le_of_ble_eq_true rfl, Nat.le_of_ble_eq_true rfl⟩) hE hP hD hS rfl hl.1 rfl (Nat.le_of_ble_eq_true rfl) dX9_prices_5 ⟨Nat.zero_le _, Nat.zero_le _⟩ (fun t2 u1 H locs hw3 hP hD hS => ?_)
  have hw3 : ((t2.toInt = 1 ∧ 0 ≤ p1.toInt ∧ p1.toInt ≤ 1000) ∨ (t2.toInt = 0 ∧ (p1.toInt < 0 ∨ 1000 < p1.toInt))) := hw3
  obtain hq4 := hw3
  refine lv_if_eq (tgt := 45) hx hb dX9_prices_8 (by decide) (fun c5 => ?_) (fun c5 => ?_)
  ·
    have c5 := z_eq (i := t2.toInt) (j := 0) rfl (by decide) c5
    refine lv_bipush (v := (-2)) hx hb dX9_prices_45 (by decide) ?_
    subst hQ9
    refine lv_topi (fun t6 et6 => ?_)
    have ht6 : t6.toInt = (-2) := by rw [et6]; decide
    have ho7 : (0 ≤ (fi0 0).toInt ∧ (fi0 0).toInt ≤ 600) ∧ (0 ≤ (fi0 1).toInt ∧ (fi0 1).toInt ≤ 600) ∧ (0 ≤ (fi0 5).toInt ∧ (fi0 5).toInt ≤ 600) ∧ (0 ≤ (fi0 9).toInt ∧ (fi0 9).toInt ≤ 60) ∧ z_rng (-1) 59 (fa0 6) ∧ z_rng 0 59 (fa0 8) ∧ z_rng 0 3 (fa0 9) ∧ z_rng 0 269 (fa0 23) ∧ z_rng 0 5 (fa0 27) ∧ z_rng 0 59 (fa0 28) ∧ ((fi0 2).toInt = 1 → 0 ≤ (fi0 3).toInt) ∧ zOkR (fa0 1) (fa0 27) := ⟨⟨by omega, by omega⟩, ⟨by omega, by omega⟩, ⟨by omega, by omega⟩, ⟨by omega, by omega⟩, hv0a6, hv0a8, hv0a9, hv0a23, hv0a27, hv0a28, by omega, hv0y0⟩
    have hq8 : ((0 ≤ p1.toInt ∧ p1.toInt ≤ 1000 ∧ 0 ≤ p2.toInt ∧ p2.toInt ≤ 1000 ∧ 0 ≤ p3.toInt ∧ p3.toInt ≤ 1000 ∧ 0 ≤ p4.toInt ∧ p4.toInt ≤ 1000) ∧ t6.toInt = 1) ∨ (¬ (0 ≤ p1.toInt ∧ p1.toInt ≤ 1000 ∧ 0 ≤ p2.toInt ∧ p2.toInt ≤ 1000 ∧ 0 ≤ p3.toInt ∧ p3.toInt ≤ 1000 ∧ 0 ≤ p4.toInt ∧ p4.toInt ≤ 1000) ∧ t6.toInt = -2) := by omega
    exact W.iret (v := t6) hx hb hr (fun t ht hW => ⟨⟨t6, ((zl 0 [(fi0 0), (fi0 1), (fi0 2), (fi0 3), (fi0 4), (fi0 5), (fi0 6), (fi0 7), (fi0 8), (fi0 9), (fi0 10)]), (zl 0 []), (zl (fun _ => 0) [(fa0 0), (fa0 1), (fa0 2), (fa0 3), (fa0 4), (fa0 5), (fa0 6), (fa0 7), (fa0 8), (fa0 9), (fa0 10), (fa0 11), (fa0 12), (fa0 13), (fa0 14), (fa0 15), (fa0 16), (fa0 17), (fa0 18), (fa0 19), (fa0 20), (fa0 21), (fa0 22), (fa0 23), (fa0 24), (fa0 25), (fa0 26), (fa0 27), (fa0 28), (fa0 29)]), (zl (fun _ => 0) [(fb0 0), (fb0 1), (fb0 2)])), rfl, ⟨ho7, hq8⟩, ⟨by rw [ht]; exact hP, hD⟩⟩, hS.F ht⟩) hS.2.2 dX9_prices_47
  ·
    have c5 := z_ne (i := t2.toInt) (j := 0) rfl (by decide) c5
    refine lv_iload_n hx hb dX9_prices_11 rfl (lv_at hl 2 rfl) ?_
    refine lv_iconst (v := 0) hx hb dX9_prices_12 (by decide) ?_
    refine lv_sipush (v := 1000) hx hb dX9_prices_13 (by decide) ?_
    refine z_iS (As := [.int p2, .int 0, .int 1000]) (rest := []) hF (c_X9_in l D ca sa A _ p2 0 1000) (va_cwS 3 hts gX9_prices_X9_in rfl rfl rfl (by decide +kernel) ⟨Nat.le_of_ble_eq_true rfl, Nat.le_of_ble_eq_true rfl⟩) hE hP hD hS rfl hl.1 rfl (Nat.le_of_ble_eq_true rfl) dX9_prices_16 ⟨Nat.zero_le _, Nat.zero_le _⟩ (fun t10 u9 H locs hw11 hP hD hS => ?_)
    have hw11 : ((t10.toInt = 1 ∧ 0 ≤ p2.toInt ∧ p2.toInt ≤ 1000) ∨ (t10.toInt = 0 ∧ (p2.toInt < 0 ∨ 1000 < p2.toInt))) := hw11
    obtain hq12 := hw11
    refine lv_if_eq (tgt := 45) hx hb dX9_prices_19 (by decide) (fun c13 => ?_) (fun c13 => ?_)
    ·
      have c13 := z_eq (i := t10.toInt) (j := 0) rfl (by decide) c13
      refine lv_bipush (v := (-2)) hx hb dX9_prices_45 (by decide) ?_
      subst hQ9
      refine lv_topi (fun t14 et14 => ?_)
      have ht14 : t14.toInt = (-2) := by rw [et14]; decide
      have ho15 : (0 ≤ (fi0 0).toInt ∧ (fi0 0).toInt ≤ 600) ∧ (0 ≤ (fi0 1).toInt ∧ (fi0 1).toInt ≤ 600) ∧ (0 ≤ (fi0 5).toInt ∧ (fi0 5).toInt ≤ 600) ∧ (0 ≤ (fi0 9).toInt ∧ (fi0 9).toInt ≤ 60) ∧ z_rng (-1) 59 (fa0 6) ∧ z_rng 0 59 (fa0 8) ∧ z_rng 0 3 (fa0 9) ∧ z_rng 0 269 (fa0 23) ∧ z_rng 0 5 (fa0 27) ∧ z_rng 0 59 (fa0 28) ∧ ((fi0 2).toInt = 1 → 0 ≤ (fi0 3).toInt) ∧ zOkR (fa0 1) (fa0 27) := ⟨⟨by omega, by omega⟩, ⟨by omega, by omega⟩, ⟨by omega, by omega⟩, ⟨by omega, by omega⟩, hv0a6, hv0a8, hv0a9, hv0a23, hv0a27, hv0a28, by omega, hv0y0⟩
      have hq16 : ((0 ≤ p1.toInt ∧ p1.toInt ≤ 1000 ∧ 0 ≤ p2.toInt ∧ p2.toInt ≤ 1000 ∧ 0 ≤ p3.toInt ∧ p3.toInt ≤ 1000 ∧ 0 ≤ p4.toInt ∧ p4.toInt ≤ 1000) ∧ t14.toInt = 1) ∨ (¬ (0 ≤ p1.toInt ∧ p1.toInt ≤ 1000 ∧ 0 ≤ p2.toInt ∧ p2.toInt ≤ 1000 ∧ 0 ≤ p3.toInt ∧ p3.toInt ≤ 1000 ∧ 0 ≤ p4.toInt ∧ p4.toInt ≤ 1000) ∧ t14.toInt = -2) := by omega
      exact W.iret (v := t14) hx hb hr (fun t ht hW => ⟨⟨t14, ((zl 0 [(fi0 0), (fi0 1), (fi0 2), (fi0 3), (fi0 4), (fi0 5), (fi0 6), (fi0 7), (fi0 8), (fi0 9), (fi0 10)]), (zl 0 []), (zl (fun _ => 0) [(fa0 0), (fa0 1), (fa0 2), (fa0 3), (fa0 4), (fa0 5), (fa0 6), (fa0 7), (fa0 8), (fa0 9), (fa0 10), (fa0 11), (fa0 12), (fa0 13), (fa0 14), (fa0 15), (fa0 16), (fa0 17), (fa0 18), (fa0 19), (fa0 20), (fa0 21), (fa0 22), (fa0 23), (fa0 24), (fa0 25), (fa0 26), (fa0 27), (fa0 28), (fa0 29)]), (zl (fun _ => 0) [(fb0 0), (fb0 1), (fb0 2)])), rfl, ⟨ho15, hq16⟩, ⟨by rw [ht]; exact hP, hD⟩⟩, hS.F ht⟩) hS.2.2 dX9_prices_47
    ·
      have c13 := z_ne (i := t10.toInt) (j := 0) rfl (by decide) c13
      refine lv_iload_n hx hb dX9_prices_22 rfl (lv_at hl 3 rfl) ?_
      refine lv_iconst (v := 0) hx hb dX9_prices_23 (by decide) ?_
      refine lv_sipush (v := 1000) hx hb dX9_prices_24 (by decide) ?_
      refine z_iS (As := [.int p3, .int 0, .int 1000]) (rest := []) hF (c_X9_in l D ca sa A _ p3 0 1000) (va_cwS 3 hts gX9_prices_X9_in rfl rfl rfl (by decide +kernel) ⟨Nat.le_of_ble_eq_true rfl, Nat.le_of_ble_eq_true rfl⟩) hE hP hD hS rfl hl.1 rfl (Nat.le_of_ble_eq_true rfl) dX9_prices_27 ⟨Nat.zero_le _, Nat.zero_le _⟩ (fun t18 u17 H locs hw19 hP hD hS => ?_)
      have hw19 : ((t18.toInt = 1 ∧ 0 ≤ p3.toInt ∧ p3.toInt ≤ 1000) ∨ (t18.toInt = 0 ∧ (p3.toInt < 0 ∨ 1000 < p3.toInt))) := hw19
      obtain hq20 := hw19
      refine lv_if_eq (tgt := 45) hx hb dX9_prices_30 (by decide) (fun c21 => ?_) (fun c21 => ?_)
      ·
        have c21 := z_eq (i := t18.toInt) (j := 0) rfl (by decide) c21
        refine lv_bipush (v := (-2)) hx hb dX9_prices_45 (by decide) ?_
        subst hQ9
        refine lv_topi (fun t22 et22 => ?_)
        have ht22 : t22.toInt = (-2) := by rw [et22]; decide
        have ho23 : (0 ≤ (fi0 0).toInt ∧ (fi0 0).toInt ≤ 600) ∧ (0 ≤ (fi0 1).toInt ∧ (fi0 1).toInt ≤ 600) ∧ (0 ≤ (fi0 5).toInt ∧ (fi0 5).toInt ≤ 600) ∧ (0 ≤ (fi0 9).toInt ∧ (fi0 9).toInt ≤ 60) ∧ z_rng (-1) 59 (fa0 6) ∧ z_rng 0 59 (fa0 8) ∧ z_rng 0 3 (fa0 9) ∧ z_rng 0 269 (fa0 23) ∧ z_rng 0 5 (fa0 27) ∧ z_rng 0 59 (fa0 28) ∧ ((fi0 2).toInt = 1 → 0 ≤ (fi0 3).toInt) ∧ zOkR (fa0 1) (fa0 27) := ⟨⟨by omega, by omega⟩, ⟨by omega, by omega⟩, ⟨by omega, by omega⟩, ⟨by omega, by omega⟩, hv0a6, hv0a8, hv0a9, hv0a23, hv0a27, hv0a28, by omega, hv0y0⟩
        have hq24 : ((0 ≤ p1.toInt ∧ p1.toInt ≤ 1000 ∧ 0 ≤ p2.toInt ∧ p2.toInt ≤ 1000 ∧ 0 ≤ p3.toInt ∧ p3.toInt ≤ 1000 ∧ 0 ≤ p4.toInt ∧ p4.toInt ≤ 1000) ∧ t22.toInt = 1) ∨ (¬ (0 ≤ p1.toInt ∧ p1.toInt ≤ 1000 ∧ 0 ≤ p2.toInt ∧ p2.toInt ≤ 1000 ∧ 0 ≤ p3.toInt ∧ p3.toInt ≤ 1000 ∧ 0 ≤ p4.toInt ∧ p4.toInt ≤ 1000) ∧ t22.toInt = -2) := by omega
        exact W.iret (v := t22) hx hb hr (fun t ht hW => ⟨⟨t22, ((zl 0 [(fi0 0), (fi0 1), (fi0 2), (fi0 3), (fi0 4), (fi0 5), (fi0 6), (fi0 7), (fi0 8), (fi0 9), (fi0 10)]), (zl 0 []), (zl (fun _ => 0) [(fa0 0), (fa0 1), (fa0 2), (fa0 3), (fa0 4), (fa0 5), (fa0 6), (fa0 7), (fa0 8), (fa0 9), (fa0 10), (fa0 11), (fa0 12), (fa0 13), (fa0 14), (fa0 15), (fa0 16), (fa0 17), (fa0 18), (fa0 19), (fa0 20), (fa0 21), (fa0 22), (fa0 23), (fa0 24), (fa0 25), (fa0 26), (fa0 27), (fa0 28), (fa0 29)]), (zl (fun _ => 0) [(fb0 0), (fb0 1), (fb0 2)])), rfl, ⟨ho23, hq24⟩, ⟨by rw [ht]; exact hP, hD⟩⟩, hS.F ht⟩) hS.2.2 dX9_prices_47
      ·
        have c21 := z_ne (i := t18.toInt) (j := 0) rfl (by decide) c21
        refine lv_iload hx hb dX9_prices_33 (lv_at hl 4 rfl) ?_
        refine lv_iconst (v := 0) hx hb dX9_prices_35 (by decide) ?_
        refine lv_sipush (v := 1000) hx hb dX9_prices_36 (by decide) ?_
        refine z_iS (As := [.int p4, .int 0, .int 1000]) (rest := []) hF (c_X9_in l D ca sa A _ p4 0 1000) (va_cwS 3 hts gX9_prices_X9_in rfl rfl rfl (by decide +kernel) ⟨Nat.le_of_ble_eq_true rfl, Nat.le_of_ble_eq_true rfl⟩) hE hP hD hS rfl hl.1 rfl (Nat.le_of_ble_eq_true rfl) dX9_prices_39 ⟨Nat.zero_le _, Nat.zero_le _⟩ (fun t26 u25 H locs hw27 hP hD hS => ?_)
        have hw27 : ((t26.toInt = 1 ∧ 0 ≤ p4.toInt ∧ p4.toInt ≤ 1000) ∨ (t26.toInt = 0 ∧ (p4.toInt < 0 ∨ 1000 < p4.toInt))) := hw27
        obtain hq28 := hw27
        refine lv_if_ne (tgt := 48) hx hb dX9_prices_42 (by decide) (fun c29 => ?_) (fun c29 => ?_)
        ·
          have c29 := z_ne (i := t26.toInt) (j := 0) rfl (by decide) c29
          refine lv_aload_n hx hb dX9_prices_48 rfl (lv_at hl 0 rfl) ?_
          refine va_get (D := D) (ci := 9) (v := .ref (r0 33)) (C := RX9) (T := TX9) (N := 44) hx hb hts inX9 hown hK hP 0 rfl rfl 43 (by decide) lk116 (fun _ h9 => h9) rfl dX9_prices_49 ?_
          refine lv_iconst (v := 0) hx hb dX9_prices_52 (by decide) ?_
          refine lv_iload_n hx hb dX9_prices_53 rfl (lv_at hl 1 rfl) ?_
          have hi30 : vp_in 0 4 := z_in (i := 0) (by decide) (by omega) (by omega)
          refine va_iast hx hb hK hP hD hS 33 0 rfl rfl hi30 dX9_prices_54 (fun H locs hP hD hS => ?_)
          generalize eg31 : upd (fa0 29) (0 : Int32).toNatClampNeg p1 = g31 at hP hD
          have hP : va_P D vwCl (((r0 0), .inr (9, [.ref (r0 1), .int (fi0 0), .int (fi0 1), .int (fi0 2), .int (fi0 3), .int (fi0 4), .int (fi0 5), .int (fi0 6), .int (fi0 7), .int (fi0 8), .ref (r0 2), .int (fi0 9), .ref (r0 3), .ref (r0 4), .ref (r0 5), .ref (r0 6), .ref (r0 7), .ref (r0 8), .ref (r0 9), .ref (r0 10), .ref (r0 11), .ref (r0 12), .ref (r0 13), .ref (r0 14), .ref (r0 15), .ref (r0 16), .ref (r0 17), .ref (r0 18), .ref (r0 19), .ref (r0 20), .ref (r0 21), .ref (r0 22), .ref (r0 23), .ref (r0 24), .ref (r0 25), .ref (r0 26), .ref (r0 27), .ref (r0 28), .ref (r0 29), .ref (r0 30), .ref (r0 31), .ref (r0 32), .int (fi0 10), .ref (r0 33)])) :: ((r0 1), .inl (ca 2, 600, .inl (fa0 0))) :: ((r0 2), .inl (ca 0, 48, .inl (fa0 1))) :: ((r0 3), .inl (ca 0, 60, .inl (fa0 2))) :: ((r0 4), .inl (ca 0, 60, .inl (fa0 3))) :: ((r0 5), .inl (ca 0, 60, .inl (fa0 4))) :: ((r0 6), .inl (ca 0, 60, .inl (fa0 5))) :: ((r0 7), .inl (ca 0, 60, .inl (fa0 6))) :: ((r0 8), .inl (ca 0, 60, .inl (fa0 7))) :: ((r0 9), .inl (ca 0, 180, .inl (fa0 8))) :: ((r0 10), .inl (ca 0, 60, .inl (fa0 9))) :: ((r0 11), .inl (ca 0, 180, .inl (fa0 10))) :: ((r0 12), .inl (ca 0, 180, .inl (fa0 11))) :: ((r0 13), .inl (ca 0, 180, .inl (fa0 12))) :: ((r0 14), .inl (ca 0, 180, .inl (fa0 13))) :: ((r0 15), .inl (ca 0, 180, .inl (fa0 14))) :: ((r0 16), .inl (ca 0, 180, .inl (fa0 15))) :: ((r0 17), .inl (ca 0, 180, .inl (fa0 16))) :: ((r0 18), .inl (ca 0, 180, .inl (fa0 17))) :: ((r0 19), .inl (ca 0, 180, .inl (fa0 18))) :: ((r0 20), .inl (ca 0, 180, .inl (fa0 19))) :: ((r0 21), .inl (ca 0, 3, .inl (fa0 20))) :: ((r0 22), .inl (ca 1, 3, .inr (.inl (fb0 0)))) :: ((r0 23), .inl (ca 1, 3, .inr (.inl (fb0 1)))) :: ((r0 24), .inl (ca 3, 3, .inl (fa0 21))) :: ((r0 25), .inl (ca 0, 3, .inl (fa0 22))) :: ((r0 26), .inl (ca 0, 3, .inl (fa0 23))) :: ((r0 27), .inl (ca 0, 810, .inl (fa0 24))) :: ((r0 28), .inl (ca 3, 810, .inl (fa0 25))) :: ((r0 29), .inl (ca 1, 810, .inr (.inl (fb0 2)))) :: ((r0 30), .inl (ca 0, 810, .inl (fa0 26))) :: ((r0 31), .inl (ca 0, 3, .inl (fa0 27))) :: ((r0 32), .inl (ca 0, 60, .inl (fa0 28))) :: ((r0 33), .inl (ca 0, 4, .inl g31)) :: rest) H := hP
          have hD : va_D A (((r0 0), .inr (9, [.ref (r0 1), .int (fi0 0), .int (fi0 1), .int (fi0 2), .int (fi0 3), .int (fi0 4), .int (fi0 5), .int (fi0 6), .int (fi0 7), .int (fi0 8), .ref (r0 2), .int (fi0 9), .ref (r0 3), .ref (r0 4), .ref (r0 5), .ref (r0 6), .ref (r0 7), .ref (r0 8), .ref (r0 9), .ref (r0 10), .ref (r0 11), .ref (r0 12), .ref (r0 13), .ref (r0 14), .ref (r0 15), .ref (r0 16), .ref (r0 17), .ref (r0 18), .ref (r0 19), .ref (r0 20), .ref (r0 21), .ref (r0 22), .ref (r0 23), .ref (r0 24), .ref (r0 25), .ref (r0 26), .ref (r0 27), .ref (r0 28), .ref (r0 29), .ref (r0 30), .ref (r0 31), .ref (r0 32), .int (fi0 10), .ref (r0 33)])) :: ((r0 1), .inl (ca 2, 600, .inl (fa0 0))) :: ((r0 2), .inl (ca 0, 48, .inl (fa0 1))) :: ((r0 3), .inl (ca 0, 60, .inl (fa0 2))) :: ((r0 4), .inl (ca 0, 60, .inl (fa0 3))) :: ((r0 5), .inl (ca 0, 60, .inl (fa0 4))) :: ((r0 6), .inl (ca 0, 60, .inl (fa0 5))) :: ((r0 7), .inl (ca 0, 60, .inl (fa0 6))) :: ((r0 8), .inl (ca 0, 60, .inl (fa0 7))) :: ((r0 9), .inl (ca 0, 180, .inl (fa0 8))) :: ((r0 10), .inl (ca 0, 60, .inl (fa0 9))) :: ((r0 11), .inl (ca 0, 180, .inl (fa0 10))) :: ((r0 12), .inl (ca 0, 180, .inl (fa0 11))) :: ((r0 13), .inl (ca 0, 180, .inl (fa0 12))) :: ((r0 14), .inl (ca 0, 180, .inl (fa0 13))) :: ((r0 15), .inl (ca 0, 180, .inl (fa0 14))) :: ((r0 16), .inl (ca 0, 180, .inl (fa0 15))) :: ((r0 17), .inl (ca 0, 180, .inl (fa0 16))) :: ((r0 18), .inl (ca 0, 180, .inl (fa0 17))) :: ((r0 19), .inl (ca 0, 180, .inl (fa0 18))) :: ((r0 20), .inl (ca 0, 180, .inl (fa0 19))) :: ((r0 21), .inl (ca 0, 3, .inl (fa0 20))) :: ((r0 22), .inl (ca 1, 3, .inr (.inl (fb0 0)))) :: ((r0 23), .inl (ca 1, 3, .inr (.inl (fb0 1)))) :: ((r0 24), .inl (ca 3, 3, .inl (fa0 21))) :: ((r0 25), .inl (ca 0, 3, .inl (fa0 22))) :: ((r0 26), .inl (ca 0, 3, .inl (fa0 23))) :: ((r0 27), .inl (ca 0, 810, .inl (fa0 24))) :: ((r0 28), .inl (ca 3, 810, .inl (fa0 25))) :: ((r0 29), .inl (ca 1, 810, .inr (.inl (fb0 2)))) :: ((r0 30), .inl (ca 0, 810, .inl (fa0 26))) :: ((r0 31), .inl (ca 0, 3, .inl (fa0 27))) :: ((r0 32), .inl (ca 0, 60, .inl (fa0 28))) :: ((r0 33), .inl (ca 0, 4, .inl g31)) :: rest) := hD
          refine lv_aload_n hx hb dX9_prices_55 rfl (lv_at hl 0 rfl) ?_
          refine va_get (D := D) (ci := 9) (v := .ref (r0 33)) (C := RX9) (T := TX9) (N := 44) hx hb hts inX9 hown hK hP 0 rfl rfl 43 (by decide) lk116 (fun _ h9 => h9) rfl dX9_prices_56 ?_
          refine lv_iconst (v := 1) hx hb dX9_prices_59 (by decide) ?_
          refine lv_iload_n hx hb dX9_prices_60 rfl (lv_at hl 2 rfl) ?_
          have hi32 : vp_in 1 4 := z_in (i := 1) (by decide) (by omega) (by omega)
          refine va_iast hx hb hK hP hD hS 33 0 rfl rfl hi32 dX9_prices_61 (fun H locs hP hD hS => ?_)
          generalize eg33 : upd g31 (1 : Int32).toNatClampNeg p2 = g33 at hP hD
          have hP : va_P D vwCl (((r0 0), .inr (9, [.ref (r0 1), .int (fi0 0), .int (fi0 1), .int (fi0 2), .int (fi0 3), .int (fi0 4), .int (fi0 5), .int (fi0 6), .int (fi0 7), .int (fi0 8), .ref (r0 2), .int (fi0 9), .ref (r0 3), .ref (r0 4), .ref (r0 5), .ref (r0 6), .ref (r0 7), .ref (r0 8), .ref (r0 9), .ref (r0 10), .ref (r0 11), .ref (r0 12), .ref (r0 13), .ref (r0 14), .ref (r0 15), .ref (r0 16), .ref (r0 17), .ref (r0 18), .ref (r0 19), .ref (r0 20), .ref (r0 21), .ref (r0 22), .ref (r0 23), .ref (r0 24), .ref (r0 25), .ref (r0 26), .ref (r0 27), .ref (r0 28), .ref (r0 29), .ref (r0 30), .ref (r0 31), .ref (r0 32), .int (fi0 10), .ref (r0 33)])) :: ((r0 1), .inl (ca 2, 600, .inl (fa0 0))) :: ((r0 2), .inl (ca 0, 48, .inl (fa0 1))) :: ((r0 3), .inl (ca 0, 60, .inl (fa0 2))) :: ((r0 4), .inl (ca 0, 60, .inl (fa0 3))) :: ((r0 5), .inl (ca 0, 60, .inl (fa0 4))) :: ((r0 6), .inl (ca 0, 60, .inl (fa0 5))) :: ((r0 7), .inl (ca 0, 60, .inl (fa0 6))) :: ((r0 8), .inl (ca 0, 60, .inl (fa0 7))) :: ((r0 9), .inl (ca 0, 180, .inl (fa0 8))) :: ((r0 10), .inl (ca 0, 60, .inl (fa0 9))) :: ((r0 11), .inl (ca 0, 180, .inl (fa0 10))) :: ((r0 12), .inl (ca 0, 180, .inl (fa0 11))) :: ((r0 13), .inl (ca 0, 180, .inl (fa0 12))) :: ((r0 14), .inl (ca 0, 180, .inl (fa0 13))) :: ((r0 15), .inl (ca 0, 180, .inl (fa0 14))) :: ((r0 16), .inl (ca 0, 180, .inl (fa0 15))) :: ((r0 17), .inl (ca 0, 180, .inl (fa0 16))) :: ((r0 18), .inl (ca 0, 180, .inl (fa0 17))) :: ((r0 19), .inl (ca 0, 180, .inl (fa0 18))) :: ((r0 20), .inl (ca 0, 180, .inl (fa0 19))) :: ((r0 21), .inl (ca 0, 3, .inl (fa0 20))) :: ((r0 22), .inl (ca 1, 3, .inr (.inl (fb0 0)))) :: ((r0 23), .inl (ca 1, 3, .inr (.inl (fb0 1)))) :: ((r0 24), .inl (ca 3, 3, .inl (fa0 21))) :: ((r0 25), .inl (ca 0, 3, .inl (fa0 22))) :: ((r0 26), .inl (ca 0, 3, .inl (fa0 23))) :: ((r0 27), .inl (ca 0, 810, .inl (fa0 24))) :: ((r0 28), .inl (ca 3, 810, .inl (fa0 25))) :: ((r0 29), .inl (ca 1, 810, .inr (.inl (fb0 2)))) :: ((r0 30), .inl (ca 0, 810, .inl (fa0 26))) :: ((r0 31), .inl (ca 0, 3, .inl (fa0 27))) :: ((r0 32), .inl (ca 0, 60, .inl (fa0 28))) :: ((r0 33), .inl (ca 0, 4, .inl g33)) :: rest) H := hP
          have hD : va_D A (((r0 0), .inr (9, [.ref (r0 1), .int (fi0 0), .int (fi0 1), .int (fi0 2), .int (fi0 3), .int (fi0 4), .int (fi0 5), .int (fi0 6), .int (fi0 7), .int (fi0 8), .ref (r0 2), .int (fi0 9), .ref (r0 3), .ref (r0 4), .ref (r0 5), .ref (r0 6), .ref (r0 7), .ref (r0 8), .ref (r0 9), .ref (r0 10), .ref (r0 11), .ref (r0 12), .ref (r0 13), .ref (r0 14), .ref (r0 15), .ref (r0 16), .ref (r0 17), .ref (r0 18), .ref (r0 19), .ref (r0 20), .ref (r0 21), .ref (r0 22), .ref (r0 23), .ref (r0 24), .ref (r0 25), .ref (r0 26), .ref (r0 27), .ref (r0 28), .ref (r0 29), .ref (r0 30), .ref (r0 31), .ref (r0 32), .int (fi0 10), .ref (r0 33)])) :: ((r0 1), .inl (ca 2, 600, .inl (fa0 0))) :: ((r0 2), .inl (ca 0, 48, .inl (fa0 1))) :: ((r0 3), .inl (ca 0, 60, .inl (fa0 2))) :: ((r0 4), .inl (ca 0, 60, .inl (fa0 3))) :: ((r0 5), .inl (ca 0, 60, .inl (fa0 4))) :: ((r0 6), .inl (ca 0, 60, .inl (fa0 5))) :: ((r0 7), .inl (ca 0, 60, .inl (fa0 6))) :: ((r0 8), .inl (ca 0, 60, .inl (fa0 7))) :: ((r0 9), .inl (ca 0, 180, .inl (fa0 8))) :: ((r0 10), .inl (ca 0, 60, .inl (fa0 9))) :: ((r0 11), .inl (ca 0, 180, .inl (fa0 10))) :: ((r0 12), .inl (ca 0, 180, .inl (fa0 11))) :: ((r0 13), .inl (ca 0, 180, .inl (fa0 12))) :: ((r0 14), .inl (ca 0, 180, .inl (fa0 13))) :: ((r0 15), .inl (ca 0, 180, .inl (fa0 14))) :: ((r0 16), .inl (ca 0, 180, .inl (fa0 15))) :: ((r0 17), .inl (ca 0, 180, .inl (fa0 16))) :: ((r0 18), .inl (ca 0, 180, .inl (fa0 17))) :: ((r0 19), .inl (ca 0, 180, .inl (fa0 18))) :: ((r0 20), .inl (ca 0, 180, .inl (fa0 19))) :: ((r0 21), .inl (ca 0, 3, .inl (fa0 20))) :: ((r0 22), .inl (ca 1, 3, .inr (.inl (fb0 0)))) :: ((r0 23), .inl (ca 1, 3, .inr (.inl (fb0 1)))) :: ((r0 24), .inl (ca 3, 3, .inl (fa0 21))) :: ((r0 25), .inl (ca 0, 3, .inl (fa0 22))) :: ((r0 26), .inl (ca 0, 3, .inl (fa0 23))) :: ((r0 27), .inl (ca 0, 810, .inl (fa0 24))) :: ((r0 28), .inl (ca 3, 810, .inl (fa0 25))) :: ((r0 29), .inl (ca 1, 810, .inr (.inl (fb0 2)))) :: ((r0 30), .inl (ca 0, 810, .inl (fa0 26))) :: ((r0 31), .inl (ca 0, 3, .inl (fa0 27))) :: ((r0 32), .inl (ca 0, 60, .inl (fa0 28))) :: ((r0 33), .inl (ca 0, 4, .inl g33)) :: rest) := hD
          refine lv_aload_n hx hb dX9_prices_62 rfl (lv_at hl 0 rfl) ?_
          refine va_get (D := D) (ci := 9) (v := .ref (r0 33)) (C := RX9) (T := TX9) (N := 44) hx hb hts inX9 hown hK hP 0 rfl rfl 43 (by decide) lk116 (fun _ h9 => h9) rfl dX9_prices_63 ?_
          refine lv_iconst (v := 2) hx hb dX9_prices_66 (by decide) ?_
          refine lv_iload_n hx hb dX9_prices_67 rfl (lv_at hl 3 rfl) ?_
          have hi34 : vp_in 2 4 := z_in (i := 2) (by decide) (by omega) (by omega)
          refine va_iast hx hb hK hP hD hS 33 0 rfl rfl hi34 dX9_prices_68 (fun H locs hP hD hS => ?_)
          generalize eg35 : upd g33 (2 : Int32).toNatClampNeg p3 = g35 at hP hD
          have hP : va_P D vwCl (((r0 0), .inr (9, [.ref (r0 1), .int (fi0 0), .int (fi0 1), .int (fi0 2), .int (fi0 3), .int (fi0 4), .int (fi0 5), .int (fi0 6), .int (fi0 7), .int (fi0 8), .ref (r0 2), .int (fi0 9), .ref (r0 3), .ref (r0 4), .ref (r0 5), .ref (r0 6), .ref (r0 7), .ref (r0 8), .ref (r0 9), .ref (r0 10), .ref (r0 11), .ref (r0 12), .ref (r0 13), .ref (r0 14), .ref (r0 15), .ref (r0 16), .ref (r0 17), .ref (r0 18), .ref (r0 19), .ref (r0 20), .ref (r0 21), .ref (r0 22), .ref (r0 23), .ref (r0 24), .ref (r0 25), .ref (r0 26), .ref (r0 27), .ref (r0 28), .ref (r0 29), .ref (r0 30), .ref (r0 31), .ref (r0 32), .int (fi0 10), .ref (r0 33)])) :: ((r0 1), .inl (ca 2, 600, .inl (fa0 0))) :: ((r0 2), .inl (ca 0, 48, .inl (fa0 1))) :: ((r0 3), .inl (ca 0, 60, .inl (fa0 2))) :: ((r0 4), .inl (ca 0, 60, .inl (fa0 3))) :: ((r0 5), .inl (ca 0, 60, .inl (fa0 4))) :: ((r0 6), .inl (ca 0, 60, .inl (fa0 5))) :: ((r0 7), .inl (ca 0, 60, .inl (fa0 6))) :: ((r0 8), .inl (ca 0, 60, .inl (fa0 7))) :: ((r0 9), .inl (ca 0, 180, .inl (fa0 8))) :: ((r0 10), .inl (ca 0, 60, .inl (fa0 9))) :: ((r0 11), .inl (ca 0, 180, .inl (fa0 10))) :: ((r0 12), .inl (ca 0, 180, .inl (fa0 11))) :: ((r0 13), .inl (ca 0, 180, .inl (fa0 12))) :: ((r0 14), .inl (ca 0, 180, .inl (fa0 13))) :: ((r0 15), .inl (ca 0, 180, .inl (fa0 14))) :: ((r0 16), .inl (ca 0, 180, .inl (fa0 15))) :: ((r0 17), .inl (ca 0, 180, .inl (fa0 16))) :: ((r0 18), .inl (ca 0, 180, .inl (fa0 17))) :: ((r0 19), .inl (ca 0, 180, .inl (fa0 18))) :: ((r0 20), .inl (ca 0, 180, .inl (fa0 19))) :: ((r0 21), .inl (ca 0, 3, .inl (fa0 20))) :: ((r0 22), .inl (ca 1, 3, .inr (.inl (fb0 0)))) :: ((r0 23), .inl (ca 1, 3, .inr (.inl (fb0 1)))) :: ((r0 24), .inl (ca 3, 3, .inl (fa0 21))) :: ((r0 25), .inl (ca 0, 3, .inl (fa0 22))) :: ((r0 26), .inl (ca 0, 3, .inl (fa0 23))) :: ((r0 27), .inl (ca 0, 810, .inl (fa0 24))) :: ((r0 28), .inl (ca 3, 810, .inl (fa0 25))) :: ((r0 29), .inl (ca 1, 810, .inr (.inl (fb0 2)))) :: ((r0 30), .inl (ca 0, 810, .inl (fa0 26))) :: ((r0 31), .inl (ca 0, 3, .inl (fa0 27))) :: ((r0 32), .inl (ca 0, 60, .inl (fa0 28))) :: ((r0 33), .inl (ca 0, 4, .inl g35)) :: rest) H := hP
          have hD : va_D A (((r0 0), .inr (9, [.ref (r0 1), .int (fi0 0), .int (fi0 1), .int (fi0 2), .int (fi0 3), .int (fi0 4), .int (fi0 5), .int (fi0 6), .int (fi0 7), .int (fi0 8), .ref (r0 2), .int (fi0 9), .ref (r0 3), .ref (r0 4), .ref (r0 5), .ref (r0 6), .ref (r0 7), .ref (r0 8), .ref (r0 9), .ref (r0 10), .ref (r0 11), .ref (r0 12), .ref (r0 13), .ref (r0 14), .ref (r0 15), .ref (r0 16), .ref (r0 17), .ref (r0 18), .ref (r0 19), .ref (r0 20), .ref (r0 21), .ref (r0 22), .ref (r0 23), .ref (r0 24), .ref (r0 25), .ref (r0 26), .ref (r0 27), .ref (r0 28), .ref (r0 29), .ref (r0 30), .ref (r0 31), .ref (r0 32), .int (fi0 10), .ref (r0 33)])) :: ((r0 1), .inl (ca 2, 600, .inl (fa0 0))) :: ((r0 2), .inl (ca 0, 48, .inl (fa0 1))) :: ((r0 3), .inl (ca 0, 60, .inl (fa0 2))) :: ((r0 4), .inl (ca 0, 60, .inl (fa0 3))) :: ((r0 5), .inl (ca 0, 60, .inl (fa0 4))) :: ((r0 6), .inl (ca 0, 60, .inl (fa0 5))) :: ((r0 7), .inl (ca 0, 60, .inl (fa0 6))) :: ((r0 8), .inl (ca 0, 60, .inl (fa0 7))) :: ((r0 9), .inl (ca 0, 180, .inl (fa0 8))) :: ((r0 10), .inl (ca 0, 60, .inl (fa0 9))) :: ((r0 11), .inl (ca 0, 180, .inl (fa0 10))) :: ((r0 12), .inl (ca 0, 180, .inl (fa0 11))) :: ((r0 13), .inl (ca 0, 180, .inl (fa0 12))) :: ((r0 14), .inl (ca 0, 180, .inl (fa0 13))) :: ((r0 15), .inl (ca 0, 180, .inl (fa0 14))) :: ((r0 16), .inl (ca 0, 180, .inl (fa0 15))) :: ((r0 17), .inl (ca 0, 180, .inl (fa0 16))) :: ((r0 18), .inl (ca 0, 180, .inl (fa0 17))) :: ((r0 19), .inl (ca 0, 180, .inl (fa0 18))) :: ((r0 20), .inl (ca 0, 180, .inl (fa0 19))) :: ((r0 21), .inl (ca 0, 3, .inl (fa0 20))) :: ((r0 22), .inl (ca 1, 3, .inr (.inl (fb0 0)))) :: ((r0 23), .inl (ca 1, 3, .inr (.inl (fb0 1)))) :: ((r0 24), .inl (ca 3, 3, .inl (fa0 21))) :: ((r0 25), .inl (ca 0, 3, .inl (fa0 22))) :: ((r0 26), .inl (ca 0, 3, .inl (fa0 23))) :: ((r0 27), .inl (ca 0, 810, .inl (fa0 24))) :: ((r0 28), .inl (ca 3, 810, .inl (fa0 25))) :: ((r0 29), .inl (ca 1, 810, .inr (.inl (fb0 2)))) :: ((r0 30), .inl (ca 0, 810, .inl (fa0 26))) :: ((r0 31), .inl (ca 0, 3, .inl (fa0 27))) :: ((r0 32), .inl (ca 0, 60, .inl (fa0 28))) :: ((r0 33), .inl (ca 0, 4, .inl g35)) :: rest) := hD
          refine lv_aload_n hx hb dX9_prices_69 rfl (lv_at hl 0 rfl) ?_
          refine va_get (D := D) (ci := 9) (v := .ref (r0 33)) (C := RX9) (T := TX9) (N := 44) hx hb hts inX9 hown hK hP 0 rfl rfl 43 (by decide) lk116 (fun _ h9 => h9) rfl dX9_prices_70 ?_
          refine lv_iconst (v := 3) hx hb dX9_prices_73 (by decide) ?_
          refine lv_iload hx hb dX9_prices_74 (lv_at hl 4 rfl) ?_
          have hi36 : vp_in 3 4 := z_in (i := 3) (by decide) (by omega) (by omega)
          refine va_iast hx hb hK hP hD hS 33 0 rfl rfl hi36 dX9_prices_76 (fun H locs hP hD hS => ?_)
          generalize eg37 : upd g35 (3 : Int32).toNatClampNeg p4 = g37 at hP hD
          have hP : va_P D vwCl (((r0 0), .inr (9, [.ref (r0 1), .int (fi0 0), .int (fi0 1), .int (fi0 2), .int (fi0 3), .int (fi0 4), .int (fi0 5), .int (fi0 6), .int (fi0 7), .int (fi0 8), .ref (r0 2), .int (fi0 9), .ref (r0 3), .ref (r0 4), .ref (r0 5), .ref (r0 6), .ref (r0 7), .ref (r0 8), .ref (r0 9), .ref (r0 10), .ref (r0 11), .ref (r0 12), .ref (r0 13), .ref (r0 14), .ref (r0 15), .ref (r0 16), .ref (r0 17), .ref (r0 18), .ref (r0 19), .ref (r0 20), .ref (r0 21), .ref (r0 22), .ref (r0 23), .ref (r0 24), .ref (r0 25), .ref (r0 26), .ref (r0 27), .ref (r0 28), .ref (r0 29), .ref (r0 30), .ref (r0 31), .ref (r0 32), .int (fi0 10), .ref (r0 33)])) :: ((r0 1), .inl (ca 2, 600, .inl (fa0 0))) :: ((r0 2), .inl (ca 0, 48, .inl (fa0 1))) :: ((r0 3), .inl (ca 0, 60, .inl (fa0 2))) :: ((r0 4), .inl (ca 0, 60, .inl (fa0 3))) :: ((r0 5), .inl (ca 0, 60, .inl (fa0 4))) :: ((r0 6), .inl (ca 0, 60, .inl (fa0 5))) :: ((r0 7), .inl (ca 0, 60, .inl (fa0 6))) :: ((r0 8), .inl (ca 0, 60, .inl (fa0 7))) :: ((r0 9), .inl (ca 0, 180, .inl (fa0 8))) :: ((r0 10), .inl (ca 0, 60, .inl (fa0 9))) :: ((r0 11), .inl (ca 0, 180, .inl (fa0 10))) :: ((r0 12), .inl (ca 0, 180, .inl (fa0 11))) :: ((r0 13), .inl (ca 0, 180, .inl (fa0 12))) :: ((r0 14), .inl (ca 0, 180, .inl (fa0 13))) :: ((r0 15), .inl (ca 0, 180, .inl (fa0 14))) :: ((r0 16), .inl (ca 0, 180, .inl (fa0 15))) :: ((r0 17), .inl (ca 0, 180, .inl (fa0 16))) :: ((r0 18), .inl (ca 0, 180, .inl (fa0 17))) :: ((r0 19), .inl (ca 0, 180, .inl (fa0 18))) :: ((r0 20), .inl (ca 0, 180, .inl (fa0 19))) :: ((r0 21), .inl (ca 0, 3, .inl (fa0 20))) :: ((r0 22), .inl (ca 1, 3, .inr (.inl (fb0 0)))) :: ((r0 23), .inl (ca 1, 3, .inr (.inl (fb0 1)))) :: ((r0 24), .inl (ca 3, 3, .inl (fa0 21))) :: ((r0 25), .inl (ca 0, 3, .inl (fa0 22))) :: ((r0 26), .inl (ca 0, 3, .inl (fa0 23))) :: ((r0 27), .inl (ca 0, 810, .inl (fa0 24))) :: ((r0 28), .inl (ca 3, 810, .inl (fa0 25))) :: ((r0 29), .inl (ca 1, 810, .inr (.inl (fb0 2)))) :: ((r0 30), .inl (ca 0, 810, .inl (fa0 26))) :: ((r0 31), .inl (ca 0, 3, .inl (fa0 27))) :: ((r0 32), .inl (ca 0, 60, .inl (fa0 28))) :: ((r0 33), .inl (ca 0, 4, .inl g37)) :: rest) H := hP
          have hD : va_D A (((r0 0), .inr (9, [.ref (r0 1), .int (fi0 0), .int (fi0 1), .int (fi0 2), .int (fi0 3), .int (fi0 4), .int (fi0 5), .int (fi0 6), .int (fi0 7), .int (fi0 8), .ref (r0 2), .int (fi0 9), .ref (r0 3), .ref (r0 4), .ref (r0 5), .ref (r0 6), .ref (r0 7), .ref (r0 8), .ref (r0 9), .ref (r0 10), .ref (r0 11), .ref (r0 12), .ref (r0 13), .ref (r0 14), .ref (r0 15), .ref (r0 16), .ref (r0 17), .ref (r0 18), .ref (r0 19), .ref (r0 20), .ref (r0 21), .ref (r0 22), .ref (r0 23), .ref (r0 24), .ref (r0 25), .ref (r0 26), .ref (r0 27), .ref (r0 28), .ref (r0 29), .ref (r0 30), .ref (r0 31), .ref (r0 32), .int (fi0 10), .ref (r0 33)])) :: ((r0 1), .inl (ca 2, 600, .inl (fa0 0))) :: ((r0 2), .inl (ca 0, 48, .inl (fa0 1))) :: ((r0 3), .inl (ca 0, 60, .inl (fa0 2))) :: ((r0 4), .inl (ca 0, 60, .inl (fa0 3))) :: ((r0 5), .inl (ca 0, 60, .inl (fa0 4))) :: ((r0 6), .inl (ca 0, 60, .inl (fa0 5))) :: ((r0 7), .inl (ca 0, 60, .inl (fa0 6))) :: ((r0 8), .inl (ca 0, 60, .inl (fa0 7))) :: ((r0 9), .inl (ca 0, 180, .inl (fa0 8))) :: ((r0 10), .inl (ca 0, 60, .inl (fa0 9))) :: ((r0 11), .inl (ca 0, 180, .inl (fa0 10))) :: ((r0 12), .inl (ca 0, 180, .inl (fa0 11))) :: ((r0 13), .inl (ca 0, 180, .inl (fa0 12))) :: ((r0 14), .inl (ca 0, 180, .inl (fa0 13))) :: ((r0 15), .inl (ca 0, 180, .inl (fa0 14))) :: ((r0 16), .inl (ca 0, 180, .inl (fa0 15))) :: ((r0 17), .inl (ca 0, 180, .inl (fa0 16))) :: ((r0 18), .inl (ca 0, 180, .inl (fa0 17))) :: ((r0 19), .inl (ca 0, 180, .inl (fa0 18))) :: ((r0 20), .inl (ca 0, 180, .inl (fa0 19))) :: ((r0 21), .inl (ca 0, 3, .inl (fa0 20))) :: ((r0 22), .inl (ca 1, 3, .inr (.inl (fb0 0)))) :: ((r0 23), .inl (ca 1, 3, .inr (.inl (fb0 1)))) :: ((r0 24), .inl (ca 3, 3, .inl (fa0 21))) :: ((r0 25), .inl (ca 0, 3, .inl (fa0 22))) :: ((r0 26), .inl (ca 0, 3, .inl (fa0 23))) :: ((r0 27), .inl (ca 0, 810, .inl (fa0 24))) :: ((r0 28), .inl (ca 3, 810, .inl (fa0 25))) :: ((r0 29), .inl (ca 1, 810, .inr (.inl (fb0 2)))) :: ((r0 30), .inl (ca 0, 810, .inl (fa0 26))) :: ((r0 31), .inl (ca 0, 3, .inl (fa0 27))) :: ((r0 32), .inl (ca 0, 60, .inl (fa0 28))) :: ((r0 33), .inl (ca 0, 4, .inl g37)) :: rest) := hD
          refine lv_iconst (v := 1) hx hb dX9_prices_77 (by decide) ?_
          subst hQ9
          refine lv_topi (fun t38 et38 => ?_)
          have ht38 : t38.toInt = 1 := by rw [et38]; decide
          have ho39 : (0 ≤ (fi0 0).toInt ∧ (fi0 0).toInt ≤ 600) ∧ (0 ≤ (fi0 1).toInt ∧ (fi0 1).toInt ≤ 600) ∧ (0 ≤ (fi0 5).toInt ∧ (fi0 5).toInt ≤ 600) ∧ (0 ≤ (fi0 9).toInt ∧ (fi0 9).toInt ≤ 60) ∧ z_rng (-1) 59 (fa0 6) ∧ z_rng 0 59 (fa0 8) ∧ z_rng 0 3 (fa0 9) ∧ z_rng 0 269 (fa0 23) ∧ z_rng 0 5 (fa0 27) ∧ z_rng 0 59 (fa0 28) ∧ ((fi0 2).toInt = 1 → 0 ≤ (fi0 3).toInt) ∧ zOkR (fa0 1) (fa0 27) := ⟨⟨by omega, by omega⟩, ⟨by omega, by omega⟩, ⟨by omega, by omega⟩, ⟨by omega, by omega⟩, hv0a6, hv0a8, hv0a9, hv0a23, hv0a27, hv0a28, by omega, hv0y0⟩
          have hq40 : ((0 ≤ p1.toInt ∧ p1.toInt ≤ 1000 ∧ 0 ≤ p2.toInt ∧ p2.toInt ≤ 1000 ∧ 0 ≤ p3.toInt ∧ p3.toInt ≤ 1000 ∧ 0 ≤ p4.toInt ∧ p4.toInt ≤ 1000) ∧ t38.toInt = 1) ∨ (¬ (0 ≤ p1.toInt ∧ p1.toInt ≤ 1000 ∧ 0 ≤ p2.toInt ∧ p2.toInt ≤ 1000 ∧ 0 ≤ p3.toInt ∧ p3.toInt ≤ 1000 ∧ 0 ≤ p4.toInt ∧ p4.toInt ≤ 1000) ∧ t38.toInt = -2) := by omega
          exact W.iret (v := t38) hx hb hr (fun t ht hW => ⟨⟨t38, ((zl 0 [(fi0 0), (fi0 1), (fi0 2), (fi0 3), (fi0 4), (fi0 5), (fi0 6), (fi0 7), (fi0 8), (fi0 9), (fi0 10)]), (zl 0 []), (zl (fun _ => 0) [(fa0 0), (fa0 1), (fa0 2), (fa0 3), (fa0 4), (fa0 5), (fa0 6), (fa0 7), (fa0 8), (fa0 9), (fa0 10), (fa0 11), (fa0 12), (fa0 13), (fa0 14), (fa0 15), (fa0 16), (fa0 17), (fa0 18), (fa0 19), (fa0 20), (fa0 21), (fa0 22), (fa0 23), (fa0 24), (fa0 25), (fa0 26), (fa0 27), (fa0 28), g37]), (zl (fun _ => 0) [(fb0 0), (fb0 1), (fb0 2)])), rfl, ⟨ho39, hq40⟩, ⟨by rw [ht]; exact hP, hD⟩⟩, hS.F ht⟩) hS.2.2 dX9_prices_78
        ·
          have c29 := z_eq (i := t26.toInt) (j := 0) rfl (by decide) c29
          refine lv_bipush (v := (-2)) hx hb dX9_prices_45 (by decide) ?_
          subst hQ9
          refine lv_topi (fun t41 et41 => ?_)
          have ht41 : t41.toInt = (-2) := by rw [et41]; decide
          have ho42 : (0 ≤ (fi0 0).toInt ∧ (fi0 0).toInt ≤ 600) ∧ (0 ≤ (fi0 1).toInt ∧ (fi0 1).toInt ≤ 600) ∧ (0 ≤ (fi0 5).toInt ∧ (fi0 5).toInt ≤ 600) ∧ (0 ≤ (fi0 9).toInt ∧ (fi0 9).toInt ≤ 60) ∧ z_rng (-1) 59 (fa0 6) ∧ z_rng 0 59 (fa0 8) ∧ z_rng 0 3 (fa0 9) ∧ z_rng 0 269 (fa0 23) ∧ z_rng 0 5 (fa0 27) ∧ z_rng 0 59 (fa0 28) ∧ ((fi0 2).toInt = 1 → 0 ≤ (fi0 3).toInt) ∧ zOkR (fa0 1) (fa0 27) := ⟨⟨by omega, by omega⟩, ⟨by omega, by omega⟩, ⟨by omega, by omega⟩, ⟨by omega, by omega⟩, hv0a6, hv0a8, hv0a9, hv0a23, hv0a27, hv0a28, by omega, hv0y0⟩
          have hq43 : ((0 ≤ p1.toInt ∧ p1.toInt ≤ 1000 ∧ 0 ≤ p2.toInt ∧ p2.toInt ≤ 1000 ∧ 0 ≤ p3.toInt ∧ p3.toInt ≤ 1000 ∧ 0 ≤ p4.toInt ∧ p4.toInt ≤ 1000) ∧ t41.toInt = 1) ∨ (¬ (0 ≤ p1.toInt ∧ p1.toInt ≤ 1000 ∧ 0 ≤ p2.toInt ∧ p2.toInt ≤ 1000 ∧ 0 ≤ p3.toInt ∧ p3.toInt ≤ 1000 ∧ 0 ≤ p4.toInt ∧ p4.toInt ≤ 1000) ∧ t41.toInt = -2) := by omega
          exact W.iret (v := t41) hx hb hr (fun t ht hW => ⟨⟨t41, ((zl 0 [(fi0 0), (fi0 1), (fi0 2), (fi0 3), (fi0 4), (fi0 5), (fi0 6), (fi0 7), (fi0 8), (fi0 9), (fi0 10)]), (zl 0 []), (zl (fun _ => 0) [(fa0 0), (fa0 1), (fa0 2), (fa0 3), (fa0 4), (fa0 5), (fa0 6), (fa0 7), (fa0 8), (fa0 9), (fa0 10), (fa0 11), (fa0 12), (fa0 13), (fa0 14), (fa0 15), (fa0 16), (fa0 17), (fa0 18), (fa0 19), (fa0 20), (fa0 21), (fa0 22), (fa0 23), (fa0 24), (fa0 25), (fa0 26), (fa0 27), (fa0 28), (fa0 29)]), (zl (fun _ => 0) [(fb0 0), (fb0 1), (fb0 2)])), rfl, ⟨ho42, hq43⟩, ⟨by rw [ht]; exact hP, hD⟩⟩, hS.F ht⟩) hS.2.2 dX9_prices_47
