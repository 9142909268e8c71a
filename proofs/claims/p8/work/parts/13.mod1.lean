def zx {α : Type} (ks : List Nat) (f g : Nat → α) : Nat → α := fun k => if ks.contains k then g k else f k
def zIv (r : Nat) (x : Int32) : Prop := (r = 0 → 2 ≤ x.toInt ∧ x.toInt ≤ 100) ∧ (r = 6 → x.toInt = -1 ∨ (1 ≤ x.toInt ∧ x.toInt ≤ 50))
def zOkR (f g : Nat → Int32) : Prop := (∀ j : Nat, j < 32 → zIv (j % 8) (f j)) ∧ ∀ p : Nat, p < 3 → ∀ r : Nat, r < 8 → zIv r (f (8 * (g p).toNatClampNeg + r))
theorem zOkR_upd {f g f' : Nat → Int32} {j : Nat} {x : Int32} (h : zOkR f g) (e : upd f j x = f') (hx : zIv (j % 8) x) : zOkR f' g := by
  subst e
  refine ⟨fun i hi => ?_, fun p hp r hr => ?_⟩
  · unfold upd
    split
    · next q => rw [q]; exact hx
    · exact h.1 i hi
  · unfold upd
    split
    · next q => rw [show r = j % 8 by omega]; exact hx
    · exact h.2 p hp r hr
theorem zOkR_way {f g g' : Nat → Int32} {q : Nat} {w : Int32} (h : zOkR f g) (e : upd g q w = g') (hw : ∀ r : Nat, r < 8 → zIv r (f (8 * w.toNatClampNeg + r))) : zOkR f g' := by
  subst e
  refine ⟨h.1, fun p hp r hr => ?_⟩
  unfold upd
  split
  · exact hw r hr
  · exact h.2 p hp r hr
theorem zOkR_row {f g : Nat → Int32} (h : zOkR f g) {w : Nat} (hw : w < 4) : ∀ r : Nat, r < 8 → zIv r (f (8 * w + r)) := fun r hr => by
  have := h.1 (8 * w + r) (by omega)
  rwa [show (8 * w + r) % 8 = r by omega] at this
theorem z_and255 {x y : Int32} (e : y = x &&& 255) : 0 ≤ y.toInt ∧ y.toInt ≤ 255 := by
  obtain ⟨j, hj, h⟩ := pk_andE x (m := 255) 8 (by decide)
  rw [e, h, nI_toInt (by omega)]; omega
theorem z_and1 {x y : Int32} (e : y = x &&& 1) : 0 ≤ y.toInt ∧ y.toInt ≤ 1 := by
  obtain ⟨j, hj, h⟩ := pk_andE x (m := 1) 1 (by decide)
  rw [e, h, nI_toInt (by omega)]; omega

def w_MOD (ca : Nat → ClassId) (r : Nat → Nat) (fi : Nat → Int32) (fl : Nat → Int64) (fa : Nat → Nat → Int32) (fb : Nat → Nat → Int64) (tl : va_W) : va_W := ((r 0), .inr (9, [.ref (r 1), .int (fi 0), .int (fi 1), .int (fi 2), .int (fi 3), .int (fi 4), .int (fi 5), .int (fi 6), .int (fi 7), .int (fi 8), .ref (r 2), .int (fi 9), .ref (r 3), .ref (r 4), .ref (r 5), .ref (r 6), .ref (r 7), .ref (r 8), .ref (r 9), .ref (r 10), .ref (r 11), .ref (r 12), .ref (r 13), .ref (r 14), .ref (r 15), .ref (r 16), .ref (r 17), .ref (r 18), .ref (r 19), .ref (r 20), .ref (r 21), .ref (r 22), .ref (r 23), .ref (r 24), .ref (r 25), .ref (r 26), .ref (r 27), .ref (r 28), .ref (r 29), .ref (r 30), .ref (r 31), .ref (r 32), .int (fi 10), .ref (r 33)])) :: ((r 1), .inl (ca 2, 600, .inl (fa 0))) :: ((r 2), .inl (ca 0, 48, .inl (fa 1))) :: ((r 3), .inl (ca 0, 60, .inl (fa 2))) :: ((r 4), .inl (ca 0, 60, .inl (fa 3))) :: ((r 5), .inl (ca 0, 60, .inl (fa 4))) :: ((r 6), .inl (ca 0, 60, .inl (fa 5))) :: ((r 7), .inl (ca 0, 60, .inl (fa 6))) :: ((r 8), .inl (ca 0, 60, .inl (fa 7))) :: ((r 9), .inl (ca 0, 180, .inl (fa 8))) :: ((r 10), .inl (ca 0, 60, .inl (fa 9))) :: ((r 11), .inl (ca 0, 180, .inl (fa 10))) :: ((r 12), .inl (ca 0, 180, .inl (fa 11))) :: ((r 13), .inl (ca 0, 180, .inl (fa 12))) :: ((r 14), .inl (ca 0, 180, .inl (fa 13))) :: ((r 15), .inl (ca 0, 180, .inl (fa 14))) :: ((r 16), .inl (ca 0, 180, .inl (fa 15))) :: ((r 17), .inl (ca 0, 180, .inl (fa 16))) :: ((r 18), .inl (ca 0, 180, .inl (fa 17))) :: ((r 19), .inl (ca 0, 180, .inl (fa 18))) :: ((r 20), .inl (ca 0, 180, .inl (fa 19))) :: ((r 21), .inl (ca 0, 3, .inl (fa 20))) :: ((r 22), .inl (ca 1, 3, .inr (.inl (fb 0)))) :: ((r 23), .inl (ca 1, 3, .inr (.inl (fb 1)))) :: ((r 24), .inl (ca 3, 3, .inl (fa 21))) :: ((r 25), .inl (ca 0, 3, .inl (fa 22))) :: ((r 26), .inl (ca 0, 3, .inl (fa 23))) :: ((r 27), .inl (ca 0, 810, .inl (fa 24))) :: ((r 28), .inl (ca 3, 810, .inl (fa 25))) :: ((r 29), .inl (ca 1, 810, .inr (.inl (fb 2)))) :: ((r 30), .inl (ca 0, 810, .inl (fa 26))) :: ((r 31), .inl (ca 0, 3, .inl (fa 27))) :: ((r 32), .inl (ca 0, 60, .inl (fa 28))) :: ((r 33), .inl (ca 0, 4, .inl (fa 29))) :: tl
def Ok_MOD (fi : Nat → Int32) (fa : Nat → Nat → Int32) : Prop := (0 ≤ (fi 0).toInt ∧ (fi 0).toInt ≤ 600) ∧ (0 ≤ (fi 1).toInt ∧ (fi 1).toInt ≤ 600) ∧ (0 ≤ (fi 5).toInt ∧ (fi 5).toInt ≤ 600) ∧ (0 ≤ (fi 9).toInt ∧ (fi 9).toInt ≤ 60) ∧ z_rng (-1) 59 (fa 6) ∧ z_rng 0 59 (fa 8) ∧ z_rng 0 3 (fa 9) ∧ z_rng 0 269 (fa 23) ∧ z_rng 0 5 (fa 27) ∧ z_rng 0 59 (fa 28) ∧ ((fi 2).toInt = 1 → 0 ≤ (fi 3).toInt) ∧ zOkR (fa 1) (fa 27)

set_option maxHeartbeats 8000000 in
set_option maxRecDepth 100000 in
theorem c_X9_plain (l : Launch) (D : va_G) (ca : Nat → ClassId) (sa : Nat → Nat) (A : Nat → Prop) (rest : va_W) (p0 : Int32) : Met l yX9_plain wsX9_plain ({ frames := 0, cells := 0, slots := 0, locals := 0 }) (va_Pc [.int p0] (zPre D ca sa A (rest))) (va_Qi (fun (r : Int32) (u : Unit) => ((p0.toInt = 0 → 2 ≤ r.toInt ∧ r.toInt ≤ 100) ∧ (p0.toInt = 6 → r.toInt = -1))) (fun u t => zPost D A (rest) t) A) 0 0 A := by
  refine Met.ofW (cc := cX9_plain) (maxL := 1) (ret := (some .int)) (by decide) rfl ?_
  intro p e s m args below meth c s₁ B hml hv9
  obtain ⟨rfl, hE, hP, hD⟩ := hv9
  have hx := B.exec
  have hb := B.bytes
  have hr := B.returns
  have hts := atoms_spec (ws := wsX9_plain) B.pre
  have hown : s.vm.findClass RX9 = some m.cls := findClass_of_methodNamed B.named
  have hlocks := B.notSynchronized
  have hK := hE.1
  have hF : CallFix p m c cX9_plain 1 s _ wsX9_plain RX9 := ⟨hx, hb, hml, hown, hts⟩
  have hS : va_S A s.heap s.heap [] := va_S.rf
  generalize hHe : s.heap = H at hP
  have hS : va_S A s.heap H [] := by rw [← hHe]; exact hS
  have hl := lv_entry ([.int p0]) (n := 1) (Nat.le_of_ble_eq_true rfl)
  rw [lg_entry_eq]
  generalize (lg_sl ([.int p0]) ++ List.replicate (1 - (lg_sl ([.int p0])).length) Slot.unset).toArray = ls at hl ⊢
  have hl : lv_has ls 1 [(0, .int p0)] := hl
  generalize hQ9 : MQ below _ _ s 0 0 A = Q9
  refine lv_iload_n hx hb dX9_plain_0 rfl (lv_at hl 0 rfl) ?_
  refine lv_if_ne (tgt := 9) hx hb dX9_plain_1 (by decide) (fun c1 => ?_) (fun c1 => ?_)
  ·
    have c1 := z_ne (i := p0.toInt) (j := 0) rfl (by decide) c1
    refine lv_iload_n hx hb dX9_plain_9 rfl (lv_at hl 0 rfl) ?_
    refine lv_iconst (v := 1) hx hb dX9_plain_10 (by decide) ?_
    refine lv_icmp_ne (tgt := 18) hx hb dX9_plain_11 (by decide) (fun c2 => ?_) (fun c2 => ?_)
    ·
      have c2 := z_ne (i := p0.toInt) (j := 1) rfl (by decide) c2
      refine lv_iload_n hx hb dX9_plain_18 rfl (lv_at hl 0 rfl) ?_
      refine lv_iconst (v := 2) hx hb dX9_plain_19 (by decide) ?_
      refine lv_icmp_ne (tgt := 27) hx hb dX9_plain_20 (by decide) (fun c3 => ?_) (fun c3 => ?_)
      ·
        have c3 := z_ne (i := p0.toInt) (j := 2) rfl (by decide) c3
        refine lv_iload_n hx hb dX9_plain_27 rfl (lv_at hl 0 rfl) ?_
        refine lv_iconst (v := 3) hx hb dX9_plain_28 (by decide) ?_
        refine lv_icmp_ne (tgt := 36) hx hb dX9_plain_29 (by decide) (fun c4 => ?_) (fun c4 => ?_)
        ·
          have c4 := z_ne (i := p0.toInt) (j := 3) rfl (by decide) c4
          refine lv_iload_n hx hb dX9_plain_36 rfl (lv_at hl 0 rfl) ?_
          refine lv_iconst (v := 4) hx hb dX9_plain_37 (by decide) ?_
          refine lv_icmp_ne (tgt := 45) hx hb dX9_plain_38 (by decide) (fun c5 => ?_) (fun c5 => ?_)
          ·
            have c5 := z_ne (i := p0.toInt) (j := 4) rfl (by decide) c5
            refine lv_iload_n hx hb dX9_plain_45 rfl (lv_at hl 0 rfl) ?_
            refine lv_iconst (v := 5) hx hb dX9_plain_46 (by decide) ?_
            refine lv_icmp_ne (tgt := 54) hx hb dX9_plain_47 (by decide) (fun c6 => ?_) (fun c6 => ?_)
            ·
              have c6 := z_ne (i := p0.toInt) (j := 5) rfl (by decide) c6
              refine lv_iload_n hx hb dX9_plain_54 rfl (lv_at hl 0 rfl) ?_
              refine lv_bipush (v := 6) hx hb dX9_plain_55 (by decide) ?_
              refine lv_icmp_ne (tgt := 64) hx hb dX9_plain_57 (by decide) (fun c7 => ?_) (fun c7 => ?_)
              ·
                have c7 := z_ne (i := p0.toInt) (j := 6) rfl (by decide) c7
                refine lv_iconst (v := 1) hx hb dX9_plain_64 (by decide) ?_
                subst hQ9
                refine lv_topi (fun t8 et8 => ?_)
                have ht8 : t8.toInt = 1 := by rw [et8]; decide
                have hq9 : (p0.toInt = 0 → 2 ≤ t8.toInt ∧ t8.toInt ≤ 100) ∧ (p0.toInt = 6 → t8.toInt = -1) := by omega
                exact W.iret (v := t8) hx hb hr (fun t ht hW => ⟨⟨t8, (), rfl, hq9, ⟨by rw [ht]; exact hP, hD⟩⟩, hS.F ht⟩) hS.2.2 dX9_plain_65
              ·
                have c7 := z_eq (i := p0.toInt) (j := 6) rfl (by decide) c7
                refine lv_iconst (v := (-1)) hx hb dX9_plain_60 (by decide) ?_
                refine lv_goto (tgt := 65) hx hb dX9_plain_61 (by decide) ?_
                subst hQ9
                refine lv_topi (fun t10 et10 => ?_)
                have ht10 : t10.toInt = (-1) := by rw [et10]; decide
                have hq11 : (p0.toInt = 0 → 2 ≤ t10.toInt ∧ t10.toInt ≤ 100) ∧ (p0.toInt = 6 → t10.toInt = -1) := by omega
                exact W.iret (v := t10) hx hb hr (fun t ht hW => ⟨⟨t10, (), rfl, hq11, ⟨by rw [ht]; exact hP, hD⟩⟩, hS.F ht⟩) hS.2.2 dX9_plain_65
            ·
              have c6 := z_eq (i := p0.toInt) (j := 5) rfl (by decide) c6
              refine lv_iconst (v := 1) hx hb dX9_plain_50 (by decide) ?_
              refine lv_goto (tgt := 65) hx hb dX9_plain_51 (by decide) ?_
              subst hQ9
              refine lv_topi (fun t12 et12 => ?_)
              have ht12 : t12.toInt = 1 := by rw [et12]; decide
              have hq13 : (p0.toInt = 0 → 2 ≤ t12.toInt ∧ t12.toInt ≤ 100) ∧ (p0.toInt = 6 → t12.toInt = -1) := by omega
              exact W.iret (v := t12) hx hb hr (fun t ht hW => ⟨⟨t12, (), rfl, hq13, ⟨by rw [ht]; exact hP, hD⟩⟩, hS.F ht⟩) hS.2.2 dX9_plain_65
          ·
            have c5 := z_eq (i := p0.toInt) (j := 4) rfl (by decide) c5
            refine lv_iconst (v := 0) hx hb dX9_plain_41 (by decide) ?_
            refine lv_goto (tgt := 65) hx hb dX9_plain_42 (by decide) ?_
            subst hQ9
            refine lv_topi (fun t14 et14 => ?_)
            have ht14 : t14.toInt = 0 := by rw [et14]; decide
            have hq15 : (p0.toInt = 0 → 2 ≤ t14.toInt ∧ t14.toInt ≤ 100) ∧ (p0.toInt = 6 → t14.toInt = -1) := by omega
            exact W.iret (v := t14) hx hb hr (fun t ht hW => ⟨⟨t14, (), rfl, hq15, ⟨by rw [ht]; exact hP, hD⟩⟩, hS.F ht⟩) hS.2.2 dX9_plain_65
        ·
          have c4 := z_eq (i := p0.toInt) (j := 3) rfl (by decide) c4
          refine lv_iconst (v := 3) hx hb dX9_plain_32 (by decide) ?_
          refine lv_goto (tgt := 65) hx hb dX9_plain_33 (by decide) ?_
          subst hQ9
          refine lv_topi (fun t16 et16 => ?_)
          have ht16 : t16.toInt = 3 := by rw [et16]; decide
          have hq17 : (p0.toInt = 0 → 2 ≤ t16.toInt ∧ t16.toInt ≤ 100) ∧ (p0.toInt = 6 → t16.toInt = -1) := by omega
          exact W.iret (v := t16) hx hb hr (fun t ht hW => ⟨⟨t16, (), rfl, hq17, ⟨by rw [ht]; exact hP, hD⟩⟩, hS.F ht⟩) hS.2.2 dX9_plain_65
      ·
        have c3 := z_eq (i := p0.toInt) (j := 2) rfl (by decide) c3
        refine lv_iconst (v := 2) hx hb dX9_plain_23 (by decide) ?_
        refine lv_goto (tgt := 65) hx hb dX9_plain_24 (by decide) ?_
        subst hQ9
        refine lv_topi (fun t18 et18 => ?_)
        have ht18 : t18.toInt = 2 := by rw [et18]; decide
        have hq19 : (p0.toInt = 0 → 2 ≤ t18.toInt ∧ t18.toInt ≤ 100) ∧ (p0.toInt = 6 → t18.toInt = -1) := by omega
        exact W.iret (v := t18) hx hb hr (fun t ht hW => ⟨⟨t18, (), rfl, hq19, ⟨by rw [ht]; exact hP, hD⟩⟩, hS.F ht⟩) hS.2.2 dX9_plain_65
    ·
      have c2 := z_eq (i := p0.toInt) (j := 1) rfl (by decide) c2
      refine lv_iconst (v := 4) hx hb dX9_plain_14 (by decide) ?_
      refine lv_goto (tgt := 65) hx hb dX9_plain_15 (by decide) ?_
      subst hQ9
      refine lv_topi (fun t20 et20 => ?_)
      have ht20 : t20.toInt = 4 := by rw [et20]; decide
      have hq21 : (p0.toInt = 0 → 2 ≤ t20.toInt ∧ t20.toInt ≤ 100) ∧ (p0.toInt = 6 → t20.toInt = -1) := by omega
      exact W.iret (v := t20) hx hb hr (fun t ht hW => ⟨⟨t20, (), rfl, hq21, ⟨by rw [ht]; exact hP, hD⟩⟩, hS.F ht⟩) hS.2.2 dX9_plain_65
  ·
    have c1 := z_eq (i := p0.toInt) (j := 0) rfl (by decide) c1
    refine lv_bipush (v := 20) hx hb dX9_plain_4 (by decide) ?_
    refine lv_goto (tgt := 65) hx hb dX9_plain_6 (by decide) ?_
    subst hQ9
    refine lv_topi (fun t22 et22 => ?_)
    have ht22 : t22.toInt = 20 := by rw [et22]; decide
    have hq23 : (p0.toInt = 0 → 2 ≤ t22.toInt ∧ t22.toInt ≤ 100) ∧ (p0.toInt = 6 → t22.toInt = -1) := by omega
    exact W.iret (v := t22) hx hb hr (fun t ht hW => ⟨⟨t22, (), rfl, hq23, ⟨by rw [ht]; exact hP, hD⟩⟩, hS.F ht⟩) hS.2.2 dX9_plain_65

set_option maxHeartbeats 8000000 in
set_option maxRecDepth 100000 in
theorem c_X9_low (l : Launch) (D : va_G) (ca : Nat → ClassId) (sa : Nat → Nat) (A : Nat → Prop) (rest : va_W) (p0 : Int32) : Met l yX9_low wsX9_low ({ frames := 0, cells := 0, slots := 0, locals := 0 }) (va_Pc [.int p0] (zPre D ca sa A (rest))) (va_Qi (fun (r : Int32) (u : Unit) => ((p0.toInt = 0 → r.toInt = 2) ∧ (p0.toInt = 6 → r.toInt = 1) ∧ 0 ≤ r.toInt ∧ r.toInt ≤ 2)) (fun u t => zPost D A (rest) t) A) 0 0 A := by
  refine Met.ofW (cc := cX9_low) (maxL := 1) (ret := (some .int)) (by decide) rfl ?_
  intro p e s m args below meth c s₁ B hml hv9
  obtain ⟨rfl, hE, hP, hD⟩ := hv9
  have hx := B.exec
  have hb := B.bytes
  have hr := B.returns
  have hts := atoms_spec (ws := wsX9_low) B.pre
  have hown : s.vm.findClass RX9 = some m.cls := findClass_of_methodNamed B.named
  have hlocks := B.notSynchronized
  have hK := hE.1
  have hF : CallFix p m c cX9_low 1 s _ wsX9_low RX9 := ⟨hx, hb, hml, hown, hts⟩
  have hS : va_S A s.heap s.heap [] := va_S.rf
  generalize hHe : s.heap = H at hP
  have hS : va_S A s.heap H [] := by rw [← hHe]; exact hS
  have hl := lv_entry ([.int p0]) (n := 1) (Nat.le_of_ble_eq_true rfl)
  rw [lg_entry_eq]
  generalize (lg_sl ([.int p0]) ++ List.replicate (1 - (lg_sl ([.int p0])).length) Slot.unset).toArray = ls at hl ⊢
  have hl : lv_has ls 1 [(0, .int p0)] := hl
  generalize hQ9 : MQ below _ _ s 0 0 A = Q9
  refine lv_iload_n hx hb dX9_low_0 rfl (lv_at hl 0 rfl) ?_
  refine lv_if_ne (tgt := 8) hx hb dX9_low_1 (by decide) (fun c1 => ?_) (fun c1 => ?_)
  ·
    have c1 := z_ne (i := p0.toInt) (j := 0) rfl (by decide) c1
    refine lv_iload_n hx hb dX9_low_8 rfl (lv_at hl 0 rfl) ?_
    refine lv_iconst (v := 1) hx hb dX9_low_9 (by decide) ?_
    have J24_2 : ∀ (ls : Array Slot) (hl : lv_has ls 1 []), W p l e (headSpec wsX9_low ({ frames := 0, cells := 0, slots := 0, locals := 0 })).room s m ([.int p0] : List Value).toArray below meth c H [] 0 0 Q9 (F0 m 24 ls []) := by
      intro ls hl
      refine lv_iconst (v := 1) hx hb dX9_low_24 (by decide) ?_
      refine lv_goto (tgt := 29) hx hb dX9_low_25 (by decide) ?_
      subst hQ9
      refine lv_topi (fun t3 et3 => ?_)
      have ht3 : t3.toInt = 1 := by rw [et3]; decide
      have hq4 : (p0.toInt = 0 → t3.toInt = 2) ∧ (p0.toInt = 6 → t3.toInt = 1) ∧ 0 ≤ t3.toInt ∧ t3.toInt ≤ 2 := by omega
      exact W.iret (v := t3) hx hb hr (fun t ht hW => ⟨⟨t3, (), rfl, hq4, ⟨by rw [ht]; exact hP, hD⟩⟩, hS.F ht⟩) hS.2.2 dX9_low_29
    refine lv_icmp_eq (tgt := 24) hx hb dX9_low_10 (by decide) (fun c5 => ?_) (fun c5 => ?_)
    ·
      have c5 := z_eq (i := p0.toInt) (j := 1) rfl (by decide) c5
      exact J24_2 ls (lv_sub hl [] rfl)
    ·
      have c5 := z_ne (i := p0.toInt) (j := 1) rfl (by decide) c5
      refine lv_iload_n hx hb dX9_low_13 rfl (lv_at hl 0 rfl) ?_
      refine lv_iconst (v := 3) hx hb dX9_low_14 (by decide) ?_
      refine lv_icmp_eq (tgt := 24) hx hb dX9_low_15 (by decide) (fun c6 => ?_) (fun c6 => ?_)
      ·
        have c6 := z_eq (i := p0.toInt) (j := 3) rfl (by decide) c6
        exact J24_2 ls (lv_sub hl [] rfl)
      ·
        have c6 := z_ne (i := p0.toInt) (j := 3) rfl (by decide) c6
        refine lv_iload_n hx hb dX9_low_18 rfl (lv_at hl 0 rfl) ?_
        refine lv_bipush (v := 6) hx hb dX9_low_19 (by decide) ?_
        refine lv_icmp_ne (tgt := 28) hx hb dX9_low_21 (by decide) (fun c7 => ?_) (fun c7 => ?_)
        ·
          have c7 := z_ne (i := p0.toInt) (j := 6) rfl (by decide) c7
          refine lv_iconst (v := 0) hx hb dX9_low_28 (by decide) ?_
          subst hQ9
          refine lv_topi (fun t8 et8 => ?_)
          have ht8 : t8.toInt = 0 := by rw [et8]; decide
          have hq9 : (p0.toInt = 0 → t8.toInt = 2) ∧ (p0.toInt = 6 → t8.toInt = 1) ∧ 0 ≤ t8.toInt ∧ t8.toInt ≤ 2 := by omega
          exact W.iret (v := t8) hx hb hr (fun t ht hW => ⟨⟨t8, (), rfl, hq9, ⟨by rw [ht]; exact hP, hD⟩⟩, hS.F ht⟩) hS.2.2 dX9_low_29
        ·
          have c7 := z_eq (i := p0.toInt) (j := 6) rfl (by decide) c7
          exact J24_2 ls (lv_sub hl [] rfl)
  ·
    have c1 := z_eq (i := p0.toInt) (j := 0) rfl (by decide) c1
    refine lv_iconst (v := 2) hx hb dX9_low_4 (by decide) ?_
    refine lv_goto (tgt := 29) hx hb dX9_low_5 (by decide) ?_
    subst hQ9
    refine lv_topi (fun t10 et10 => ?_)
    have ht10 : t10.toInt = 2 := by rw [et10]; decide
    have hq11 : (p0.toInt = 0 → t10.toInt = 2) ∧ (p0.toInt = 6 → t10.toInt = 1) ∧ 0 ≤ t10.toInt ∧ t10.toInt ≤ 2 := by omega
    exact W.iret (v := t10) hx hb hr (fun t ht hW => ⟨⟨t10, (), rfl, hq11, ⟨by rw [ht]; exact hP, hD⟩⟩, hS.F ht⟩) hS.2.2 dX9_low_29

set_option maxHeartbeats 8000000 in
set_option maxRecDepth 100000 in
theorem c_X9_high (l : Launch) (D : va_G) (ca : Nat → ClassId) (sa : Nat → Nat) (A : Nat → Prop) (rest : va_W) (p0 : Int32) : Met l yX9_high wsX9_high ({ frames := 0, cells := 0, slots := 0, locals := 0 }) (va_Pc [.int p0] (zPre D ca sa A (rest))) (va_Qi (fun (r : Int32) (u : Unit) => (9 ≤ r.toInt ∧ r.toInt ≤ 100 ∧ (p0.toInt = 6 → r.toInt = 50))) (fun u t => zPost D A (rest) t) A) 0 0 A := by
  refine Met.ofW (cc := cX9_high) (maxL := 1) (ret := (some .int)) (by decide) rfl ?_
  intro p e s m args below meth c s₁ B hml hv9
  obtain ⟨rfl, hE, hP, hD⟩ := hv9
  have hx := B.exec
  have hb := B.bytes
  have hr := B.returns
  have hts := atoms_spec (ws := wsX9_high) B.pre
  have hown : s.vm.findClass RX9 = some m.cls := findClass_of_methodNamed B.named
  have hlocks := B.notSynchronized
  have hK := hE.1
  have hF : CallFix p m c cX9_high 1 s _ wsX9_high RX9 := ⟨hx, hb, hml, hown, hts⟩
  have hS : va_S A s.heap s.heap [] := va_S.rf
  generalize hHe : s.heap = H at hP
  have hS : va_S A s.heap H [] := by rw [← hHe]; exact hS
  have hl := lv_entry ([.int p0]) (n := 1) (Nat.le_of_ble_eq_true rfl)
  rw [lg_entry_eq]
  generalize (lg_sl ([.int p0]) ++ List.replicate (1 - (lg_sl ([.int p0])).length) Slot.unset).toArray = ls at hl ⊢
  have hl : lv_has ls 1 [(0, .int p0)] := hl
  generalize hQ9 : MQ below _ _ s 0 0 A = Q9
  refine lv_iload_n hx hb dX9_high_0 rfl (lv_at hl 0 rfl) ?_
  refine lv_if_ne (tgt := 9) hx hb dX9_high_1 (by decide) (fun c1 => ?_) (fun c1 => ?_)
  ·
    have c1 := z_ne (i := p0.toInt) (j := 0) rfl (by decide) c1
    refine lv_iload_n hx hb dX9_high_9 rfl (lv_at hl 0 rfl) ?_
    refine lv_iconst (v := 3) hx hb dX9_high_10 (by decide) ?_
    have J19_2 : ∀ (ls : Array Slot) (hl : lv_has ls 1 []) (hf2_0 : p0.toInt = 3 ∨ p0.toInt = 5), W p l e (headSpec wsX9_high ({ frames := 0, cells := 0, slots := 0, locals := 0 })).room s m ([.int p0] : List Value).toArray below meth c H [] 0 0 Q9 (F0 m 19 ls []) := by
      intro ls hl hf2_0
      refine lv_bipush (v := 9) hx hb dX9_high_19 (by decide) ?_
      refine lv_goto (tgt := 26) hx hb dX9_high_21 (by decide) ?_
      subst hQ9
      refine lv_topi (fun t3 et3 => ?_)
      have ht3 : t3.toInt = 9 := by rw [et3]; decide
      have hq4 : 9 ≤ t3.toInt ∧ t3.toInt ≤ 100 ∧ (p0.toInt = 6 → t3.toInt = 50) := by omega
      exact W.iret (v := t3) hx hb hr (fun t ht hW => ⟨⟨t3, (), rfl, hq4, ⟨by rw [ht]; exact hP, hD⟩⟩, hS.F ht⟩) hS.2.2 dX9_high_26
    refine lv_icmp_eq (tgt := 19) hx hb dX9_high_11 (by decide) (fun c5 => ?_) (fun c5 => ?_)
    ·
      have c5 := z_eq (i := p0.toInt) (j := 3) rfl (by decide) c5
      have hj6 : p0.toInt = 3 ∨ p0.toInt = 5 := by omega
      exact J19_2 ls (lv_sub hl [] rfl) hj6
    ·
      have c5 := z_ne (i := p0.toInt) (j := 3) rfl (by decide) c5
      refine lv_iload_n hx hb dX9_high_14 rfl (lv_at hl 0 rfl) ?_
      refine lv_iconst (v := 5) hx hb dX9_high_15 (by decide) ?_
      refine lv_icmp_ne (tgt := 24) hx hb dX9_high_16 (by decide) (fun c7 => ?_) (fun c7 => ?_)
      ·
        have c7 := z_ne (i := p0.toInt) (j := 5) rfl (by decide) c7
        refine lv_bipush (v := 50) hx hb dX9_high_24 (by decide) ?_
        subst hQ9
        refine lv_topi (fun t8 et8 => ?_)
        have ht8 : t8.toInt = 50 := by rw [et8]; decide
        have hq9 : 9 ≤ t8.toInt ∧ t8.toInt ≤ 100 ∧ (p0.toInt = 6 → t8.toInt = 50) := by omega
        exact W.iret (v := t8) hx hb hr (fun t ht hW => ⟨⟨t8, (), rfl, hq9, ⟨by rw [ht]; exact hP, hD⟩⟩, hS.F ht⟩) hS.2.2 dX9_high_26
      ·
        have c7 := z_eq (i := p0.toInt) (j := 5) rfl (by decide) c7
        have hj10 : p0.toInt = 3 ∨ p0.toInt = 5 := by omega
        exact J19_2 ls (lv_sub hl [] rfl) hj10
  ·
    have c1 := z_eq (i := p0.toInt) (j := 0) rfl (by decide) c1
    refine lv_bipush (v := 100) hx hb dX9_high_4 (by decide) ?_
    refine lv_goto (tgt := 26) hx hb dX9_high_6 (by decide) ?_
    subst hQ9
    refine lv_topi (fun t11 et11 => ?_)
    have ht11 : t11.toInt = 100 := by rw [et11]; decide
    have hq12 : 9 ≤ t11.toInt ∧ t11.toInt ≤ 100 ∧ (p0.toInt = 6 → t11.toInt = 50) := by omega
    exact W.iret (v := t11) hx hb hr (fun t ht hW => ⟨⟨t11, (), rfl, hq12, ⟨by rw [ht]; exact hP, hD⟩⟩, hS.F ht⟩) hS.2.2 dX9_high_26

set_option maxHeartbeats 8000000 in
set_option maxRecDepth 100000 in
theorem c_X9_feed (l : Launch) (D : va_G) (ca : Nat → ClassId) (sa : Nat → Nat) (A : Nat → Prop) (rest : va_W) (r0 : Nat → Nat) (fi0 : Nat → Int32) (fl0 : Nat → Int64) (fa0 : Nat → Nat → Int32) (fb0 : Nat → Nat → Int64) (hv0 : Ok_MOD fi0 fa0) (p1 : Int32) (p2 : Int32) (p3 : Int32) (p4 : Int32) (p5 : Int32) : Met l yX9_feed wsX9_feed ({ frames := 0, cells := 0, slots := 0, locals := 0 }) (va_Pc [.ref (r0 0), .int p1, .int p2, .int p3, .int p4, .int p5] (zPre D ca sa A (w_MOD ca r0 fi0 fl0 fa0 fb0 (rest)))) (va_Qi (fun (r : Int32) (u : zS) => Ok_MOD (zx [0] fi0 u.1) (zx [0] fa0 u.2.2.1)) (fun u t => zPost D A (w_MOD ca r0 (zx [0] fi0 u.1) (zx [] fl0 u.2.1) (zx [0] fa0 u.2.2.1) (zx [] fb0 u.2.2.2) (rest)) t) A) 0 0 A := by
  refine Met.ofW (cc := cX9_feed) (maxL := 9) (ret := (some .int)) (by decide) rfl ?_
  intro p e s m args below meth c s₁ B hml hv9
  obtain ⟨rfl, hE, hP, hD⟩ := hv9
  have hx := B.exec
  have hb := B.bytes
  have hr := B.returns
  have hts := atoms_spec (ws := wsX9_feed) B.pre
  have hown : s.vm.findClass RX9 = some m.cls := findClass_of_methodNamed B.named
  have hlocks := B.notSynchronized
  have hK := hE.1
  have hF : CallFix p m c cX9_feed 9 s _ wsX9_feed RX9 := ⟨hx, hb, hml, hown, hts⟩
  have hS : va_S A s.heap s.heap [] := va_S.rf
  have lk123 := hts (.fieldLink RX9 123 "BranchPlayModel" "taped" "I") (by decide +kernel)
  have inX9 : ∀ w ∈ wsX90, w ∈ wsX9_feed := by decide +kernel
  have lk7 := hts (.fieldLink RX9 7 "BranchPlayModel" "tape" "[B") (by decide +kernel)
  obtain ⟨⟨hv0i0, hv0j0⟩, ⟨hv0i1, hv0j1⟩, ⟨hv0i5, hv0j5⟩, ⟨hv0i9, hv0j9⟩, hv0a6, hv0a8, hv0a9, hv0a23, hv0a27, hv0a28, hv0x0, hv0y0⟩ := hv0
  generalize hHe : s.heap = H at hP
  have hS : va_S A s.heap H [] := by rw [← hHe]; exact hS
  have hP : va_P D vwCl (((r0 0), .inr (9, [.ref (r0 1), .int (fi0 0), .int (fi0 1), .int (fi0 2), .int (fi0 3), .int (fi0 4), .int (fi0 5), .int (fi0 6), .int (fi0 7), .int (fi0 8), .ref (r0 2), .int (fi0 9), .ref (r0 3), .ref (r0 4), .ref (r0 5), .ref (r0 6), .ref (r0 7), .ref (r0 8), .ref (r0 9), .ref (r0 10), .ref (r0 11), .ref (r0 12), .ref (r0 13), .ref (r0 14), .ref (r0 15), .ref (r0 16), .ref (r0 17), .ref (r0 18), .ref (r0 19), .ref (r0 20), .ref (r0 21), .ref (r0 22), .ref (r0 23), .ref (r0 24), .ref (r0 25), .ref (r0 26), .ref (r0 27), .ref (r0 28), .ref (r0 29), .ref (r0 30), .ref (r0 31), .ref (r0 32), .int (fi0 10), .ref (r0 33)])) :: ((r0 1), .inl (ca 2, 600, .inl (fa0 0))) :: ((r0 2), .inl (ca 0, 48, .inl (fa0 1))) :: ((r0 3), .inl (ca 0, 60, .inl (fa0 2))) :: ((r0 4), .inl (ca 0, 60, .inl (fa0 3))) :: ((r0 5), .inl (ca 0, 60, .inl (fa0 4))) :: ((r0 6), .inl (ca 0, 60, .inl (fa0 5))) :: ((r0 7), .inl (ca 0, 60, .inl (fa0 6))) :: ((r0 8), .inl (ca 0, 60, .inl (fa0 7))) :: ((r0 9), .inl (ca 0, 180, .inl (fa0 8))) :: ((r0 10), .inl (ca 0, 60, .inl (fa0 9))) :: ((r0 11), .inl (ca 0, 180, .inl (fa0 10))) :: ((r0 12), .inl (ca 0, 180, .inl (fa0 11))) :: ((r0 13), .inl (ca 0, 180, .inl (fa0 12))) :: ((r0 14), .inl (ca 0, 180, .inl (fa0 13))) :: ((r0 15), .inl (ca 0, 180, .inl (fa0 14))) :: ((r0 16), .inl (ca 0, 180, .inl (fa0 15))) :: ((r0 17), .inl (ca 0, 180, .inl (fa0 16))) :: ((r0 18), .inl (ca 0, 180, .inl (fa0 17))) :: ((r0 19), .inl (ca 0, 180, .inl (fa0 18))) :: ((r0 20), .inl (ca 0, 180, .inl (fa0 19))) :: ((r0 21), .inl (ca 0, 3, .inl (fa0 20))) :: ((r0 22), .inl (ca 1, 3, .inr (.inl (fb0 0)))) :: ((r0 23), .inl (ca 1, 3, .inr (.inl (fb0 1)))) :: ((r0 24), .inl (ca 3, 3, .inl (fa0 21))) :: ((r0 25), .inl (ca 0, 3, .inl (fa0 22))) :: ((r0 26), .inl (ca 0, 3, .inl (fa0 23))) :: ((r0 27), .inl (ca 0, 810, .inl (fa0 24))) :: ((r0 28), .inl (ca 3, 810, .inl (fa0 25))) :: ((r0 29), .inl (ca 1, 810, .inr (.inl (fb0 2)))) :: ((r0 30), .inl (ca 0, 810, .inl (fa0 26))) :: ((r0 31), .inl (ca 0, 3, .inl (fa0 27))) :: ((r0 32), .inl (ca 0, 60, .inl (fa0 28))) :: ((r0 33), .inl (ca 0, 4, .inl (fa0 29))) :: rest) H := hP
  have hD : va_D A (((r0 0), .inr (9, [.ref (r0 1), .int (fi0 0), .int (fi0 1), .int (fi0 2), .int (fi0 3), .int (fi0 4), .int (fi0 5), .int (fi0 6), .int (fi0 7), .int (fi0 8), .ref (r0 2), .int (fi0 9), .ref (r0 3), .ref (r0 4), .ref (r0 5), .ref (r0 6), .ref (r0 7), .ref (r0 8), .ref (r0 9), .ref (r0 10), .ref (r0 11), .ref (r0 12), .ref (r0 13), .ref (r0 14), .ref (r0 15), .ref (r0 16), .ref (r0 17), .ref (r0 18), .ref (r0 19), .ref (r0 20), .ref (r0 21), .ref (r0 22), .ref (r0 23), .ref (r0 24), .ref (r0 25), .ref (r0 26), .ref (r0 27), .ref (r0 28), .ref (r0 29), .ref (r0 30), .ref (r0 31), .ref (r0 32), .int (fi0 10), .ref (r0 33)])) :: ((r0 1), .inl (ca 2, 600, .inl (fa0 0))) :: ((r0 2), .inl (ca 0, 48, .inl (fa0 1))) :: ((r0 3), .inl (ca 0, 60, .inl (fa0 2))) :: ((r0 4), .inl (ca 0, 60, .inl (fa0 3))) :: ((r0 5), .inl (ca 0, 60, .inl (fa0 4))) :: ((r0 6), .inl (ca 0, 60, .inl (fa0 5))) :: ((r0 7), .inl (ca 0, 60, .inl (fa0 6))) :: ((r0 8), .inl (ca 0, 60, .inl (fa0 7))) :: ((r0 9), .inl (ca 0, 180, .inl (fa0 8))) :: ((r0 10), .inl (ca 0, 60, .inl (fa0 9))) :: ((r0 11), .inl (ca 0, 180, .inl (fa0 10))) :: ((r0 12), .inl (ca 0, 180, .inl (fa0 11))) :: ((r0 13), .inl (ca 0, 180, .inl (fa0 12))) :: ((r0 14), .inl (ca 0, 180, .inl (fa0 13))) :: ((r0 15), .inl (ca 0, 180, .inl (fa0 14))) :: ((r0 16), .inl (ca 0, 180, .inl (fa0 15))) :: ((r0 17), .inl (ca 0, 180, .inl (fa0 16))) :: ((r0 18), .inl (ca 0, 180, .inl (fa0 17))) :: ((r0 19), .inl (ca 0, 180, .inl (fa0 18))) :: ((r0 20), .inl (ca 0, 180, .inl (fa0 19))) :: ((r0 21), .inl (ca 0, 3, .inl (fa0 20))) :: ((r0 22), .inl (ca 1, 3, .inr (.inl (fb0 0)))) :: ((r0 23), .inl (ca 1, 3, .inr (.inl (fb0 1)))) :: ((r0 24), .inl (ca 3, 3, .inl (fa0 21))) :: ((r0 25), .inl (ca 0, 3, .inl (fa0 22))) :: ((r0 26), .inl (ca 0, 3, .inl (fa0 23))) :: ((r0 27), .inl (ca 0, 810, .inl (fa0 24))) :: ((r0 28), .inl (ca 3, 810, .inl (fa0 25))) :: ((r0 29), .inl (ca 1, 810, .inr (.inl (fb0 2)))) :: ((r0 30), .inl (ca 0, 810, .inl (fa0 26))) :: ((r0 31), .inl (ca 0, 3, .inl (fa0 27))) :: ((r0 32), .inl (ca 0, 60, .inl (fa0 28))) :: ((r0 33), .inl (ca 0, 4, .inl (fa0 29))) :: rest) := hD
  have hl := lv_entry ([.ref (r0 0), .int p1, .int p2, .int p3, .int p4, .int p5]) (n := 9) (Nat.le_of_ble_eq_true rfl)
  rw [lg_entry_eq]
  generalize (lg_sl ([.ref (r0 0), .int p1, .int p2, .int p3, .int p4, .int p5]) ++ List.replicate (9 - (lg_sl ([.ref (r0 0), .int p1, .int p2, .int p3, .int p4, .int p5])).length) Slot.unset).toArray = ls at hl ⊢
  have hl : lv_has ls 9 [(0, .ref (r0 0)), (1, .int p1), (2, .int p2), (3, .int p3), (4, .int p4), (5, .int p5)] := hl
  generalize hQ9 : MQ below _ _ s 0 0 A = Q9
  refine lv_aload_n hx hb dX9_feed_0 rfl (lv_at hl 0 rfl) ?_
  refine va_get (D := D) (ci := 9) (v := .int (fi0 0)) (C := RX9) (T := TX9) (N := 44) hx hb hts inX9 hown hK hP 0 rfl rfl 1 (by decide) lk123 (fun _ h9 => h9) rfl dX9_feed_1 ?_
  refine lv_bipush (v := 20) hx hb dX9_feed_4 (by decide) ?_
  refine lv_iadd hx hb dX9_feed_6 ?_
  refine lv_topi (fun t1 et1 => ?_)
  try have ht1 : t1.toInt = (fi0 0).toInt + 20 := z_add et1 rfl (by decide) (by omega) (by omega)
  refine lv_sipush (v := 600) hx hb dX9_feed_7 (by decide) ?_
  refine lv_icmp_le (tgt := 16) hx hb dX9_feed_10 (by decide) (fun c2 => ?_) (fun c2 => ?_)
  ·
    have c2 := z_le (i := t1.toInt) (j := 600) rfl (by decide) c2
    refine lv_iconst (v := 0) hx hb dX9_feed_16 (by decide) ?_
    refine lv_topi (fun t3 et3 => ?_)
    have ht3 : t3.toInt = 0 := by rw [et3]; decide
    refine lv_istore (lv' := [(6, .int t3), (0, .ref (r0 0)), (1, .int p1), (2, .int p2), (3, .int p3), (4, .int p4), (5, .int p5)]) hx hb dX9_feed_17 hl (by decide) rfl (fun ls hl => ?_)
    have J19_4 : ∀ (n4 : Nat) (x6_4 : Int32) (gi0_4 : Nat → Int32) (gl0_4 : Nat → Int64) (ga0_4 : Nat → Nat → Int32) (gb0_4 : Nat → Nat → Int64) (H : Heap) (locs : List Loc) (hP : va_P D vwCl (((r0 0), .inr (9, [.ref (r0 1), .int (gi0_4 0), .int (fi0 1), .int (fi0 2), .int (fi0 3), .int (fi0 4), .int (fi0 5), .int (fi0 6), .int (fi0 7), .int (fi0 8), .ref (r0 2), .int (fi0 9), .ref (r0 3), .ref (r0 4), .ref (r0 5), .ref (r0 6), .ref (r0 7), .ref (r0 8), .ref (r0 9), .ref (r0 10), .ref (r0 11), .ref (r0 12), .ref (r0 13), .ref (r0 14), .ref (r0 15), .ref (r0 16), .ref (r0 17), .ref (r0 18), .ref (r0 19), .ref (r0 20), .ref (r0 21), .ref (r0 22), .ref (r0 23), .ref (r0 24), .ref (r0 25), .ref (r0 26), .ref (r0 27), .ref (r0 28), .ref (r0 29), .ref (r0 30), .ref (r0 31), .ref (r0 32), .int (fi0 10), .ref (r0 33)])) :: ((r0 1), .inl (ca 2, 600, .inl (ga0_4 0))) :: ((r0 2), .inl (ca 0, 48, .inl (fa0 1))) :: ((r0 3), .inl (ca 0, 60, .inl (fa0 2))) :: ((r0 4), .inl (ca 0, 60, .inl (fa0 3))) :: ((r0 5), .inl (ca 0, 60, .inl (fa0 4))) :: ((r0 6), .inl (ca 0, 60, .inl (fa0 5))) :: ((r0 7), .inl (ca 0, 60, .inl (fa0 6))) :: ((r0 8), .inl (ca 0, 60, .inl (fa0 7))) :: ((r0 9), .inl (ca 0, 180, .inl (fa0 8))) :: ((r0 10), .inl (ca 0, 60, .inl (fa0 9))) :: ((r0 11), .inl (ca 0, 180, .inl (fa0 10))) :: ((r0 12), .inl (ca 0, 180, .inl (fa0 11))) :: ((r0 13), .inl (ca 0, 180, .inl (fa0 12))) :: ((r0 14), .inl (ca 0, 180, .inl (fa0 13))) :: ((r0 15), .inl (ca 0, 180, .inl (fa0 14))) :: ((r0 16), .inl (ca 0, 180, .inl (fa0 15))) :: ((r0 17), .inl (ca 0, 180, .inl (fa0 16))) :: ((r0 18), .inl (ca 0, 180, .inl (fa0 17))) :: ((r0 19), .inl (ca 0, 180, .inl (fa0 18))) :: ((r0 20), .inl (ca 0, 180, .inl (fa0 19))) :: ((r0 21), .inl (ca 0, 3, .inl (fa0 20))) :: ((r0 22), .inl (ca 1, 3, .inr (.inl (fb0 0)))) :: ((r0 23), .inl (ca 1, 3, .inr (.inl (fb0 1)))) :: ((r0 24), .inl (ca 3, 3, .inl (fa0 21))) :: ((r0 25), .inl (ca 0, 3, .inl (fa0 22))) :: ((r0 26), .inl (ca 0, 3, .inl (fa0 23))) :: ((r0 27), .inl (ca 0, 810, .inl (fa0 24))) :: ((r0 28), .inl (ca 3, 810, .inl (fa0 25))) :: ((r0 29), .inl (ca 1, 810, .inr (.inl (fb0 2)))) :: ((r0 30), .inl (ca 0, 810, .inl (fa0 26))) :: ((r0 31), .inl (ca 0, 3, .inl (fa0 27))) :: ((r0 32), .inl (ca 0, 60, .inl (fa0 28))) :: ((r0 33), .inl (ca 0, 4, .inl (fa0 29))) :: rest) H) (hD : va_D A (((r0 0), .inr (9, [.ref (r0 1), .int (gi0_4 0), .int (fi0 1), .int (fi0 2), .int (fi0 3), .int (fi0 4), .int (fi0 5), .int (fi0 6), .int (fi0 7), .int (fi0 8), .ref (r0 2), .int (fi0 9), .ref (r0 3), .ref (r0 4), .ref (r0 5), .ref (r0 6), .ref (r0 7), .ref (r0 8), .ref (r0 9), .ref (r0 10), .ref (r0 11), .ref (r0 12), .ref (r0 13), .ref (r0 14), .ref (r0 15), .ref (r0 16), .ref (r0 17), .ref (r0 18), .ref (r0 19), .ref (r0 20), .ref (r0 21), .ref (r0 22), .ref (r0 23), .ref (r0 24), .ref (r0 25), .ref (r0 26), .ref (r0 27), .ref (r0 28), .ref (r0 29), .ref (r0 30), .ref (r0 31), .ref (r0 32), .int (fi0 10), .ref (r0 33)])) :: ((r0 1), .inl (ca 2, 600, .inl (ga0_4 0))) :: ((r0 2), .inl (ca 0, 48, .inl (fa0 1))) :: ((r0 3), .inl (ca 0, 60, .inl (fa0 2))) :: ((r0 4), .inl (ca 0, 60, .inl (fa0 3))) :: ((r0 5), .inl (ca 0, 60, .inl (fa0 4))) :: ((r0 6), .inl (ca 0, 60, .inl (fa0 5))) :: ((r0 7), .inl (ca 0, 60, .inl (fa0 6))) :: ((r0 8), .inl (ca 0, 60, .inl (fa0 7))) :: ((r0 9), .inl (ca 0, 180, .inl (fa0 8))) :: ((r0 10), .inl (ca 0, 60, .inl (fa0 9))) :: ((r0 11), .inl (ca 0, 180, .inl (fa0 10))) :: ((r0 12), .inl (ca 0, 180, .inl (fa0 11))) :: ((r0 13), .inl (ca 0, 180, .inl (fa0 12))) :: ((r0 14), .inl (ca 0, 180, .inl (fa0 13))) :: ((r0 15), .inl (ca 0, 180, .inl (fa0 14))) :: ((r0 16), .inl (ca 0, 180, .inl (fa0 15))) :: ((r0 17), .inl (ca 0, 180, .inl (fa0 16))) :: ((r0 18), .inl (ca 0, 180, .inl (fa0 17))) :: ((r0 19), .inl (ca 0, 180, .inl (fa0 18))) :: ((r0 20), .inl (ca 0, 180, .inl (fa0 19))) :: ((r0 21), .inl (ca 0, 3, .inl (fa0 20))) :: ((r0 22), .inl (ca 1, 3, .inr (.inl (fb0 0)))) :: ((r0 23), .inl (ca 1, 3, .inr (.inl (fb0 1)))) :: ((r0 24), .inl (ca 3, 3, .inl (fa0 21))) :: ((r0 25), .inl (ca 0, 3, .inl (fa0 22))) :: ((r0 26), .inl (ca 0, 3, .inl (fa0 23))) :: ((r0 27), .inl (ca 0, 810, .inl (fa0 24))) :: ((r0 28), .inl (ca 3, 810, .inl (fa0 25))) :: ((r0 29), .inl (ca 1, 810, .inr (.inl (fb0 2)))) :: ((r0 30), .inl (ca 0, 810, .inl (fa0 26))) :: ((r0 31), .inl (ca 0, 3, .inl (fa0 27))) :: ((r0 32), .inl (ca 0, 60, .inl (fa0 28))) :: ((r0 33), .inl (ca 0, 4, .inl (fa0 29))) :: rest)) (hS : va_S A s.heap H locs) (ls : Array Slot) (hl : lv_has ls 9 [(0, .ref (r0 0)), (1, .int p1), (2, .int p2), (3, .int p3), (4, .int p4), (5, .int p5), (6, .int x6_4)]) (hg0_4 : (0 ≤ (gi0_4 0).toInt ∧ (gi0_4 0).toInt ≤ 600) ∧ (0 ≤ (fi0 1).toInt ∧ (fi0 1).toInt ≤ 600) ∧ (0 ≤ (fi0 5).toInt ∧ (fi0 5).toInt ≤ 600) ∧ (0 ≤ (fi0 9).toInt ∧ (fi0 9).toInt ≤ 60) ∧ z_rng (-1) 59 (fa0 6) ∧ z_rng 0 59 (fa0 8) ∧ z_rng 0 3 (fa0 9) ∧ z_rng 0 269 (fa0 23) ∧ z_rng 0 5 (fa0 27) ∧ z_rng 0 59 (fa0 28) ∧ ((fi0 2).toInt = 1 → 0 ≤ (fi0 3).toInt) ∧ zOkR (fa0 1) (fa0 27)) (hf4_0 : 0 ≤ x6_4.toInt ∧ x6_4.toInt ≤ 5 ∧ (gi0_4 0).toInt = (fi0 0).toInt + 4 * x6_4.toInt), (6 - x6_4.toInt).toNat < n4 → W p l e (headSpec wsX9_feed ({ frames := 0, cells := 0, slots := 0, locals := 0 })).room s m ([.ref (r0 0), .int p1, .int p2, .int p3, .int p4, .int p5] : List Value).toArray below meth c H locs 0 0 Q9 (F0 m 19 ls []) := by
      intro n4
      induction n4 with
      | zero => intro x6_4 gi0_4 gl0_4 ga0_4 gb0_4 H locs hP hD hS ls hl hg0_4 hf4_0 hn9; exact absurd hn9 (Nat.not_lt_zero _)
      | succ n4 ih4 =>
        intro x6_4 gi0_4 gl0_4 ga0_4 gb0_4 H locs hP hD hS ls hl hg0_4 hf4_0 hn9
        obtain ⟨⟨hg0_4i0, hg0_4j0⟩, ⟨hg0_4i1, hg0_4j1⟩, ⟨hg0_4i5, hg0_4j5⟩, ⟨hg0_4i9, hg0_4j9⟩, hg0_4a6, hg0_4a8, hg0_4a9, hg0_4a23, hg0_4a27, hg0_4a28, hg0_4x0, hg0_4y0⟩ := hg0_4
        refine lv_iload hx hb dX9_feed_19 (lv_at hl 6 rfl) ?_
        refine lv_iconst (v := 5) hx hb dX9_feed_21 (by decide) ?_
        refine lv_icmp_ge (tgt := 115) hx hb dX9_feed_22 (by decide) (fun c5 => ?_) (fun c5 => ?_)
        ·
          have c5 := z_le (i := 5) (j := x6_4.toInt) (by decide) rfl c5
          refine lv_aload_n hx hb dX9_feed_115 rfl (lv_at hl 0 rfl) ?_
          refine va_get (D := D) (ci := 9) (v := .int (gi0_4 0)) (C := RX9) (T := TX9) (N := 44) hx hb hts inX9 hown hK hP 0 rfl rfl 1 (by decide) lk123 (fun _ h9 => h9) rfl dX9_feed_116 ?_
          subst hQ9
          have ho6 : (0 ≤ (gi0_4 0).toInt ∧ (gi0_4 0).toInt ≤ 600) ∧ (0 ≤ (fi0 1).toInt ∧ (fi0 1).toInt ≤ 600) ∧ (0 ≤ (fi0 5).toInt ∧ (fi0 5).toInt ≤ 600) ∧ (0 ≤ (fi0 9).toInt ∧ (fi0 9).toInt ≤ 60) ∧ z_rng (-1) 59 (fa0 6) ∧ z_rng 0 59 (fa0 8) ∧ z_rng 0 3 (fa0 9) ∧ z_rng 0 269 (fa0 23) ∧ z_rng 0 5 (fa0 27) ∧ z_rng 0 59 (fa0 28) ∧ ((fi0 2).toInt = 1 → 0 ≤ (fi0 3).toInt) ∧ zOkR (fa0 1) (fa0 27) := ⟨⟨by omega, by omega⟩, ⟨by omega, by omega⟩, ⟨by omega, by omega⟩, ⟨by omega, by omega⟩, hv0a6, hv0a8, hv0a9, hv0a23, hv0a27, hv0a28, by omega, hv0y0⟩
          exact W.iret (v := (gi0_4 0)) hx hb hr (fun t ht hW => ⟨⟨(gi0_4 0), ((zl 0 [(gi0_4 0), (fi0 1), (fi0 2), (fi0 3), (fi0 4), (fi0 5), (fi0 6), (fi0 7), (fi0 8), (fi0 9), (fi0 10)]), (zl 0 []), (zl (fun _ => 0) [(ga0_4 0), (fa0 1), (fa0 2), (fa0 3), (fa0 4), (fa0 5), (fa0 6), (fa0 7), (fa0 8), (fa0 9), (fa0 10), (fa0 11), (fa0 12), (fa0 13), (fa0 14), (fa0 15), (fa0 16), (fa0 17), (fa0 18), (fa0 19), (fa0 20), (fa0 21), (fa0 22), (fa0 23), (fa0 24), (fa0 25), (fa0 26), (fa0 27), (fa0 28), (fa0 29)]), (zl (fun _ => 0) [(fb0 0), (fb0 1), (fb0 2)])), rfl, ho6, ⟨by rw [ht]; exact hP, hD⟩⟩, hS.F ht⟩) hS.2.2 dX9_feed_119
        ·
          have c5 := z_nle (i := 5) (j := x6_4.toInt) (by decide) rfl c5
          refine lv_iload hx hb dX9_feed_25 (lv_at hl 6 rfl) ?_
          have J67_7 : ∀ (k0_7 : Int32) (ls : Array Slot) (hl : lv_has ls 9 [(0, .ref (r0 0)), (1, .int p1), (2, .int p2), (3, .int p3), (4, .int p4), (5, .int p5), (6, .int x6_4)]), W p l e (headSpec wsX9_feed ({ frames := 0, cells := 0, slots := 0, locals := 0 })).room s m ([.ref (r0 0), .int p1, .int p2, .int p3, .int p4, .int p5] : List Value).toArray below meth c H locs 0 0 Q9 (F0 m 67 ls [.int k0_7]) := by
            intro k0_7 ls hl
            refine lv_istore (lv' := [(7, .int k0_7), (0, .ref (r0 0)), (1, .int p1), (2, .int p2), (3, .int p3), (4, .int p4), (5, .int p5), (6, .int x6_4)]) hx hb dX9_feed_67 hl (by decide) rfl (fun ls hl => ?_)
            refine lv_bipush (v := 24) hx hb dX9_feed_69 (by decide) ?_
            refine lv_topi (fun t8 et8 => ?_)
            have ht8 : t8.toInt = 24 := by rw [et8]; decide
            refine lv_istore (lv' := [(8, .int t8), (7, .int k0_7), (0, .ref (r0 0)), (1, .int p1), (2, .int p2), (3, .int p3), (4, .int p4), (5, .int p5), (6, .int x6_4)]) hx hb dX9_feed_71 hl (by decide) rfl (fun ls hl => ?_)
            have J73_9 : ∀ (n9 : Nat) (x8_9 : Int32) (gi0_9 : Nat → Int32) (gl0_9 : Nat → Int64) (ga0_9 : Nat → Nat → Int32) (gb0_9 : Nat → Nat → Int64) (H : Heap) (locs : List Loc) (hP : va_P D vwCl (((r0 0), .inr (9, [.ref (r0 1), .int (gi0_9 0), .int (fi0 1), .int (fi0 2), .int (fi0 3), .int (fi0 4), .int (fi0 5), .int (fi0 6), .int (fi0 7), .int (fi0 8), .ref (r0 2), .int (fi0 9), .ref (r0 3), .ref (r0 4), .ref (r0 5), .ref (r0 6), .ref (r0 7), .ref (r0 8), .ref (r0 9), .ref (r0 10), .ref (r0 11), .ref (r0 12), .ref (r0 13), .ref (r0 14), .ref (r0 15), .ref (r0 16), .ref (r0 17), .ref (r0 18), .ref (r0 19), .ref (r0 20), .ref (r0 21), .ref (r0 22), .ref (r0 23), .ref (r0 24), .ref (r0 25), .ref (r0 26), .ref (r0 27), .ref (r0 28), .ref (r0 29), .ref (r0 30), .ref (r0 31), .ref (r0 32), .int (fi0 10), .ref (r0 33)])) :: ((r0 1), .inl (ca 2, 600, .inl (ga0_9 0))) :: ((r0 2), .inl (ca 0, 48, .inl (fa0 1))) :: ((r0 3), .inl (ca 0, 60, .inl (fa0 2))) :: ((r0 4), .inl (ca 0, 60, .inl (fa0 3))) :: ((r0 5), .inl (ca 0, 60, .inl (fa0 4))) :: ((r0 6), .inl (ca 0, 60, .inl (fa0 5))) :: ((r0 7), .inl (ca 0, 60, .inl (fa0 6))) :: ((r0 8), .inl (ca 0, 60, .inl (fa0 7))) :: ((r0 9), .inl (ca 0, 180, .inl (fa0 8))) :: ((r0 10), .inl (ca 0, 60, .inl (fa0 9))) :: ((r0 11), .inl (ca 0, 180, .inl (fa0 10))) :: ((r0 12), .inl (ca 0, 180, .inl (fa0 11))) :: ((r0 13), .inl (ca 0, 180, .inl (fa0 12))) :: ((r0 14), .inl (ca 0, 180, .inl (fa0 13))) :: ((r0 15), .inl (ca 0, 180, .inl (fa0 14))) :: ((r0 16), .inl (ca 0, 180, .inl (fa0 15))) :: ((r0 17), .inl (ca 0, 180, .inl (fa0 16))) :: ((r0 18), .inl (ca 0, 180, .inl (fa0 17))) :: ((r0 19), .inl (ca 0, 180, .inl (fa0 18))) :: ((r0 20), .inl (ca 0, 180, .inl (fa0 19))) :: ((r0 21), .inl (ca 0, 3, .inl (fa0 20))) :: ((r0 22), .inl (ca 1, 3, .inr (.inl (fb0 0)))) :: ((r0 23), .inl (ca 1, 3, .inr (.inl (fb0 1)))) :: ((r0 24), .inl (ca 3, 3, .inl (fa0 21))) :: ((r0 25), .inl (ca 0, 3, .inl (fa0 22))) :: ((r0 26), .inl (ca 0, 3, .inl (fa0 23))) :: ((r0 27), .inl (ca 0, 810, .inl (fa0 24))) :: ((r0 28), .inl (ca 3, 810, .inl (fa0 25))) :: ((r0 29), .inl (ca 1, 810, .inr (.inl (fb0 2)))) :: ((r0 30), .inl (ca 0, 810, .inl (fa0 26))) :: ((r0 31), .inl (ca 0, 3, .inl (fa0 27))) :: ((r0 32), .inl (ca 0, 60, .inl (fa0 28))) :: ((r0 33), .inl (ca 0, 4, .inl (fa0 29))) :: rest) H) (hD : va_D A (((r0 0), .inr (9, [.ref (r0 1), .int (gi0_9 0), .int (fi0 1), .int (fi0 2), .int (fi0 3), .int (fi0 4), .int (fi0 5), .int (fi0 6), .int (fi0 7), .int (fi0 8), .ref (r0 2), .int (fi0 9), .ref (r0 3), .ref (r0 4), .ref (r0 5), .ref (r0 6), .ref (r0 7), .ref (r0 8), .ref (r0 9), .ref (r0 10), .ref (r0 11), .ref (r0 12), .ref (r0 13), .ref (r0 14), .ref (r0 15), .ref (r0 16), .ref (r0 17), .ref (r0 18), .ref (r0 19), .ref (r0 20), .ref (r0 21), .ref (r0 22), .ref (r0 23), .ref (r0 24), .ref (r0 25), .ref (r0 26), .ref (r0 27), .ref (r0 28), .ref (r0 29), .ref (r0 30), .ref (r0 31), .ref (r0 32), .int (fi0 10), .ref (r0 33)])) :: ((r0 1), .inl (ca 2, 600, .inl (ga0_9 0))) :: ((r0 2), .inl (ca 0, 48, .inl (fa0 1))) :: ((r0 3), .inl (ca 0, 60, .inl (fa0 2))) :: ((r0 4), .inl (ca 0, 60, .inl (fa0 3))) :: ((r0 5), .inl (ca 0, 60, .inl (fa0 4))) :: ((r0 6), .inl (ca 0, 60, .inl (fa0 5))) :: ((r0 7), .inl (ca 0, 60, .inl (fa0 6))) :: ((r0 8), .inl (ca 0, 60, .inl (fa0 7))) :: ((r0 9), .inl (ca 0, 180, .inl (fa0 8))) :: ((r0 10), .inl (ca 0, 60, .inl (fa0 9))) :: ((r0 11), .inl (ca 0, 180, .inl (fa0 10))) :: ((r0 12), .inl (ca 0, 180, .inl (fa0 11))) :: ((r0 13), .inl (ca 0, 180, .inl (fa0 12))) :: ((r0 14), .inl (ca 0, 180, .inl (fa0 13))) :: ((r0 15), .inl (ca 0, 180, .inl (fa0 14))) :: ((r0 16), .inl (ca 0, 180, .inl (fa0 15))) :: ((r0 17), .inl (ca 0, 180, .inl (fa0 16))) :: ((r0 18), .inl (ca 0, 180, .inl (fa0 17))) :: ((r0 19), .inl (ca 0, 180, .inl (fa0 18))) :: ((r0 20), .inl (ca 0, 180, .inl (fa0 19))) :: ((r0 21), .inl (ca 0, 3, .inl (fa0 20))) :: ((r0 22), .inl (ca 1, 3, .inr (.inl (fb0 0)))) :: ((r0 23), .inl (ca 1, 3, .inr (.inl (fb0 1)))) :: ((r0 24), .inl (ca 3, 3, .inl (fa0 21))) :: ((r0 25), .inl (ca 0, 3, .inl (fa0 22))) :: ((r0 26), .inl (ca 0, 3, .inl (fa0 23))) :: ((r0 27), .inl (ca 0, 810, .inl (fa0 24))) :: ((r0 28), .inl (ca 3, 810, .inl (fa0 25))) :: ((r0 29), .inl (ca 1, 810, .inr (.inl (fb0 2)))) :: ((r0 30), .inl (ca 0, 810, .inl (fa0 26))) :: ((r0 31), .inl (ca 0, 3, .inl (fa0 27))) :: ((r0 32), .inl (ca 0, 60, .inl (fa0 28))) :: ((r0 33), .inl (ca 0, 4, .inl (fa0 29))) :: rest)) (hS : va_S A s.heap H locs) (ls : Array Slot) (hl : lv_has ls 9 [(0, .ref (r0 0)), (1, .int p1), (2, .int p2), (3, .int p3), (4, .int p4), (5, .int p5), (6, .int x6_4), (7, .int k0_7), (8, .int x8_9)]) (hg0_9 : (0 ≤ (gi0_9 0).toInt ∧ (gi0_9 0).toInt ≤ 600) ∧ (0 ≤ (fi0 1).toInt ∧ (fi0 1).toInt ≤ 600) ∧ (0 ≤ (fi0 5).toInt ∧ (fi0 5).toInt ≤ 600) ∧ (0 ≤ (fi0 9).toInt ∧ (fi0 9).toInt ≤ 60) ∧ z_rng (-1) 59 (fa0 6) ∧ z_rng 0 59 (fa0 8) ∧ z_rng 0 3 (fa0 9) ∧ z_rng 0 269 (fa0 23) ∧ z_rng 0 5 (fa0 27) ∧ z_rng 0 59 (fa0 28) ∧ ((fi0 2).toInt = 1 → 0 ≤ (fi0 3).toInt) ∧ zOkR (fa0 1) (fa0 27)) (hf9_0 : -8 ≤ x8_9.toInt ∧ x8_9.toInt ≤ 24 ∧ 8 * ((gi0_9 0).toInt - (fi0 0).toInt - 4 * x6_4.toInt) = 24 - x8_9.toInt), (x8_9.toInt + 9).toNat < n9 → W p l e (headSpec wsX9_feed ({ frames := 0, cells := 0, slots := 0, locals := 0 })).room s m ([.ref (r0 0), .int p1, .int p2, .int p3, .int p4, .int p5] : List Value).toArray below meth c H locs 0 0 Q9 (F0 m 73 ls []) := by
              intro n9
              induction n9 with
              | zero => intro x8_9 gi0_9 gl0_9 ga0_9 gb0_9 H locs hP hD hS ls hl hg0_9 hf9_0 hn9; exact absurd hn9 (Nat.not_lt_zero _)
              | succ n9 ih9 =>
                intro x8_9 gi0_9 gl0_9 ga0_9 gb0_9 H locs hP hD hS ls hl hg0_9 hf9_0 hn9
                obtain ⟨⟨hg0_9i0, hg0_9j0⟩, ⟨hg0_9i1, hg0_9j1⟩, ⟨hg0_9i5, hg0_9j5⟩, ⟨hg0_9i9, hg0_9j9⟩, hg0_9a6, hg0_9a8, hg0_9a9, hg0_9a23, hg0_9a27, hg0_9a28, hg0_9x0, hg0_9y0⟩ := hg0_9
                refine lv_iload hx hb dX9_feed_73 (lv_at hl 8 rfl) ?_
                refine lv_if_lt (tgt := 109) hx hb dX9_feed_75 (by decide) (fun c10 => ?_) (fun c10 => ?_)
                ·
                  have c10 := z_lt (i := x8_9.toInt) (j := 0) rfl (by decide) c10
                  obtain ⟨t11, et11⟩ : ∃ y : Int32, y = x6_4 + 1 := ⟨_, rfl⟩
                  try have ht11 : t11.toInt = x6_4.toInt + 1 := z_add et11 rfl (by decide) (by omega) (by omega)
                  refine lv_iinc (v := t11) (lv' := [(6, .int t11), (0, .ref (r0 0)), (1, .int p1), (2, .int p2), (3, .int p3), (4, .int p4), (5, .int p5), (7, .int k0_7), (8, .int x8_9)]) hx hb dX9_feed_109 hl (k := 6) rfl (by rw [et11]; rfl) (by decide) rfl (fun ls hl => ?_)
                  refine lv_goto (tgt := 19) hx hb dX9_feed_112 (by decide) ?_
                  have ho12 : (0 ≤ (gi0_9 0).toInt ∧ (gi0_9 0).toInt ≤ 600) ∧ (0 ≤ (fi0 1).toInt ∧ (fi0 1).toInt ≤ 600) ∧ (0 ≤ (fi0 5).toInt ∧ (fi0 5).toInt ≤ 600) ∧ (0 ≤ (fi0 9).toInt ∧ (fi0 9).toInt ≤ 60) ∧ z_rng (-1) 59 (fa0 6) ∧ z_rng 0 59 (fa0 8) ∧ z_rng 0 3 (fa0 9) ∧ z_rng 0 269 (fa0 23) ∧ z_rng 0 5 (fa0 27) ∧ z_rng 0 59 (fa0 28) ∧ ((fi0 2).toInt = 1 → 0 ≤ (fi0 3).toInt) ∧ zOkR (fa0 1) (fa0 27) := ⟨⟨by omega, by omega⟩, ⟨by omega, by omega⟩, ⟨by omega, by omega⟩, ⟨by omega, by omega⟩, hv0a6, hv0a8, hv0a9, hv0a23, hv0a27, hv0a28, by omega, hv0y0⟩
                  have hj13 : 0 ≤ t11.toInt ∧ t11.toInt ≤ 5 ∧ (gi0_9 0).toInt = (fi0 0).toInt + 4 * t11.toInt := by omega
                  have hm14 : (6 - t11.toInt).toNat < n4 := by omega
                  exact ih4 t11 (zl 0 [(gi0_9 0), (fi0 1), (fi0 2), (fi0 3), (fi0 4), (fi0 5), (fi0 6), (fi0 7), (fi0 8), (fi0 9), (fi0 10)]) (zl 0 []) (zl (fun _ => 0) [(ga0_9 0), (fa0 1), (fa0 2), (fa0 3), (fa0 4), (fa0 5), (fa0 6), (fa0 7), (fa0 8), (fa0 9), (fa0 10), (fa0 11), (fa0 12), (fa0 13), (fa0 14), (fa0 15), (fa0 16), (fa0 17), (fa0 18), (fa0 19), (fa0 20), (fa0 21), (fa0 22), (fa0 23), (fa0 24), (fa0 25), (fa0 26), (fa0 27), (fa0 28), (fa0 29)]) (zl (fun _ => 0) [(fb0 0), (fb0 1), (fb0 2)]) _ _ hP hD hS ls (lv_sub hl [1, 2, 3, 4, 5, 6, 0] rfl) ho12 hj13 hm14
                ·
                  have c10 := z_nlt (i := x8_9.toInt) (j := 0) rfl (by decide) c10
                  refine lv_aload_n hx hb dX9_feed_78 rfl (lv_at hl 0 rfl) ?_
                  refine va_get (D := D) (ci := 9) (v := .ref (r0 1)) (C := RX9) (T := TX9) (N := 44) hx hb hts inX9 hown hK hP 0 rfl rfl 0 (by decide) lk7 (fun _ h9 => h9) rfl dX9_feed_79 ?_
                  refine lv_aload_n hx hb dX9_feed_82 rfl (lv_at hl 0 rfl) ?_
                  refine va_get (D := D) (ci := 9) (v := .int (gi0_9 0)) (C := RX9) (T := TX9) (N := 44) hx hb hts inX9 hown hK hP 0 rfl rfl 1 (by decide) lk123 (fun _ h9 => h9) rfl dX9_feed_83 ?_
                  refine lv_iload hx hb dX9_feed_86 (lv_at hl 7 rfl) ?_
                  refine lv_iload hx hb dX9_feed_88 (lv_at hl 8 rfl) ?_
                  refine lv_ishr hx hb dX9_feed_90 ?_
                  refine lv_topi (fun t15 et15 => ?_)
                  refine lv_i2b hx hb dX9_feed_91 rfl ?_
                  refine lv_topi (fun t16 et16 => ?_)
                  have hi17 : vp_in (gi0_9 0) 600 := z_in (i := (gi0_9 0).toInt) rfl (by omega) (by omega)
                  refine va_bast hx hb hK hP hD hS 1 2 rfl rfl hi17 dX9_feed_92 (fun H locs hP hD hS => ?_)
                  generalize eg18 : upd (ga0_9 0) (gi0_9 0).toNatClampNeg (vp_nar .byte t16) = g18 at hP hD
                  have hP : va_P D vwCl (((r0 0), .inr (9, [.ref (r0 1), .int (gi0_9 0), .int (fi0 1), .int (fi0 2), .int (fi0 3), .int (fi0 4), .int (fi0 5), .int (fi0 6), .int (fi0 7), .int (fi0 8), .ref (r0 2), .int (fi0 9), .ref (r0 3), .ref (r0 4), .ref (r0 5), .ref (r0 6), .ref (r0 7), .ref (r0 8), .ref (r0 9), .ref (r0 10), .ref (r0 11), .ref (r0 12), .ref (r0 13), .ref (r0 14), .ref (r0 15), .ref (r0 16), .ref (r0 17), .ref (r0 18), .ref (r0 19), .ref (r0 20), .ref (r0 21), .ref (r0 22), .ref (r0 23), .ref (r0 24), .ref (r0 25), .ref (r0 26), .ref (r0 27), .ref (r0 28), .ref (r0 29), .ref (r0 30), .ref (r0 31), .ref (r0 32), .int (fi0 10), .ref (r0 33)])) :: ((r0 1), .inl (ca 2, 600, .inl g18)) :: ((r0 2), .inl (ca 0, 48, .inl (fa0 1))) :: ((r0 3), .inl (ca 0, 60, .inl (fa0 2))) :: ((r0 4), .inl (ca 0, 60, .inl (fa0 3))) :: ((r0 5), .inl (ca 0, 60, .inl (fa0 4))) :: ((r0 6), .inl (ca 0, 60, .inl (fa0 5))) :: ((r0 7), .inl (ca 0, 60, .inl (fa0 6))) :: ((r0 8), .inl (ca 0, 60, .inl (fa0 7))) :: ((r0 9), .inl (ca 0, 180, .inl (fa0 8))) :: ((r0 10), .inl (ca 0, 60, .inl (fa0 9))) :: ((r0 11), .inl (ca 0, 180, .inl (fa0 10))) :: ((r0 12), .inl (ca 0, 180, .inl (fa0 11))) :: ((r0 13), .inl (ca 0, 180, .inl (fa0 12))) :: ((r0 14), .inl (ca 0, 180, .inl (fa0 13))) :: ((r0 15), .inl (ca 0, 180, .inl (fa0 14))) :: ((r0 16), .inl (ca 0, 180, .inl (fa0 15))) :: ((r0 17), .inl (ca 0, 180, .inl (fa0 16))) :: ((r0 18), .inl (ca 0, 180, .inl (fa0 17))) :: ((r0 19), .inl (ca 0, 180, .inl (fa0 18))) :: ((r0 20), .inl (ca 0, 180, .inl (fa0 19))) :: ((r0 21), .inl (ca 0, 3, .inl (fa0 20))) :: ((r0 22), .inl (ca 1, 3, .inr (.inl (fb0 0)))) :: ((r0 23), .inl (ca 1, 3, .inr (.inl (fb0 1)))) :: ((r0 24), .inl (ca 3, 3, .inl (fa0 21))) :: ((r0 25), .inl (ca 0, 3, .inl (fa0 22))) :: ((r0 26), .inl (ca 0, 3, .inl (fa0 23))) :: ((r0 27), .inl (ca 0, 810, .inl (fa0 24))) :: ((r0 28), .inl (ca 3, 810, .inl (fa0 25))) :: ((r0 29), .inl (ca 1, 810, .inr (.inl (fb0 2)))) :: ((r0 30), .inl (ca 0, 810, .inl (fa0 26))) :: ((r0 31), .inl (ca 0, 3, .inl (fa0 27))) :: ((r0 32), .inl (ca 0, 60, .inl (fa0 28))) :: ((r0 33), .inl (ca 0, 4, .inl (fa0 29))) :: rest) H := hP
                  have hD : va_D A (((r0 0), .inr (9, [.ref (r0 1), .int (gi0_9 0), .int (fi0 1), .int (fi0 2), .int (fi0 3), .int (fi0 4), .int (fi0 5), .int (fi0 6), .int (fi0 7), .int (fi0 8), .ref (r0 2), .int (fi0 9), .ref (r0 3), .ref (r0 4), .ref (r0 5), .ref (r0 6), .ref (r0 7), .ref (r0 8), .ref (r0 9), .ref (r0 10), .ref (r0 11), .ref (r0 12), .ref (r0 13), .ref (r0 14), .ref (r0 15), .ref (r0 16), .ref (r0 17), .ref (r0 18), .ref (r0 19), .ref (r0 20), .ref (r0 21), .ref (r0 22), .ref (r0 23), .ref (r0 24), .ref (r0 25), .ref (r0 26), .ref (r0 27), .ref (r0 28), .ref (r0 29), .ref (r0 30), .ref (r0 31), .ref (r0 32), .int (fi0 10), .ref (r0 33)])) :: ((r0 1), .inl (ca 2, 600, .inl g18)) :: ((r0 2), .inl (ca 0, 48, .inl (fa0 1))) :: ((r0 3), .inl (ca 0, 60, .inl (fa0 2))) :: ((r0 4), .inl (ca 0, 60, .inl (fa0 3))) :: ((r0 5), .inl (ca 0, 60, .inl (fa0 4))) :: ((r0 6), .inl (ca 0, 60, .inl (fa0 5))) :: ((r0 7), .inl (ca 0, 60, .inl (fa0 6))) :: ((r0 8), .inl (ca 0, 60, .inl (fa0 7))) :: ((r0 9), .inl (ca 0, 180, .inl (fa0 8))) :: ((r0 10), .inl (ca 0, 60, .inl (fa0 9))) :: ((r0 11), .inl (ca 0, 180, .inl (fa0 10))) :: ((r0 12), .inl (ca 0, 180, .inl (fa0 11))) :: ((r0 13), .inl (ca 0, 180, .inl (fa0 12))) :: ((r0 14), .inl (ca 0, 180, .inl (fa0 13))) :: ((r0 15), .inl (ca 0, 180, .inl (fa0 14))) :: ((r0 16), .inl (ca 0, 180, .inl (fa0 15))) :: ((r0 17), .inl (ca 0, 180, .inl (fa0 16))) :: ((r0 18), .inl (ca 0, 180, .inl (fa0 17))) :: ((r0 19), .inl (ca 0, 180, .inl (fa0 18))) :: ((r0 20), .inl (ca 0, 180, .inl (fa0 19))) :: ((r0 21), .inl (ca 0, 3, .inl (fa0 20))) :: ((r0 22), .inl (ca 1, 3, .inr (.inl (fb0 0)))) :: ((r0 23), .inl (ca 1, 3, .inr (.inl (fb0 1)))) :: ((r0 24), .inl (ca 3, 3, .inl (fa0 21))) :: ((r0 25), .inl (ca 0, 3, .inl (fa0 22))) :: ((r0 26), .inl (ca 0, 3, .inl (fa0 23))) :: ((r0 27), .inl (ca 0, 810, .inl (fa0 24))) :: ((r0 28), .inl (ca 3, 810, .inl (fa0 25))) :: ((r0 29), .inl (ca 1, 810, .inr (.inl (fb0 2)))) :: ((r0 30), .inl (ca 0, 810, .inl (fa0 26))) :: ((r0 31), .inl (ca 0, 3, .inl (fa0 27))) :: ((r0 32), .inl (ca 0, 60, .inl (fa0 28))) :: ((r0 33), .inl (ca 0, 4, .inl (fa0 29))) :: rest) := hD
                  refine lv_aload_n hx hb dX9_feed_93 rfl (lv_at hl 0 rfl) ?_
                  refine lv_dup hx hb dX9_feed_94 rfl ?_
                  refine va_get (D := D) (ci := 9) (v := .int (gi0_9 0)) (C := RX9) (T := TX9) (N := 44) hx hb hts inX9 hown hK hP 0 rfl rfl 1 (by decide) lk123 (fun _ h9 => h9) rfl dX9_feed_95 ?_
                  refine lv_iconst (v := 1) hx hb dX9_feed_98 (by decide) ?_
                  refine lv_iadd hx hb dX9_feed_99 ?_
                  refine lv_topi (fun t19 et19 => ?_)
                  try have ht19 : t19.toInt = (gi0_9 0).toInt + 1 := z_add et19 rfl (by decide) (by omega) (by omega)
                  refine va_put (D := D) (ci := 9) (v := .int t19) (ty := .int) (C := RX9) (T := TX9) (N := 44) hx hb hts inX9 tyX9 tyX9_ok nmX9 hown hK hP hD hS 0 rfl rfl 1 (by decide) lk123 (fun _ h9 => h9) rfl (by decide +kernel) rfl rfl (Nat.le_of_ble_eq_true rfl) dX9_feed_100 (fun H locs hP hD hS => ?_)
                  have hP : va_P D vwCl (((r0 0), .inr (9, [.ref (r0 1), .int t19, .int (fi0 1), .int (fi0 2), .int (fi0 3), .int (fi0 4), .int (fi0 5), .int (fi0 6), .int (fi0 7), .int (fi0 8), .ref (r0 2), .int (fi0 9), .ref (r0 3), .ref (r0 4), .ref (r0 5), .ref (r0 6), .ref (r0 7), .ref (r0 8), .ref (r0 9), .ref (r0 10), .ref (r0 11), .ref (r0 12), .ref (r0 13), .ref (r0 14), .ref (r0 15), .ref (r0 16), .ref (r0 17), .ref (r0 18), .ref (r0 19), .ref (r0 20), .ref (r0 21), .ref (r0 22), .ref (r0 23), .ref (r0 24), .ref (r0 25), .ref (r0 26), .ref (r0 27), .ref (r0 28), .ref (r0 29), .ref (r0 30), .ref (r0 31), .ref (r0 32), .int (fi0 10), .ref (r0 33)])) :: ((r0 1), .inl (ca 2, 600, .inl g18)) :: ((r0 2), .inl (ca 0, 48, .inl (fa0 1))) :: ((r0 3), .inl (ca 0, 60, .inl (fa0 2))) :: ((r0 4), .inl (ca 0, 60, .inl (fa0 3))) :: ((r0 5), .inl (ca 0, 60, .inl (fa0 4))) :: ((r0 6), .inl (ca 0, 60, .inl (fa0 5))) :: ((r0 7), .inl (ca 0, 60, .inl (fa0 6))) :: ((r0 8), .inl (ca 0, 60, .inl (fa0 7))) :: ((r0 9), .inl (ca 0, 180, .inl (fa0 8))) :: ((r0 10), .inl (ca 0, 60, .inl (fa0 9))) :: ((r0 11), .inl (ca 0, 180, .inl (fa0 10))) :: ((r0 12), .inl (ca 0, 180, .inl (fa0 11))) :: ((r0 13), .inl (ca 0, 180, .inl (fa0 12))) :: ((r0 14), .inl (ca 0, 180, .inl (fa0 13))) :: ((r0 15), .inl (ca 0, 180, .inl (fa0 14))) :: ((r0 16), .inl (ca 0, 180, .inl (fa0 15))) :: ((r0 17), .inl (ca 0, 180, .inl (fa0 16))) :: ((r0 18), .inl (ca 0, 180, .inl (fa0 17))) :: ((r0 19), .inl (ca 0, 180, .inl (fa0 18))) :: ((r0 20), .inl (ca 0, 180, .inl (fa0 19))) :: ((r0 21), .inl (ca 0, 3, .inl (fa0 20))) :: ((r0 22), .inl (ca 1, 3, .inr (.inl (fb0 0)))) :: ((r0 23), .inl (ca 1, 3, .inr (.inl (fb0 1)))) :: ((r0 24), .inl (ca 3, 3, .inl (fa0 21))) :: ((r0 25), .inl (ca 0, 3, .inl (fa0 22))) :: ((r0 26), .inl (ca 0, 3, .inl (fa0 23))) :: ((r0 27), .inl (ca 0, 810, .inl (fa0 24))) :: ((r0 28), .inl (ca 3, 810, .inl (fa0 25))) :: ((r0 29), .inl (ca 1, 810, .inr (.inl (fb0 2)))) :: ((r0 30), .inl (ca 0, 810, .inl (fa0 26))) :: ((r0 31), .inl (ca 0, 3, .inl (fa0 27))) :: ((r0 32), .inl (ca 0, 60, .inl (fa0 28))) :: ((r0 33), .inl (ca 0, 4, .inl (fa0 29))) :: rest) H := hP
                  have hD : va_D A (((r0 0), .inr (9, [.ref (r0 1), .int t19, .int (fi0 1), .int (fi0 2), .int (fi0 3), .int (fi0 4), .int (fi0 5), .int (fi0 6), .int (fi0 7), .int (fi0 8), .ref (r0 2), .int (fi0 9), .ref (r0 3), .ref (r0 4), .ref (r0 5), .ref (r0 6), .ref (r0 7), .ref (r0 8), .ref (r0 9), .ref (r0 10), .ref (r0 11), .ref (r0 12), .ref (r0 13), .ref (r0 14), .ref (r0 15), .ref (r0 16), .ref (r0 17), .ref (r0 18), .ref (r0 19), .ref (r0 20), .ref (r0 21), .ref (r0 22), .ref (r0 23), .ref (r0 24), .ref (r0 25), .ref (r0 26), .ref (r0 27), .ref (r0 28), .ref (r0 29), .ref (r0 30), .ref (r0 31), .ref (r0 32), .int (fi0 10), .ref (r0 33)])) :: ((r0 1), .inl (ca 2, 600, .inl g18)) :: ((r0 2), .inl (ca 0, 48, .inl (fa0 1))) :: ((r0 3), .inl (ca 0, 60, .inl (fa0 2))) :: ((r0 4), .inl (ca 0, 60, .inl (fa0 3))) :: ((r0 5), .inl (ca 0, 60, .inl (fa0 4))) :: ((r0 6), .inl (ca 0, 60, .inl (fa0 5))) :: ((r0 7), .inl (ca 0, 60, .inl (fa0 6))) :: ((r0 8), .inl (ca 0, 60, .inl (fa0 7))) :: ((r0 9), .inl (ca 0, 180, .inl (fa0 8))) :: ((r0 10), .inl (ca 0, 60, .inl (fa0 9))) :: ((r0 11), .inl (ca 0, 180, .inl (fa0 10))) :: ((r0 12), .inl (ca 0, 180, .inl (fa0 11))) :: ((r0 13), .inl (ca 0, 180, .inl (fa0 12))) :: ((r0 14), .inl (ca 0, 180, .inl (fa0 13))) :: ((r0 15), .inl (ca 0, 180, .inl (fa0 14))) :: ((r0 16), .inl (ca 0, 180, .inl (fa0 15))) :: ((r0 17), .inl (ca 0, 180, .inl (fa0 16))) :: ((r0 18), .inl (ca 0, 180, .inl (fa0 17))) :: ((r0 19), .inl (ca 0, 180, .inl (fa0 18))) :: ((r0 20), .inl (ca 0, 180, .inl (fa0 19))) :: ((r0 21), .inl (ca 0, 3, .inl (fa0 20))) :: ((r0 22), .inl (ca 1, 3, .inr (.inl (fb0 0)))) :: ((r0 23), .inl (ca 1, 3, .inr (.inl (fb0 1)))) :: ((r0 24), .inl (ca 3, 3, .inl (fa0 21))) :: ((r0 25), .inl (ca 0, 3, .inl (fa0 22))) :: ((r0 26), .inl (ca 0, 3, .inl (fa0 23))) :: ((r0 27), .inl (ca 0, 810, .inl (fa0 24))) :: ((r0 28), .inl (ca 3, 810, .inl (fa0 25))) :: ((r0 29), .inl (ca 1, 810, .inr (.inl (fb0 2)))) :: ((r0 30), .inl (ca 0, 810, .inl (fa0 26))) :: ((r0 31), .inl (ca 0, 3, .inl (fa0 27))) :: ((r0 32), .inl (ca 0, 60, .inl (fa0 28))) :: ((r0 33), .inl (ca 0, 4, .inl (fa0 29))) :: rest) := hD
                  obtain ⟨t20, et20⟩ : ∃ y : Int32, y = x8_9 + (-8) := ⟨_, rfl⟩
                  try have ht20 : t20.toInt = x8_9.toInt + (-8) := z_add et20 rfl (by decide) (by omega) (by omega)
                  refine lv_iinc (v := t20) (lv' := [(8, .int t20), (0, .ref (r0 0)), (1, .int p1), (2, .int p2), (3, .int p3), (4, .int p4), (5, .int p5), (6, .int x6_4), (7, .int k0_7)]) hx hb dX9_feed_103 hl (k := 8) rfl (by rw [et20]; rfl) (by decide) rfl (fun ls hl => ?_)
                  refine lv_goto (tgt := 73) hx hb dX9_feed_106 (by decide) ?_
                  have ho21 : (0 ≤ t19.toInt ∧ t19.toInt ≤ 600) ∧ (0 ≤ (fi0 1).toInt ∧ (fi0 1).toInt ≤ 600) ∧ (0 ≤ (fi0 5).toInt ∧ (fi0 5).toInt ≤ 600) ∧ (0 ≤ (fi0 9).toInt ∧ (fi0 9).toInt ≤ 60) ∧ z_rng (-1) 59 (fa0 6) ∧ z_rng 0 59 (fa0 8) ∧ z_rng 0 3 (fa0 9) ∧ z_rng 0 269 (fa0 23) ∧ z_rng 0 5 (fa0 27) ∧ z_rng 0 59 (fa0 28) ∧ ((fi0 2).toInt = 1 → 0 ≤ (fi0 3).toInt) ∧ zOkR (fa0 1) (fa0 27) := ⟨⟨by omega, by omega⟩, ⟨by omega, by omega⟩, ⟨by omega, by omega⟩, ⟨by omega, by omega⟩, hv0a6, hv0a8, hv0a9, hv0a23, hv0a27, hv0a28, by omega, hv0y0⟩
                  have hj22 : -8 ≤ t20.toInt ∧ t20.toInt ≤ 24 ∧ 8 * (t19.toInt - (fi0 0).toInt - 4 * x6_4.toInt) = 24 - t20.toInt := by omega
                  have hm23 : (t20.toInt + 9).toNat < n9 := by omega
                  exact ih9 t20 (zl 0 [t19, (fi0 1), (fi0 2), (fi0 3), (fi0 4), (fi0 5), (fi0 6), (fi0 7), (fi0 8), (fi0 9), (fi0 10)]) (zl 0 []) (zl (fun _ => 0) [g18, (fa0 1), (fa0 2), (fa0 3), (fa0 4), (fa0 5), (fa0 6), (fa0 7), (fa0 8), (fa0 9), (fa0 10), (fa0 11), (fa0 12), (fa0 13), (fa0 14), (fa0 15), (fa0 16), (fa0 17), (fa0 18), (fa0 19), (fa0 20), (fa0 21), (fa0 22), (fa0 23), (fa0 24), (fa0 25), (fa0 26), (fa0 27), (fa0 28), (fa0 29)]) (zl (fun _ => 0) [(fb0 0), (fb0 1), (fb0 2)]) _ _ hP hD hS ls (lv_sub hl [1, 2, 3, 4, 5, 6, 7, 8, 0] rfl) ho21 hj22 hm23
            have ho24 : (0 ≤ (gi0_4 0).toInt ∧ (gi0_4 0).toInt ≤ 600) ∧ (0 ≤ (fi0 1).toInt ∧ (fi0 1).toInt ≤ 600) ∧ (0 ≤ (fi0 5).toInt ∧ (fi0 5).toInt ≤ 600) ∧ (0 ≤ (fi0 9).toInt ∧ (fi0 9).toInt ≤ 60) ∧ z_rng (-1) 59 (fa0 6) ∧ z_rng 0 59 (fa0 8) ∧ z_rng 0 3 (fa0 9) ∧ z_rng 0 269 (fa0 23) ∧ z_rng 0 5 (fa0 27) ∧ z_rng 0 59 (fa0 28) ∧ ((fi0 2).toInt = 1 → 0 ≤ (fi0 3).toInt) ∧ zOkR (fa0 1) (fa0 27) := ⟨⟨by omega, by omega⟩, ⟨by omega, by omega⟩, ⟨by omega, by omega⟩, ⟨by omega, by omega⟩, hv0a6, hv0a8, hv0a9, hv0a23, hv0a27, hv0a28, by omega, hv0y0⟩
            have hj25 : -8 ≤ t8.toInt ∧ t8.toInt ≤ 24 ∧ 8 * ((gi0_4 0).toInt - (fi0 0).toInt - 4 * x6_4.toInt) = 24 - t8.toInt := by omega
            exact J73_9 ((t8.toInt + 9).toNat + 1) t8 (zl 0 [(gi0_4 0), (fi0 1), (fi0 2), (fi0 3), (fi0 4), (fi0 5), (fi0 6), (fi0 7), (fi0 8), (fi0 9), (fi0 10)]) (zl 0 []) (zl (fun _ => 0) [(ga0_4 0), (fa0 1), (fa0 2), (fa0 3), (fa0 4), (fa0 5), (fa0 6), (fa0 7), (fa0 8), (fa0 9), (fa0 10), (fa0 11), (fa0 12), (fa0 13), (fa0 14), (fa0 15), (fa0 16), (fa0 17), (fa0 18), (fa0 19), (fa0 20), (fa0 21), (fa0 22), (fa0 23), (fa0 24), (fa0 25), (fa0 26), (fa0 27), (fa0 28), (fa0 29)]) (zl (fun _ => 0) [(fb0 0), (fb0 1), (fb0 2)]) _ _ hP hD hS ls (lv_sub hl [2, 3, 4, 5, 6, 7, 8, 1, 0] rfl) ho24 hj25 (Nat.lt_succ_self _)
          refine lv_if_ne (tgt := 34) hx hb dX9_feed_27 (by decide) (fun c26 => ?_) (fun c26 => ?_)
          ·
            have c26 := z_ne (i := x6_4.toInt) (j := 0) rfl (by decide) c26
            refine lv_iload hx hb dX9_feed_34 (lv_at hl 6 rfl) ?_
            refine lv_iconst (v := 1) hx hb dX9_feed_36 (by decide) ?_
            refine lv_icmp_ne (tgt := 44) hx hb dX9_feed_37 (by decide) (fun c27 => ?_) (fun c27 => ?_)
            ·
              have c27 := z_ne (i := x6_4.toInt) (j := 1) rfl (by decide) c27
              refine lv_iload hx hb dX9_feed_44 (lv_at hl 6 rfl) ?_
              refine lv_iconst (v := 2) hx hb dX9_feed_46 (by decide) ?_
              refine lv_icmp_ne (tgt := 54) hx hb dX9_feed_47 (by decide) (fun c28 => ?_) (fun c28 => ?_)
              ·
                have c28 := z_ne (i := x6_4.toInt) (j := 2) rfl (by decide) c28
                refine lv_iload hx hb dX9_feed_54 (lv_at hl 6 rfl) ?_
                refine lv_iconst (v := 3) hx hb dX9_feed_56 (by decide) ?_
                refine lv_icmp_ne (tgt := 65) hx hb dX9_feed_57 (by decide) (fun c29 => ?_) (fun c29 => ?_)
                ·
                  have c29 := z_ne (i := x6_4.toInt) (j := 3) rfl (by decide) c29
                  refine lv_iload hx hb dX9_feed_65 (lv_at hl 5 rfl) ?_
                  exact J67_7 p5 ls (lv_sub hl [0, 1, 2, 3, 4, 5, 6] rfl)
                ·
                  have c29 := z_eq (i := x6_4.toInt) (j := 3) rfl (by decide) c29
                  refine lv_iload hx hb dX9_feed_60 (lv_at hl 4 rfl) ?_
                  refine lv_goto (tgt := 67) hx hb dX9_feed_62 (by decide) ?_
                  exact J67_7 p4 ls (lv_sub hl [0, 1, 2, 3, 4, 5, 6] rfl)
              ·
                have c28 := z_eq (i := x6_4.toInt) (j := 2) rfl (by decide) c28
                refine lv_iload_n hx hb dX9_feed_50 rfl (lv_at hl 3 rfl) ?_
                refine lv_goto (tgt := 67) hx hb dX9_feed_51 (by decide) ?_
                exact J67_7 p3 ls (lv_sub hl [0, 1, 2, 3, 4, 5, 6] rfl)
            ·
              have c27 := z_eq (i := x6_4.toInt) (j := 1) rfl (by decide) c27
              refine lv_iload_n hx hb dX9_feed_40 rfl (lv_at hl 2 rfl) ?_
              refine lv_goto (tgt := 67) hx hb dX9_feed_41 (by decide) ?_
              exact J67_7 p2 ls (lv_sub hl [0, 1, 2, 3, 4, 5, 6] rfl)
          ·
            have c26 := z_eq (i := x6_4.toInt) (j := 0) rfl (by decide) c26
            refine lv_iload_n hx hb dX9_feed_30 rfl (lv_at hl 1 rfl) ?_
            refine lv_goto (tgt := 67) hx hb dX9_feed_31 (by decide) ?_
            exact J67_7 p1 ls (lv_sub hl [0, 1, 2, 3, 4, 5, 6] rfl)
    have ho30 : (0 ≤ (fi0 0).toInt ∧ (fi0 0).toInt ≤ 600) ∧ (0 ≤ (fi0 1).toInt ∧ (fi0 1).toInt ≤ 600) ∧ (0 ≤ (fi0 5).toInt ∧ (fi0 5).toInt ≤ 600) ∧ (0 ≤ (fi0 9).toInt ∧ (fi0 9).toInt ≤ 60) ∧ z_rng (-1) 59 (fa0 6) ∧ z_rng 0 59 (fa0 8) ∧ z_rng 0 3 (fa0 9) ∧ z_rng 0 269 (fa0 23) ∧ z_rng 0 5 (fa0 27) ∧ z_rng 0 59 (fa0 28) ∧ ((fi0 2).toInt = 1 → 0 ≤ (fi0 3).toInt) ∧ zOkR (fa0 1) (fa0 27) := ⟨⟨by omega, by omega⟩, ⟨by omega, by omega⟩, ⟨by omega, by omega⟩, ⟨by omega, by omega⟩, hv0a6, hv0a8, hv0a9, hv0a23, hv0a27, hv0a28, by omega, hv0y0⟩
    have hj31 : 0 ≤ t3.toInt ∧ t3.toInt ≤ 5 ∧ (fi0 0).toInt = (fi0 0).toInt + 4 * t3.toInt := by omega
    exact J19_4 ((6 - t3.toInt).toNat + 1) t3 (zl 0 [(fi0 0), (fi0 1), (fi0 2), (fi0 3), (fi0 4), (fi0 5), (fi0 6), (fi0 7), (fi0 8), (fi0 9), (fi0 10)]) (zl 0 []) (zl (fun _ => 0) [(fa0 0), (fa0 1), (fa0 2), (fa0 3), (fa0 4), (fa0 5), (fa0 6), (fa0 7), (fa0 8), (fa0 9), (fa0 10), (fa0 11), (fa0 12), (fa0 13), (fa0 14), (fa0 15), (fa0 16), (fa0 17), (fa0 18), (fa0 19), (fa0 20), (fa0 21), (fa0 22), (fa0 23), (fa0 24), (fa0 25), (fa0 26), (fa0 27), (fa0 28), (fa0 29)]) (zl (fun _ => 0) [(fb0 0), (fb0 1), (fb0 2)]) _ _ hP hD hS ls (lv_sub hl [1, 2, 3, 4, 5, 6, 0] rfl) ho30 hj31 (Nat.lt_succ_self _)
  ·
    have c2 := z_nle (i := t1.toInt) (j := 600) rfl (by decide) c2
    refine lv_bipush (v := (-3)) hx hb dX9_feed_13 (by decide) ?_
    subst hQ9
    refine lv_topi (fun t32 et32 => ?_)
    have ht32 : t32.toInt = (-3) := by rw [et32]; decide
    have ho33 : (0 ≤ (fi0 0).toInt ∧ (fi0 0).toInt ≤ 600) ∧ (0 ≤ (fi0 1).toInt ∧ (fi0 1).toInt ≤ 600) ∧ (0 ≤ (fi0 5).toInt ∧ (fi0 5).toInt ≤ 600) ∧ (0 ≤ (fi0 9).toInt ∧ (fi0 9).toInt ≤ 60) ∧ z_rng (-1) 59 (fa0 6) ∧ z_rng 0 59 (fa0 8) ∧ z_rng 0 3 (fa0 9) ∧ z_rng 0 269 (fa0 23) ∧ z_rng 0 5 (fa0 27) ∧ z_rng 0 59 (fa0 28) ∧ ((fi0 2).toInt = 1 → 0 ≤ (fi0 3).toInt) ∧ zOkR (fa0 1) (fa0 27) := ⟨⟨by omega, by omega⟩, ⟨by omega, by omega⟩, ⟨by omega, by omega⟩, ⟨by omega, by omega⟩, hv0a6, hv0a8, hv0a9, hv0a23, hv0a27, hv0a28, by omega, hv0y0⟩
    exact W.iret (v := t32) hx hb hr (fun t ht hW => ⟨⟨t32, ((zl 0 [(fi0 0), (fi0 1), (fi0 2), (fi0 3), (fi0 4), (fi0 5), (fi0 6), (fi0 7), (fi0 8), (fi0 9), (fi0 10)]), (zl 0 []), (zl (fun _ => 0) [(fa0 0), (fa0 1), (fa0 2), (fa0 3), (fa0 4), (fa0 5), (fa0 6), (fa0 7), (fa0 8), (fa0 9), (fa0 10), (fa0 11), (fa0 12), (fa0 13), (fa0 14), (fa0 15), (fa0 16), (fa0 17), (fa0 18), (fa0 19), (fa0 20), (fa0 21), (fa0 22), (fa0 23), (fa0 24), (fa0 25), (fa0 26), (fa0 27), (fa0 28), (fa0 29)]), (zl (fun _ => 0) [(fb0 0), (fb0 1), (fb0 2)])), rfl, ho33, ⟨by rw [ht]; exact hP, hD⟩⟩, hS.F ht⟩) hS.2.2 dX9_feed_15

set_option maxHeartbeats 8000000 in
set_option maxRecDepth 100000 in
theorem c_X9_end (l : Launch) (D : va_G) (ca : Nat → ClassId) (sa : Nat → Nat) (A : Nat → Prop) (rest : va_W) (r0 : Nat → Nat) (fi0 : Nat → Int32) (fl0 : Nat → Int64) (fa0 : Nat → Nat → Int32) (fb0 : Nat → Nat → Int64) (hv0 : Ok_MOD fi0 fa0) (p1 : Int32) : Met l yX9_end wsX9_end ({ frames := 0, cells := 0, slots := 0, locals := 0 }) (va_Pc [.ref (r0 0), .int p1] (zPre D ca sa A (w_MOD ca r0 fi0 fl0 fa0 fb0 (rest)))) (va_Qi (fun (r : Int32) (u : zS) => Ok_MOD (zx [0] fi0 u.1) (zx [] fa0 u.2.2.1)) (fun u t => zPost D A (w_MOD ca r0 (zx [0] fi0 u.1) (zx [] fl0 u.2.1) (zx [] fa0 u.2.2.1) (zx [] fb0 u.2.2.2) (rest)) t) A) 0 0 A := by
  refine Met.ofW (cc := cX9_end) (maxL := 2) (ret := (some .int)) (by decide) rfl ?_
  intro p e s m args below meth c s₁ B hml hv9
  obtain ⟨rfl, hE, hP, hD⟩ := hv9
  have hx := B.exec
  have hb := B.bytes
  have hr := B.returns
  have hts := atoms_spec (ws := wsX9_end) B.pre
  have hown : s.vm.findClass RX9 = some m.cls := findClass_of_methodNamed B.named
  have hlocks := B.notSynchronized
  have hK := hE.1
  have hF : CallFix p m c cX9_end 2 s _ wsX9_end RX9 := ⟨hx, hb, hml, hown, hts⟩
  have hS : va_S A s.heap s.heap [] := va_S.rf
  have lk123 := hts (.fieldLink RX9 123 "BranchPlayModel" "taped" "I") (by decide +kernel)
  have inX9 : ∀ w ∈ wsX90, w ∈ wsX9_end := by decide +kernel
  obtain ⟨⟨hv0i0, hv0j0⟩, ⟨hv0i1, hv0j1⟩, ⟨hv0i5, hv0j5⟩, ⟨hv0i9, hv0j9⟩, hv0a6, hv0a8, hv0a9, hv0a23, hv0a27, hv0a28, hv0x0, hv0y0⟩ := hv0
  generalize hHe : s.heap = H at hP
  have hS : va_S A s.heap H [] := by rw [← hHe]; exact hS
  have hP : va_P D vwCl (((r0 0), .inr (9, [.ref (r0 1), .int (fi0 0), .int (fi0 1), .int (fi0 2), .int (fi0 3), .int (fi0 4), .int (fi0 5), .int (fi0 6), .int (fi0 7), .int (fi0 8), .ref (r0 2), .int (fi0 9), .ref (r0 3), .ref (r0 4), .ref (r0 5), .ref (r0 6), .ref (r0 7), .ref (r0 8), .ref (r0 9), .ref (r0 10), .ref (r0 11), .ref (r0 12), .ref (r0 13), .ref (r0 14), .ref (r0 15), .ref (r0 16), .ref (r0 17), .ref (r0 18), .ref (r0 19), .ref (r0 20), .ref (r0 21), .ref (r0 22), .ref (r0 23), .ref (r0 24), .ref (r0 25), .ref (r0 26), .ref (r0 27), .ref (r0 28), .ref (r0 29), .ref (r0 30), .ref (r0 31), .ref (r0 32), .int (fi0 10), .ref (r0 33)])) :: ((r0 1), .inl (ca 2, 600, .inl (fa0 0))) :: ((r0 2), .inl (ca 0, 48, .inl (fa0 1))) :: ((r0 3), .inl (ca 0, 60, .inl (fa0 2))) :: ((r0 4), .inl (ca 0, 60, .inl (fa0 3))) :: ((r0 5), .inl (ca 0, 60, .inl (fa0 4))) :: ((r0 6), .inl (ca 0, 60, .inl (fa0 5))) :: ((r0 7), .inl (ca 0, 60, .inl (fa0 6))) :: ((r0 8), .inl (ca 0, 60, .inl (fa0 7))) :: ((r0 9), .inl (ca 0, 180, .inl (fa0 8))) :: ((r0 10), .inl (ca 0, 60, .inl (fa0 9))) :: ((r0 11), .inl (ca 0, 180, .inl (fa0 10))) :: ((r0 12), .inl (ca 0, 180, .inl (fa0 11))) :: ((r0 13), .inl (ca 0, 180, .inl (fa0 12))) :: ((r0 14), .inl (ca 0, 180, .inl (fa0 13))) :: ((r0 15), .inl (ca 0, 180, .inl (fa0 14))) :: ((r0 16), .inl (ca 0, 180, .inl (fa0 15))) :: ((r0 17), .inl (ca 0, 180, .inl (fa0 16))) :: ((r0 18), .inl (ca 0, 180, .inl (fa0 17))) :: ((r0 19), .inl (ca 0, 180, .inl (fa0 18))) :: ((r0 20), .inl (ca 0, 180, .inl (fa0 19))) :: ((r0 21), .inl (ca 0, 3, .inl (fa0 20))) :: ((r0 22), .inl (ca 1, 3, .inr (.inl (fb0 0)))) :: ((r0 23), .inl (ca 1, 3, .inr (.inl (fb0 1)))) :: ((r0 24), .inl (ca 3, 3, .inl (fa0 21))) :: ((r0 25), .inl (ca 0, 3, .inl (fa0 22))) :: ((r0 26), .inl (ca 0, 3, .inl (fa0 23))) :: ((r0 27), .inl (ca 0, 810, .inl (fa0 24))) :: ((r0 28), .inl (ca 3, 810, .inl (fa0 25))) :: ((r0 29), .inl (ca 1, 810, .inr (.inl (fb0 2)))) :: ((r0 30), .inl (ca 0, 810, .inl (fa0 26))) :: ((r0 31), .inl (ca 0, 3, .inl (fa0 27))) :: ((r0 32), .inl (ca 0, 60, .inl (fa0 28))) :: ((r0 33), .inl (ca 0, 4, .inl (fa0 29))) :: rest) H := hP
  have hD : va_D A (((r0 0), .inr (9, [.ref (r0 1), .int (fi0 0), .int (fi0 1), .int (fi0 2), .int (fi0 3), .int (fi0 4), .int (fi0 5), .int (fi0 6), .int (fi0 7), .int (fi0 8), .ref (r0 2), .int (fi0 9), .ref (r0 3), .ref (r0 4), .ref (r0 5), .ref (r0 6), .ref (r0 7), .ref (r0 8), .ref (r0 9), .ref (r0 10), .ref (r0 11), .ref (r0 12), .ref (r0 13), .ref (r0 14), .ref (r0 15), .ref (r0 16), .ref (r0 17), .ref (r0 18), .ref (r0 19), .ref (r0 20), .ref (r0 21), .ref (r0 22), .ref (r0 23), .ref (r0 24), .ref (r0 25), .ref (r0 26), .ref (r0 27), .ref (r0 28), .ref (r0 29), .ref (r0 30), .ref (r0 31), .ref (r0 32), .int (fi0 10), .ref (r0 33)])) :: ((r0 1), .inl (ca 2, 600, .inl (fa0 0))) :: ((r0 2), .inl (ca 0, 48, .inl (fa0 1))) :: ((r0 3), .inl (ca 0, 60, .inl (fa0 2))) :: ((r0 4), .inl (ca 0, 60, .inl (fa0 3))) :: ((r0 5), .inl (ca 0, 60, .inl (fa0 4))) :: ((r0 6), .inl (ca 0, 60, .inl (fa0 5))) :: ((r0 7), .inl (ca 0, 60, .inl (fa0 6))) :: ((r0 8), .inl (ca 0, 60, .inl (fa0 7))) :: ((r0 9), .inl (ca 0, 180, .inl (fa0 8))) :: ((r0 10), .inl (ca 0, 60, .inl (fa0 9))) :: ((r0 11), .inl (ca 0, 180, .inl (fa0 10))) :: ((r0 12), .inl (ca 0, 180, .inl (fa0 11))) :: ((r0 13), .inl (ca 0, 180, .inl (fa0 12))) :: ((r0 14), .inl (ca 0, 180, .inl (fa0 13))) :: ((r0 15), .inl (ca 0, 180, .inl (fa0 14))) :: ((r0 16), .inl (ca 0, 180, .inl (fa0 15))) :: ((r0 17), .inl (ca 0, 180, .inl (fa0 16))) :: ((r0 18), .inl (ca 0, 180, .inl (fa0 17))) :: ((r0 19), .inl (ca 0, 180, .inl (fa0 18))) :: ((r0 20), .inl (ca 0, 180, .inl (fa0 19))) :: ((r0 21), .inl (ca 0, 3, .inl (fa0 20))) :: ((r0 22), .inl (ca 1, 3, .inr (.inl (fb0 0)))) :: ((r0 23), .inl (ca 1, 3, .inr (.inl (fb0 1)))) :: ((r0 24), .inl (ca 3, 3, .inl (fa0 21))) :: ((r0 25), .inl (ca 0, 3, .inl (fa0 22))) :: ((r0 26), .inl (ca 0, 3, .inl (fa0 23))) :: ((r0 27), .inl (ca 0, 810, .inl (fa0 24))) :: ((r0 28), .inl (ca 3, 810, .inl (fa0 25))) :: ((r0 29), .inl (ca 1, 810, .inr (.inl (fb0 2)))) :: ((r0 30), .inl (ca 0, 810, .inl (fa0 26))) :: ((r0 31), .inl (ca 0, 3, .inl (fa0 27))) :: ((r0 32), .inl (ca 0, 60, .inl (fa0 28))) :: ((r0 33), .inl (ca 0, 4, .inl (fa0 29))) :: rest) := hD
  have hl := lv_entry ([.ref (r0 0), .int p1]) (n := 2) (Nat.le_of_ble_eq_true rfl)
  rw [lg_entry_eq]
  generalize (lg_sl ([.ref (r0 0), .int p1]) ++ List.replicate (2 - (lg_sl ([.ref (r0 0), .int p1])).length) Slot.unset).toArray = ls at hl ⊢
  have hl : lv_has ls 2 [(0, .ref (r0 0)), (1, .int p1)] := hl
  generalize hQ9 : MQ below _ _ s 0 0 A = Q9
  refine lv_iload_n hx hb dX9_end_0 rfl (lv_at hl 1 rfl) ?_
  refine lv_if_lt (tgt := 12) hx hb dX9_end_1 (by decide) (fun c1 => ?_) (fun c1 => ?_)
  ·
    have c1 := z_lt (i := p1.toInt) (j := 0) rfl (by decide) c1
    refine lv_iconst (v := (-1)) hx hb dX9_end_12 (by decide) ?_
    subst hQ9
    refine lv_topi (fun t2 et2 => ?_)
    have ht2 : t2.toInt = (-1) := by rw [et2]; decide
    have ho3 : (0 ≤ (fi0 0).toInt ∧ (fi0 0).toInt ≤ 600) ∧ (0 ≤ (fi0 1).toInt ∧ (fi0 1).toInt ≤ 600) ∧ (0 ≤ (fi0 5).toInt ∧ (fi0 5).toInt ≤ 600) ∧ (0 ≤ (fi0 9).toInt ∧ (fi0 9).toInt ≤ 60) ∧ z_rng (-1) 59 (fa0 6) ∧ z_rng 0 59 (fa0 8) ∧ z_rng 0 3 (fa0 9) ∧ z_rng 0 269 (fa0 23) ∧ z_rng 0 5 (fa0 27) ∧ z_rng 0 59 (fa0 28) ∧ ((fi0 2).toInt = 1 → 0 ≤ (fi0 3).toInt) ∧ zOkR (fa0 1) (fa0 27) := ⟨⟨by omega, by omega⟩, ⟨by omega, by omega⟩, ⟨by omega, by omega⟩, ⟨by omega, by omega⟩, hv0a6, hv0a8, hv0a9, hv0a23, hv0a27, hv0a28, by omega, hv0y0⟩
    exact W.iret (v := t2) hx hb hr (fun t ht hW => ⟨⟨t2, ((zl 0 [(fi0 0), (fi0 1), (fi0 2), (fi0 3), (fi0 4), (fi0 5), (fi0 6), (fi0 7), (fi0 8), (fi0 9), (fi0 10)]), (zl 0 []), (zl (fun _ => 0) [(fa0 0), (fa0 1), (fa0 2), (fa0 3), (fa0 4), (fa0 5), (fa0 6), (fa0 7), (fa0 8), (fa0 9), (fa0 10), (fa0 11), (fa0 12), (fa0 13), (fa0 14), (fa0 15), (fa0 16), (fa0 17), (fa0 18), (fa0 19), (fa0 20), (fa0 21), (fa0 22), (fa0 23), (fa0 24), (fa0 25), (fa0 26), (fa0 27), (fa0 28), (fa0 29)]), (zl (fun _ => 0) [(fb0 0), (fb0 1), (fb0 2)])), rfl, ho3, ⟨by rw [ht]; exact hP, hD⟩⟩, hS.F ht⟩) hS.2.2 dX9_end_13
  ·
    have c1 := z_nlt (i := p1.toInt) (j := 0) rfl (by decide) c1
    refine lv_iload_n hx hb dX9_end_4 rfl (lv_at hl 1 rfl) ?_
    refine lv_aload_n hx hb dX9_end_5 rfl (lv_at hl 0 rfl) ?_
    refine va_get (D := D) (ci := 9) (v := .int (fi0 0)) (C := RX9) (T := TX9) (N := 44) hx hb hts inX9 hown hK hP 0 rfl rfl 1 (by decide) lk123 (fun _ h9 => h9) rfl dX9_end_6 ?_
    refine lv_icmp_le (tgt := 14) hx hb dX9_end_9 (by decide) (fun c4 => ?_) (fun c4 => ?_)
    ·
      have c4 := z_le (i := p1.toInt) (j := (fi0 0).toInt) rfl rfl c4
      refine lv_aload_n hx hb dX9_end_14 rfl (lv_at hl 0 rfl) ?_
      refine lv_iload_n hx hb dX9_end_15 rfl (lv_at hl 1 rfl) ?_
      refine va_put (D := D) (ci := 9) (v := .int p1) (ty := .int) (C := RX9) (T := TX9) (N := 44) hx hb hts inX9 tyX9 tyX9_ok nmX9 hown hK hP hD hS 0 rfl rfl 1 (by decide) lk123 (fun _ h9 => h9) rfl (by decide +kernel) rfl rfl (Nat.le_of_ble_eq_true rfl) dX9_end_16 (fun H locs hP hD hS => ?_)
      have hP : va_P D vwCl (((r0 0), .inr (9, [.ref (r0 1), .int p1, .int (fi0 1), .int (fi0 2), .int (fi0 3), .int (fi0 4), .int (fi0 5), .int (fi0 6), .int (fi0 7), .int (fi0 8), .ref (r0 2), .int (fi0 9), .ref (r0 3), .ref (r0 4), .ref (r0 5), .ref (r0 6), .ref (r0 7), .ref (r0 8), .ref (r0 9), .ref (r0 10), .ref (r0 11), .ref (r0 12), .ref (r0 13), .ref (r0 14), .ref (r0 15), .ref (r0 16), .ref (r0 17), .ref (r0 18), .ref (r0 19), .ref (r0 20), .ref (r0 21), .ref (r0 22), .ref (r0 23), .ref (r0 24), .ref (r0 25), .ref (r0 26), .ref (r0 27), .ref (r0 28), .ref (r0 29), .ref (r0 30), .ref (r0 31), .ref (r0 32), .int (fi0 10), .ref (r0 33)])) :: ((r0 1), .inl (ca 2, 600, .inl (fa0 0))) :: ((r0 2), .inl (ca 0, 48, .inl (fa0 1))) :: ((r0 3), .inl (ca 0, 60, .inl (fa0 2))) :: ((r0 4), .inl (ca 0, 60, .inl (fa0 3))) :: ((r0 5), .inl (ca 0, 60, .inl (fa0 4))) :: ((r0 6), .inl (ca 0, 60, .inl (fa0 5))) :: ((r0 7), .inl (ca 0, 60, .inl (fa0 6))) :: ((r0 8), .inl (ca 0, 60, .inl (fa0 7))) :: ((r0 9), .inl (ca 0, 180, .inl (fa0 8))) :: ((r0 10), .inl (ca 0, 60, .inl (fa0 9))) :: ((r0 11), .inl (ca 0, 180, .inl (fa0 10))) :: ((r0 12), .inl (ca 0, 180, .inl (fa0 11))) :: ((r0 13), .inl (ca 0, 180, .inl (fa0 12))) :: ((r0 14), .inl (ca 0, 180, .inl (fa0 13))) :: ((r0 15), .inl (ca 0, 180, .inl (fa0 14))) :: ((r0 16), .inl (ca 0, 180, .inl (fa0 15))) :: ((r0 17), .inl (ca 0, 180, .inl (fa0 16))) :: ((r0 18), .inl (ca 0, 180, .inl (fa0 17))) :: ((r0 19), .inl (ca 0, 180, .inl (fa0 18))) :: ((r0 20), .inl (ca 0, 180, .inl (fa0 19))) :: ((r0 21), .inl (ca 0, 3, .inl (fa0 20))) :: ((r0 22), .inl (ca 1, 3, .inr (.inl (fb0 0)))) :: ((r0 23), .inl (ca 1, 3, .inr (.inl (fb0 1)))) :: ((r0 24), .inl (ca 3, 3, .inl (fa0 21))) :: ((r0 25), .inl (ca 0, 3, .inl (fa0 22))) :: ((r0 26), .inl (ca 0, 3, .inl (fa0 23))) :: ((r0 27), .inl (ca 0, 810, .inl (fa0 24))) :: ((r0 28), .inl (ca 3, 810, .inl (fa0 25))) :: ((r0 29), .inl (ca 1, 810, .inr (.inl (fb0 2)))) :: ((r0 30), .inl (ca 0, 810, .inl (fa0 26))) :: ((r0 31), .inl (ca 0, 3, .inl (fa0 27))) :: ((r0 32), .inl (ca 0, 60, .inl (fa0 28))) :: ((r0 33), .inl (ca 0, 4, .inl (fa0 29))) :: rest) H := hP
      have hD : va_D A (((r0 0), .inr (9, [.ref (r0 1), .int p1, .int (fi0 1), .int (fi0 2), .int (fi0 3), .int (fi0 4), .int (fi0 5), .int (fi0 6), .int (fi0 7), .int (fi0 8), .ref (r0 2), .int (fi0 9), .ref (r0 3), .ref (r0 4), .ref (r0 5), .ref (r0 6), .ref (r0 7), .ref (r0 8), .ref (r0 9), .ref (r0 10), .ref (r0 11), .ref (r0 12), .ref (r0 13), .ref (r0 14), .ref (r0 15), .ref (r0 16), .ref (r0 17), .ref (r0 18), .ref (r0 19), .ref (r0 20), .ref (r0 21), .ref (r0 22), .ref (r0 23), .ref (r0 24), .ref (r0 25), .ref (r0 26), .ref (r0 27), .ref (r0 28), .ref (r0 29), .ref (r0 30), .ref (r0 31), .ref (r0 32), .int (fi0 10), .ref (r0 33)])) :: ((r0 1), .inl (ca 2, 600, .inl (fa0 0))) :: ((r0 2), .inl (ca 0, 48, .inl (fa0 1))) :: ((r0 3), .inl (ca 0, 60, .inl (fa0 2))) :: ((r0 4), .inl (ca 0, 60, .inl (fa0 3))) :: ((r0 5), .inl (ca 0, 60, .inl (fa0 4))) :: ((r0 6), .inl (ca 0, 60, .inl (fa0 5))) :: ((r0 7), .inl (ca 0, 60, .inl (fa0 6))) :: ((r0 8), .inl (ca 0, 60, .inl (fa0 7))) :: ((r0 9), .inl (ca 0, 180, .inl (fa0 8))) :: ((r0 10), .inl (ca 0, 60, .inl (fa0 9))) :: ((r0 11), .inl (ca 0, 180, .inl (fa0 10))) :: ((r0 12), .inl (ca 0, 180, .inl (fa0 11))) :: ((r0 13), .inl (ca 0, 180, .inl (fa0 12))) :: ((r0 14), .inl (ca 0, 180, .inl (fa0 13))) :: ((r0 15), .inl (ca 0, 180, .inl (fa0 14))) :: ((r0 16), .inl (ca 0, 180, .inl (fa0 15))) :: ((r0 17), .inl (ca 0, 180, .inl (fa0 16))) :: ((r0 18), .inl (ca 0, 180, .inl (fa0 17))) :: ((r0 19), .inl (ca 0, 180, .inl (fa0 18))) :: ((r0 20), .inl (ca 0, 180, .inl (fa0 19))) :: ((r0 21), .inl (ca 0, 3, .inl (fa0 20))) :: ((r0 22), .inl (ca 1, 3, .inr (.inl (fb0 0)))) :: ((r0 23), .inl (ca 1, 3, .inr (.inl (fb0 1)))) :: ((r0 24), .inl (ca 3, 3, .inl (fa0 21))) :: ((r0 25), .inl (ca 0, 3, .inl (fa0 22))) :: ((r0 26), .inl (ca 0, 3, .inl (fa0 23))) :: ((r0 27), .inl (ca 0, 810, .inl (fa0 24))) :: ((r0 28), .inl (ca 3, 810, .inl (fa0 25))) :: ((r0 29), .inl (ca 1, 810, .inr (.inl (fb0 2)))) :: ((r0 30), .inl (ca 0, 810, .inl (fa0 26))) :: ((r0 31), .inl (ca 0, 3, .inl (fa0 27))) :: ((r0 32), .inl (ca 0, 60, .inl (fa0 28))) :: ((r0 33), .inl (ca 0, 4, .inl (fa0 29))) :: rest) := hD
      refine lv_iload_n hx hb dX9_end_19 rfl (lv_at hl 1 rfl) ?_
      subst hQ9
      have ho5 : (0 ≤ p1.toInt ∧ p1.toInt ≤ 600) ∧ (0 ≤ (fi0 1).toInt ∧ (fi0 1).toInt ≤ 600) ∧ (0 ≤ (fi0 5).toInt ∧ (fi0 5).toInt ≤ 600) ∧ (0 ≤ (fi0 9).toInt ∧ (fi0 9).toInt ≤ 60) ∧ z_rng (-1) 59 (fa0 6) ∧ z_rng 0 59 (fa0 8) ∧ z_rng 0 3 (fa0 9) ∧ z_rng 0 269 (fa0 23) ∧ z_rng 0 5 (fa0 27) ∧ z_rng 0 59 (fa0 28) ∧ ((fi0 2).toInt = 1 → 0 ≤ (fi0 3).toInt) ∧ zOkR (fa0 1) (fa0 27) := ⟨⟨by omega, by omega⟩, ⟨by omega, by omega⟩, ⟨by omega, by omega⟩, ⟨by omega, by omega⟩, hv0a6, hv0a8, hv0a9, hv0a23, hv0a27, hv0a28, by omega, hv0y0⟩
      exact W.iret (v := p1) hx hb hr (fun t ht hW => ⟨⟨p1, ((zl 0 [p1, (fi0 1), (fi0 2), (fi0 3), (fi0 4), (fi0 5), (fi0 6), (fi0 7), (fi0 8), (fi0 9), (fi0 10)]), (zl 0 []), (zl (fun _ => 0) [(fa0 0), (fa0 1), (fa0 2), (fa0 3), (fa0 4), (fa0 5), (fa0 6), (fa0 7), (fa0 8), (fa0 9), (fa0 10), (fa0 11), (fa0 12), (fa0 13), (fa0 14), (fa0 15), (fa0 16), (fa0 17), (fa0 18), (fa0 19), (fa0 20), (fa0 21), (fa0 22), (fa0 23), (fa0 24), (fa0 25), (fa0 26), (fa0 27), (fa0 28), (fa0 29)]), (zl (fun _ => 0) [(fb0 0), (fb0 1), (fb0 2)])), rfl, ho5, ⟨by rw [ht]; exact hP, hD⟩⟩, hS.F ht⟩) hS.2.2 dX9_end_20
    ·
      have c4 := z_nle (i := p1.toInt) (j := (fi0 0).toInt) rfl rfl c4
      refine lv_iconst (v := (-1)) hx hb dX9_end_12 (by decide) ?_
      subst hQ9
      refine lv_topi (fun t6 et6 => ?_)
      have ht6 : t6.toInt = (-1) := by rw [et6]; decide
      have ho7 : (0 ≤ (fi0 0).toInt ∧ (fi0 0).toInt ≤ 600) ∧ (0 ≤ (fi0 1).toInt ∧ (fi0 1).toInt ≤ 600) ∧ (0 ≤ (fi0 5).toInt ∧ (fi0 5).toInt ≤ 600) ∧ (0 ≤ (fi0 9).toInt ∧ (fi0 9).toInt ≤ 60) ∧ z_rng (-1) 59 (fa0 6) ∧ z_rng 0 59 (fa0 8) ∧ z_rng 0 3 (fa0 9) ∧ z_rng 0 269 (fa0 23) ∧ z_rng 0 5 (fa0 27) ∧ z_rng 0 59 (fa0 28) ∧ ((fi0 2).toInt = 1 → 0 ≤ (fi0 3).toInt) ∧ zOkR (fa0 1) (fa0 27) := ⟨⟨by omega, by omega⟩, ⟨by omega, by omega⟩, ⟨by omega, by omega⟩, ⟨by omega, by omega⟩, hv0a6, hv0a8, hv0a9, hv0a23, hv0a27, hv0a28, by omega, hv0y0⟩
      exact W.iret (v := t6) hx hb hr (fun t ht hW => ⟨⟨t6, ((zl 0 [(fi0 0), (fi0 1), (fi0 2), (fi0 3), (fi0 4), (fi0 5), (fi0 6), (fi0 7), (fi0 8), (fi0 9), (fi0 10)]), (zl 0 []), (zl (fun _ => 0) [(fa0 0), (fa0 1), (fa0 2), (fa0 3), (fa0 4), (fa0 5), (fa0 6), (fa0 7), (fa0 8), (fa0 9), (fa0 10), (fa0 11), (fa0 12), (fa0 13), (fa0 14), (fa0 15), (fa0 16), (fa0 17), (fa0 18), (fa0 19), (fa0 20), (fa0 21), (fa0 22), (fa0 23), (fa0 24), (fa0 25), (fa0 26), (fa0 27), (fa0 28), (fa0 29)]), (zl (fun _ => 0) [(fb0 0), (fb0 1), (fb0 2)])), rfl, ho7, ⟨by rw [ht]; exact hP, hD⟩⟩, hS.F ht⟩) hS.2.2 dX9_end_13

set_option maxHeartbeats 8000000 in
set_option maxRecDepth 100000 in
theorem c_X9_see (l : Launch) (D : va_G) (ca : Nat → ClassId) (sa : Nat → Nat) (A : Nat → Prop) (rest : va_W) (r0 : Nat → Nat) (fi0 : Nat → Int32) (fl0 : Nat → Int64) (fa0 : Nat → Nat → Int32) (fb0 : Nat → Nat → Int64) (hv0 : Ok_MOD fi0 fa0) (p1 : Int32) (hpre0 : 0 ≤ p1.toInt) : Met l yX9_see wsX9_see ({ frames := 0, cells := 0, slots := 0, locals := 0 }) (va_Pc [.ref (r0 0), .int p1] (zPre D ca sa A (w_MOD ca r0 fi0 fl0 fa0 fb0 (rest)))) (va_Qi (fun (r : Int32) (u : Unit) => ((r.toInt = -1 ∧ (fi0 1).toInt ≤ p1.toInt) ∨ (0 ≤ r.toInt ∧ r.toInt ≤ 255 ∧ p1.toInt < (fi0 1).toInt))) (fun u t => zPost D A (w_MOD ca r0 fi0 fl0 fa0 fb0 (rest)) t) A) 0 0 A := by
  refine Met.ofW (cc := cX9_see) (maxL := 2) (ret := (some .int)) (by decide) rfl ?_
  intro p e s m args below meth c s₁ B hml hv9
  obtain ⟨rfl, hE, hP, hD⟩ := hv9
  have hx := B.exec
  have hb := B.bytes
  have hr := B.returns
  have hts := atoms_spec (ws := wsX9_see) B.pre
  have hown : s.vm.findClass RX9 = some m.cls := findClass_of_methodNamed B.named
  have hlocks := B.notSynchronized
  have hK := hE.1
  have hF : CallFix p m c cX9_see 2 s _ wsX9_see RX9 := ⟨hx, hb, hml, hown, hts⟩
  have hS : va_S A s.heap s.heap [] := va_S.rf
  have lk126 := hts (.fieldLink RX9 126 "BranchPlayModel" "size" "I") (by decide +kernel)
  have inX9 : ∀ w ∈ wsX90, w ∈ wsX9_see := by decide +kernel
  have lk7 := hts (.fieldLink RX9 7 "BranchPlayModel" "tape" "[B") (by decide +kernel)
  obtain ⟨⟨hv0i0, hv0j0⟩, ⟨hv0i1, hv0j1⟩, ⟨hv0i5, hv0j5⟩, ⟨hv0i9, hv0j9⟩, hv0a6, hv0a8, hv0a9, hv0a23, hv0a27, hv0a28, hv0x0, hv0y0⟩ := hv0
  generalize hHe : s.heap = H at hP
  have hS : va_S A s.heap H [] := by rw [← hHe]; exact hS
  have hP : va_P D vwCl (((r0 0), .inr (9, [.ref (r0 1), .int (fi0 0), .int (fi0 1), .int (fi0 2), .int (fi0 3), .int (fi0 4), .int (fi0 5), .int (fi0 6), .int (fi0 7), .int (fi0 8), .ref (r0 2), .int (fi0 9), .ref (r0 3), .ref (r0 4), .ref (r0 5), .ref (r0 6), .ref (r0 7), .ref (r0 8), .ref (r0 9), .ref (r0 10), .ref (r0 11), .ref (r0 12), .ref (r0 13), .ref (r0 14), .ref (r0 15), .ref (r0 16), .ref (r0 17), .ref (r0 18), .ref (r0 19), .ref (r0 20), .ref (r0 21), .ref (r0 22), .ref (r0 23), .ref (r0 24), .ref (r0 25), .ref (r0 26), .ref (r0 27), .ref (r0 28), .ref (r0 29), .ref (r0 30), .ref (r0 31), .ref (r0 32), .int (fi0 10), .ref (r0 33)])) :: ((r0 1), .inl (ca 2, 600, .inl (fa0 0))) :: ((r0 2), .inl (ca 0, 48, .inl (fa0 1))) :: ((r0 3), .inl (ca 0, 60, .inl (fa0 2))) :: ((r0 4), .inl (ca 0, 60, .inl (fa0 3))) :: ((r0 5), .inl (ca 0, 60, .inl (fa0 4))) :: ((r0 6), .inl (ca 0, 60, .inl (fa0 5))) :: ((r0 7), .inl (ca 0, 60, .inl (fa0 6))) :: ((r0 8), .inl (ca 0, 60, .inl (fa0 7))) :: ((r0 9), .inl (ca 0, 180, .inl (fa0 8))) :: ((r0 10), .inl (ca 0, 60, .inl (fa0 9))) :: ((r0 11), .inl (ca 0, 180, .inl (fa0 10))) :: ((r0 12), .inl (ca 0, 180, .inl (fa0 11))) :: ((r0 13), .inl (ca 0, 180, .inl (fa0 12))) :: ((r0 14), .inl (ca 0, 180, .inl (fa0 13))) :: ((r0 15), .inl (ca 0, 180, .inl (fa0 14))) :: ((r0 16), .inl (ca 0, 180, .inl (fa0 15))) :: ((r0 17), .inl (ca 0, 180, .inl (fa0 16))) :: ((r0 18), .inl (ca 0, 180, .inl (fa0 17))) :: ((r0 19), .inl (ca 0, 180, .inl (fa0 18))) :: ((r0 20), .inl (ca 0, 180, .inl (fa0 19))) :: ((r0 21), .inl (ca 0, 3, .inl (fa0 20))) :: ((r0 22), .inl (ca 1, 3, .inr (.inl (fb0 0)))) :: ((r0 23), .inl (ca 1, 3, .inr (.inl (fb0 1)))) :: ((r0 24), .inl (ca 3, 3, .inl (fa0 21))) :: ((r0 25), .inl (ca 0, 3, .inl (fa0 22))) :: ((r0 26), .inl (ca 0, 3, .inl (fa0 23))) :: ((r0 27), .inl (ca 0, 810, .inl (fa0 24))) :: ((r0 28), .inl (ca 3, 810, .inl (fa0 25))) :: ((r0 29), .inl (ca 1, 810, .inr (.inl (fb0 2)))) :: ((r0 30), .inl (ca 0, 810, .inl (fa0 26))) :: ((r0 31), .inl (ca 0, 3, .inl (fa0 27))) :: ((r0 32), .inl (ca 0, 60, .inl (fa0 28))) :: ((r0 33), .inl (ca 0, 4, .inl (fa0 29))) :: rest) H := hP
  have hD : va_D A (((r0 0), .inr (9, [.ref (r0 1), .int (fi0 0), .int (fi0 1), .int (fi0 2), .int (fi0 3), .int (fi0 4), .int (fi0 5), .int (fi0 6), .int (fi0 7), .int (fi0 8), .ref (r0 2), .int (fi0 9), .ref (r0 3), .ref (r0 4), .ref (r0 5), .ref (r0 6), .ref (r0 7), .ref (r0 8), .ref (r0 9), .ref (r0 10), .ref (r0 11), .ref (r0 12), .ref (r0 13), .ref (r0 14), .ref (r0 15), .ref (r0 16), .ref (r0 17), .ref (r0 18), .ref (r0 19), .ref (r0 20), .ref (r0 21), .ref (r0 22), .ref (r0 23), .ref (r0 24), .ref (r0 25), .ref (r0 26), .ref (r0 27), .ref (r0 28), .ref (r0 29), .ref (r0 30), .ref (r0 31), .ref (r0 32), .int (fi0 10), .ref (r0 33)])) :: ((r0 1), .inl (ca 2, 600, .inl (fa0 0))) :: ((r0 2), .inl (ca 0, 48, .inl (fa0 1))) :: ((r0 3), .inl (ca 0, 60, .inl (fa0 2))) :: ((r0 4), .inl (ca 0, 60, .inl (fa0 3))) :: ((r0 5), .inl (ca 0, 60, .inl (fa0 4))) :: ((r0 6), .inl (ca 0, 60, .inl (fa0 5))) :: ((r0 7), .inl (ca 0, 60, .inl (fa0 6))) :: ((r0 8), .inl (ca 0, 60, .inl (fa0 7))) :: ((r0 9), .inl (ca 0, 180, .inl (fa0 8))) :: ((r0 10), .inl (ca 0, 60, .inl (fa0 9))) :: ((r0 11), .inl (ca 0, 180, .inl (fa0 10))) :: ((r0 12), .inl (ca 0, 180, .inl (fa0 11))) :: ((r0 13), .inl (ca 0, 180, .inl (fa0 12))) :: ((r0 14), .inl (ca 0, 180, .inl (fa0 13))) :: ((r0 15), .inl (ca 0, 180, .inl (fa0 14))) :: ((r0 16), .inl (ca 0, 180, .inl (fa0 15))) :: ((r0 17), .inl (ca 0, 180, .inl (fa0 16))) :: ((r0 18), .inl (ca 0, 180, .inl (fa0 17))) :: ((r0 19), .inl (ca 0, 180, .inl (fa0 18))) :: ((r0 20), .inl (ca 0, 180, .inl (fa0 19))) :: ((r0 21), .inl (ca 0, 3, .inl (fa0 20))) :: ((r0 22), .inl (ca 1, 3, .inr (.inl (fb0 0)))) :: ((r0 23), .inl (ca 1, 3, .inr (.inl (fb0 1)))) :: ((r0 24), .inl (ca 3, 3, .inl (fa0 21))) :: ((r0 25), .inl (ca 0, 3, .inl (fa0 22))) :: ((r0 26), .inl (ca 0, 3, .inl (fa0 23))) :: ((r0 27), .inl (ca 0, 810, .inl (fa0 24))) :: ((r0 28), .inl (ca 3, 810, .inl (fa0 25))) :: ((r0 29), .inl (ca 1, 810, .inr (.inl (fb0 2)))) :: ((r0 30), .inl (ca 0, 810, .inl (fa0 26))) :: ((r0 31), .inl (ca 0, 3, .inl (fa0 27))) :: ((r0 32), .inl (ca 0, 60, .inl (fa0 28))) :: ((r0 33), .inl (ca 0, 4, .inl (fa0 29))) :: rest) := hD
  have hl := lv_entry ([.ref (r0 0), .int p1]) (n := 2) (Nat.le_of_ble_eq_true rfl)
  rw [lg_entry_eq]
  generalize (lg_sl ([.ref (r0 0), .int p1]) ++ List.replicate (2 - (lg_sl ([.ref (r0 0), .int p1])).length) Slot.unset).toArray = ls at hl ⊢
  have hl : lv_has ls 2 [(0, .ref (r0 0)), (1, .int p1)] := hl
  generalize hQ9 : MQ below _ _ s 0 0 A = Q9
  refine lv_iload_n hx hb dX9_see_0 rfl (lv_at hl 1 rfl) ?_
  refine lv_aload_n hx hb dX9_see_1 rfl (lv_at hl 0 rfl) ?_
  refine va_get (D := D) (ci := 9) (v := .int (fi0 1)) (C := RX9) (T := TX9) (N := 44) hx hb hts inX9 hown hK hP 0 rfl rfl 2 (by decide) lk126 (fun _ h9 => h9) rfl dX9_see_2 ?_
  refine lv_icmp_ge (tgt := 21) hx hb dX9_see_5 (by decide) (fun c1 => ?_) (fun c1 => ?_)
  ·
    have c1 := z_le (i := (fi0 1).toInt) (j := p1.toInt) rfl rfl c1
    refine lv_iconst (v := (-1)) hx hb dX9_see_21 (by decide) ?_
    subst hQ9
    refine lv_topi (fun t2 et2 => ?_)
    have ht2 : t2.toInt = (-1) := by rw [et2]; decide
    have hq3 : (t2.toInt = -1 ∧ (fi0 1).toInt ≤ p1.toInt) ∨ (0 ≤ t2.toInt ∧ t2.toInt ≤ 255 ∧ p1.toInt < (fi0 1).toInt) := by omega
    exact W.iret (v := t2) hx hb hr (fun t ht hW => ⟨⟨t2, (), rfl, hq3, ⟨by rw [ht]; exact hP, hD⟩⟩, hS.F ht⟩) hS.2.2 dX9_see_22
  ·
    have c1 := z_nle (i := (fi0 1).toInt) (j := p1.toInt) rfl rfl c1
    refine lv_aload_n hx hb dX9_see_8 rfl (lv_at hl 0 rfl) ?_
    refine va_get (D := D) (ci := 9) (v := .ref (r0 1)) (C := RX9) (T := TX9) (N := 44) hx hb hts inX9 hown hK hP 0 rfl rfl 0 (by decide) lk7 (fun _ h9 => h9) rfl dX9_see_9 ?_
    refine lv_iload_n hx hb dX9_see_12 rfl (lv_at hl 1 rfl) ?_
    have hi4 : vp_in p1 600 := z_in (i := p1.toInt) rfl (by omega) (by omega)
    refine va_bald hx hb hK hP 1 2 rfl rfl hi4 dX9_see_13 ?_
    refine lv_topi (fun t5 et5 => ?_)
    refine lv_sipush (v := 255) hx hb dX9_see_14 (by decide) ?_
    refine lv_iand hx hb dX9_see_17 ?_
    refine lv_topi (fun t6 et6 => ?_)
    have ht6 := z_and255 et6
    refine lv_goto (tgt := 22) hx hb dX9_see_18 (by decide) ?_
    subst hQ9
    have hq7 : (t6.toInt = -1 ∧ (fi0 1).toInt ≤ p1.toInt) ∨ (0 ≤ t6.toInt ∧ t6.toInt ≤ 255 ∧ p1.toInt < (fi0 1).toInt) := by omega
    exact W.iret (v := t6) hx hb hr (fun t ht hW => ⟨⟨t6, (), rfl, hq7, ⟨by rw [ht]; exact hP, hD⟩⟩, hS.F ht⟩) hS.2.2 dX9_see_22

set_option maxHeartbeats 8000000 in
set_option maxRecDepth 100000 in
theorem c_X9_wrong (l : Launch) (D : va_G) (ca : Nat → ClassId) (sa : Nat → Nat) (A : Nat → Prop) (rest : va_W) (r0 : Nat → Nat) (fi0 : Nat → Int32) (fl0 : Nat → Int64) (fa0 : Nat → Nat → Int32) (fb0 : Nat → Nat → Int64) (hv0 : Ok_MOD fi0 fa0) (p1 : Int32) : Met l yX9_wrong wsX9_wrong ({ frames := 0, cells := 0, slots := 0, locals := 0 }) (va_Pc [.ref (r0 0), .int p1] (zPre D ca sa A (w_MOD ca r0 fi0 fl0 fa0 fb0 (rest)))) (va_Qi (fun (r : Int32) (u : zS) => Ok_MOD (zx [7, 8] fi0 u.1) (zx [] fa0 u.2.2.1) ∧ (r.toInt = 0)) (fun u t => zPost D A (w_MOD ca r0 (zx [7, 8] fi0 u.1) (zx [] fl0 u.2.1) (zx [] fa0 u.2.2.1) (zx [] fb0 u.2.2.2) (rest)) t) A) 0 0 A := by
  refine Met.ofW (cc := cX9_wrong) (maxL := 2) (ret := (some .boolean)) (by decide) rfl ?_
  intro p e s m args below meth c s₁ B hml hv9
  obtain ⟨rfl, hE, hP, hD⟩ := hv9
  have hx := B.exec
  have hb := B.bytes
  have hr := B.returns
  have hts := atoms_spec (ws := wsX9_wrong) B.pre
  have hown : s.vm.findClass RX9 = some m.cls := findClass_of_methodNamed B.named
  have hlocks := B.notSynchronized
  have hK := hE.1
  have hF : CallFix p m c cX9_wrong 2 s _ wsX9_wrong RX9 := ⟨hx, hb, hml, hown, hts⟩
  have hS : va_S A s.heap s.heap [] := va_S.rf
  have lk170 := hts (.fieldLink RX9 170 "BranchPlayModel" "faultKind" "I") (by decide +kernel)
  have inX9 : ∀ w ∈ wsX90, w ∈ wsX9_wrong := by decide +kernel
  have lk147 := hts (.fieldLink RX9 147 "BranchPlayModel" "at" "I") (by decide +kernel)
  have lk13 := hts (.fieldLink RX9 13 "BranchPlayModel" "faultPlace" "I") (by decide +kernel)
  obtain ⟨⟨hv0i0, hv0j0⟩, ⟨hv0i1, hv0j1⟩, ⟨hv0i5, hv0j5⟩, ⟨hv0i9, hv0j9⟩, hv0a6, hv0a8, hv0a9, hv0a23, hv0a27, hv0a28, hv0x0, hv0y0⟩ := hv0
  generalize hHe : s.heap = H at hP
  have hS : va_S A s.heap H [] := by rw [← hHe]; exact hS
  have hP : va_P D vwCl (((r0 0), .inr (9, [.ref (r0 1), .int (fi0 0), .int (fi0 1), .int (fi0 2), .int (fi0 3), .int (fi0 4), .int (fi0 5), .int (fi0 6), .int (fi0 7), .int (fi0 8), .ref (r0 2), .int (fi0 9), .ref (r0 3), .ref (r0 4), .ref (r0 5), .ref (r0 6), .ref (r0 7), .ref (r0 8), .ref (r0 9), .ref (r0 10), .ref (r0 11), .ref (r0 12), .ref (r0 13), .ref (r0 14), .ref (r0 15), .ref (r0 16), .ref (r0 17), .ref (r0 18), .ref (r0 19), .ref (r0 20), .ref (r0 21), .ref (r0 22), .ref (r0 23), .ref (r0 24), .ref (r0 25), .ref (r0 26), .ref (r0 27), .ref (r0 28), .ref (r0 29), .ref (r0 30), .ref (r0 31), .ref (r0 32), .int (fi0 10), .ref (r0 33)])) :: ((r0 1), .inl (ca 2, 600, .inl (fa0 0))) :: ((r0 2), .inl (ca 0, 48, .inl (fa0 1))) :: ((r0 3), .inl (ca 0, 60, .inl (fa0 2))) :: ((r0 4), .inl (ca 0, 60, .inl (fa0 3))) :: ((r0 5), .inl (ca 0, 60, .inl (fa0 4))) :: ((r0 6), .inl (ca 0, 60, .inl (fa0 5))) :: ((r0 7), .inl (ca 0, 60, .inl (fa0 6))) :: ((r0 8), .inl (ca 0, 60, .inl (fa0 7))) :: ((r0 9), .inl (ca 0, 180, .inl (fa0 8))) :: ((r0 10), .inl (ca 0, 60, .inl (fa0 9))) :: ((r0 11), .inl (ca 0, 180, .inl (fa0 10))) :: ((r0 12), .inl (ca 0, 180, .inl (fa0 11))) :: ((r0 13), .inl (ca 0, 180, .inl (fa0 12))) :: ((r0 14), .inl (ca 0, 180, .inl (fa0 13))) :: ((r0 15), .inl (ca 0, 180, .inl (fa0 14))) :: ((r0 16), .inl (ca 0, 180, .inl (fa0 15))) :: ((r0 17), .inl (ca 0, 180, .inl (fa0 16))) :: ((r0 18), .inl (ca 0, 180, .inl (fa0 17))) :: ((r0 19), .inl (ca 0, 180, .inl (fa0 18))) :: ((r0 20), .inl (ca 0, 180, .inl (fa0 19))) :: ((r0 21), .inl (ca 0, 3, .inl (fa0 20))) :: ((r0 22), .inl (ca 1, 3, .inr (.inl (fb0 0)))) :: ((r0 23), .inl (ca 1, 3, .inr (.inl (fb0 1)))) :: ((r0 24), .inl (ca 3, 3, .inl (fa0 21))) :: ((r0 25), .inl (ca 0, 3, .inl (fa0 22))) :: ((r0 26), .inl (ca 0, 3, .inl (fa0 23))) :: ((r0 27), .inl (ca 0, 810, .inl (fa0 24))) :: ((r0 28), .inl (ca 3, 810, .inl (fa0 25))) :: ((r0 29), .inl (ca 1, 810, .inr (.inl (fb0 2)))) :: ((r0 30), .inl (ca 0, 810, .inl (fa0 26))) :: ((r0 31), .inl (ca 0, 3, .inl (fa0 27))) :: ((r0 32), .inl (ca 0, 60, .inl (fa0 28))) :: ((r0 33), .inl (ca 0, 4, .inl (fa0 29))) :: rest) H := hP
  have hD : va_D A (((r0 0), .inr (9, [.ref (r0 1), .int (fi0 0), .int (fi0 1), .int (fi0 2), .int (fi0 3), .int (fi0 4), .int (fi0 5), .int (fi0 6), .int (fi0 7), .int (fi0 8), .ref (r0 2), .int (fi0 9), .ref (r0 3), .ref (r0 4), .ref (r0 5), .ref (r0 6), .ref (r0 7), .ref (r0 8), .ref (r0 9), .ref (r0 10), .ref (r0 11), .ref (r0 12), .ref (r0 13), .ref (r0 14), .ref (r0 15), .ref (r0 16), .ref (r0 17), .ref (r0 18), .ref (r0 19), .ref (r0 20), .ref (r0 21), .ref (r0 22), .ref (r0 23), .ref (r0 24), .ref (r0 25), .ref (r0 26), .ref (r0 27), .ref (r0 28), .ref (r0 29), .ref (r0 30), .ref (r0 31), .ref (r0 32), .int (fi0 10), .ref (r0 33)])) :: ((r0 1), .inl (ca 2, 600, .inl (fa0 0))) :: ((r0 2), .inl (ca 0, 48, .inl (fa0 1))) :: ((r0 3), .inl (ca 0, 60, .inl (fa0 2))) :: ((r0 4), .inl (ca 0, 60, .inl (fa0 3))) :: ((r0 5), .inl (ca 0, 60, .inl (fa0 4))) :: ((r0 6), .inl (ca 0, 60, .inl (fa0 5))) :: ((r0 7), .inl (ca 0, 60, .inl (fa0 6))) :: ((r0 8), .inl (ca 0, 60, .inl (fa0 7))) :: ((r0 9), .inl (ca 0, 180, .inl (fa0 8))) :: ((r0 10), .inl (ca 0, 60, .inl (fa0 9))) :: ((r0 11), .inl (ca 0, 180, .inl (fa0 10))) :: ((r0 12), .inl (ca 0, 180, .inl (fa0 11))) :: ((r0 13), .inl (ca 0, 180, .inl (fa0 12))) :: ((r0 14), .inl (ca 0, 180, .inl (fa0 13))) :: ((r0 15), .inl (ca 0, 180, .inl (fa0 14))) :: ((r0 16), .inl (ca 0, 180, .inl (fa0 15))) :: ((r0 17), .inl (ca 0, 180, .inl (fa0 16))) :: ((r0 18), .inl (ca 0, 180, .inl (fa0 17))) :: ((r0 19), .inl (ca 0, 180, .inl (fa0 18))) :: ((r0 20), .inl (ca 0, 180, .inl (fa0 19))) :: ((r0 21), .inl (ca 0, 3, .inl (fa0 20))) :: ((r0 22), .inl (ca 1, 3, .inr (.inl (fb0 0)))) :: ((r0 23), .inl (ca 1, 3, .inr (.inl (fb0 1)))) :: ((r0 24), .inl (ca 3, 3, .inl (fa0 21))) :: ((r0 25), .inl (ca 0, 3, .inl (fa0 22))) :: ((r0 26), .inl (ca 0, 3, .inl (fa0 23))) :: ((r0 27), .inl (ca 0, 810, .inl (fa0 24))) :: ((r0 28), .inl (ca 3, 810, .inl (fa0 25))) :: ((r0 29), .inl (ca 1, 810, .inr (.inl (fb0 2)))) :: ((r0 30), .inl (ca 0, 810, .inl (fa0 26))) :: ((r0 31), .inl (ca 0, 3, .inl (fa0 27))) :: ((r0 32), .inl (ca 0, 60, .inl (fa0 28))) :: ((r0 33), .inl (ca 0, 4, .inl (fa0 29))) :: rest) := hD
  have hl := lv_entry ([.ref (r0 0), .int p1]) (n := 2) (Nat.le_of_ble_eq_true rfl)
  rw [lg_entry_eq]
  generalize (lg_sl ([.ref (r0 0), .int p1]) ++ List.replicate (2 - (lg_sl ([.ref (r0 0), .int p1])).length) Slot.unset).toArray = ls at hl ⊢
  have hl : lv_has ls 2 [(0, .ref (r0 0)), (1, .int p1)] := hl
  generalize hQ9 : MQ below _ _ s 0 0 A = Q9
  refine lv_aload_n hx hb dX9_wrong_0 rfl (lv_at hl 0 rfl) ?_
  refine lv_iload_n hx hb dX9_wrong_1 rfl (lv_at hl 1 rfl) ?_
  refine va_put (D := D) (ci := 9) (v := .int p1) (ty := .int) (C := RX9) (T := TX9) (N := 44) hx hb hts inX9 tyX9 tyX9_ok nmX9 hown hK hP hD hS 0 rfl rfl 8 (by decide) lk170 (fun _ h9 => h9) rfl (by decide +kernel) rfl rfl (Nat.le_of_ble_eq_true rfl) dX9_wrong_2 (fun H locs hP hD hS => ?_)
  have hP : va_P D vwCl (((r0 0), .inr (9, [.ref (r0 1), .int (fi0 0), .int (fi0 1), .int (fi0 2), .int (fi0 3), .int (fi0 4), .int (fi0 5), .int (fi0 6), .int p1, .int (fi0 8), .ref (r0 2), .int (fi0 9), .ref (r0 3), .ref (r0 4), .ref (r0 5), .ref (r0 6), .ref (r0 7), .ref (r0 8), .ref (r0 9), .ref (r0 10), .ref (r0 11), .ref (r0 12), .ref (r0 13), .ref (r0 14), .ref (r0 15), .ref (r0 16), .ref (r0 17), .ref (r0 18), .ref (r0 19), .ref (r0 20), .ref (r0 21), .ref (r0 22), .ref (r0 23), .ref (r0 24), .ref (r0 25), .ref (r0 26), .ref (r0 27), .ref (r0 28), .ref (r0 29), .ref (r0 30), .ref (r0 31), .ref (r0 32), .int (fi0 10), .ref (r0 33)])) :: ((r0 1), .inl (ca 2, 600, .inl (fa0 0))) :: ((r0 2), .inl (ca 0, 48, .inl (fa0 1))) :: ((r0 3), .inl (ca 0, 60, .inl (fa0 2))) :: ((r0 4), .inl (ca 0, 60, .inl (fa0 3))) :: ((r0 5), .inl (ca 0, 60, .inl (fa0 4))) :: ((r0 6), .inl (ca 0, 60, .inl (fa0 5))) :: ((r0 7), .inl (ca 0, 60, .inl (fa0 6))) :: ((r0 8), .inl (ca 0, 60, .inl (fa0 7))) :: ((r0 9), .inl (ca 0, 180, .inl (fa0 8))) :: ((r0 10), .inl (ca 0, 60, .inl (fa0 9))) :: ((r0 11), .inl (ca 0, 180, .inl (fa0 10))) :: ((r0 12), .inl (ca 0, 180, .inl (fa0 11))) :: ((r0 13), .inl (ca 0, 180, .inl (fa0 12))) :: ((r0 14), .inl (ca 0, 180, .inl (fa0 13))) :: ((r0 15), .inl (ca 0, 180, .inl (fa0 14))) :: ((r0 16), .inl (ca 0, 180, .inl (fa0 15))) :: ((r0 17), .inl (ca 0, 180, .inl (fa0 16))) :: ((r0 18), .inl (ca 0, 180, .inl (fa0 17))) :: ((r0 19), .inl (ca 0, 180, .inl (fa0 18))) :: ((r0 20), .inl (ca 0, 180, .inl (fa0 19))) :: ((r0 21), .inl (ca 0, 3, .inl (fa0 20))) :: ((r0 22), .inl (ca 1, 3, .inr (.inl (fb0 0)))) :: ((r0 23), .inl (ca 1, 3, .inr (.inl (fb0 1)))) :: ((r0 24), .inl (ca 3, 3, .inl (fa0 21))) :: ((r0 25), .inl (ca 0, 3, .inl (fa0 22))) :: ((r0 26), .inl (ca 0, 3, .inl (fa0 23))) :: ((r0 27), .inl (ca 0, 810, .inl (fa0 24))) :: ((r0 28), .inl (ca 3, 810, .inl (fa0 25))) :: ((r0 29), .inl (ca 1, 810, .inr (.inl (fb0 2)))) :: ((r0 30), .inl (ca 0, 810, .inl (fa0 26))) :: ((r0 31), .inl (ca 0, 3, .inl (fa0 27))) :: ((r0 32), .inl (ca 0, 60, .inl (fa0 28))) :: ((r0 33), .inl (ca 0, 4, .inl (fa0 29))) :: rest) H := hP
  have hD : va_D A (((r0 0), .inr (9, [.ref (r0 1), .int (fi0 0), .int (fi0 1), .int (fi0 2), .int (fi0 3), .int (fi0 4), .int (fi0 5), .int (fi0 6), .int p1, .int (fi0 8), .ref (r0 2), .int (fi0 9), .ref (r0 3), .ref (r0 4), .ref (r0 5), .ref (r0 6), .ref (r0 7), .ref (r0 8), .ref (r0 9), .ref (r0 10), .ref (r0 11), .ref (r0 12), .ref (r0 13), .ref (r0 14), .ref (r0 15), .ref (r0 16), .ref (r0 17), .ref (r0 18), .ref (r0 19), .ref (r0 20), .ref (r0 21), .ref (r0 22), .ref (r0 23), .ref (r0 24), .ref (r0 25), .ref (r0 26), .ref (r0 27), .ref (r0 28), .ref (r0 29), .ref (r0 30), .ref (r0 31), .ref (r0 32), .int (fi0 10), .ref (r0 33)])) :: ((r0 1), .inl (ca 2, 600, .inl (fa0 0))) :: ((r0 2), .inl (ca 0, 48, .inl (fa0 1))) :: ((r0 3), .inl (ca 0, 60, .inl (fa0 2))) :: ((r0 4), .inl (ca 0, 60, .inl (fa0 3))) :: ((r0 5), .inl (ca 0, 60, .inl (fa0 4))) :: ((r0 6), .inl (ca 0, 60, .inl (fa0 5))) :: ((r0 7), .inl (ca 0, 60, .inl (fa0 6))) :: ((r0 8), .inl (ca 0, 60, .inl (fa0 7))) :: ((r0 9), .inl (ca 0, 180, .inl (fa0 8))) :: ((r0 10), .inl (ca 0, 60, .inl (fa0 9))) :: ((r0 11), .inl (ca 0, 180, .inl (fa0 10))) :: ((r0 12), .inl (ca 0, 180, .inl (fa0 11))) :: ((r0 13), .inl (ca 0, 180, .inl (fa0 12))) :: ((r0 14), .inl (ca 0, 180, .inl (fa0 13))) :: ((r0 15), .inl (ca 0, 180, .inl (fa0 14))) :: ((r0 16), .inl (ca 0, 180, .inl (fa0 15))) :: ((r0 17), .inl (ca 0, 180, .inl (fa0 16))) :: ((r0 18), .inl (ca 0, 180, .inl (fa0 17))) :: ((r0 19), .inl (ca 0, 180, .inl (fa0 18))) :: ((r0 20), .inl (ca 0, 180, .inl (fa0 19))) :: ((r0 21), .inl (ca 0, 3, .inl (fa0 20))) :: ((r0 22), .inl (ca 1, 3, .inr (.inl (fb0 0)))) :: ((r0 23), .inl (ca 1, 3, .inr (.inl (fb0 1)))) :: ((r0 24), .inl (ca 3, 3, .inl (fa0 21))) :: ((r0 25), .inl (ca 0, 3, .inl (fa0 22))) :: ((r0 26), .inl (ca 0, 3, .inl (fa0 23))) :: ((r0 27), .inl (ca 0, 810, .inl (fa0 24))) :: ((r0 28), .inl (ca 3, 810, .inl (fa0 25))) :: ((r0 29), .inl (ca 1, 810, .inr (.inl (fb0 2)))) :: ((r0 30), .inl (ca 0, 810, .inl (fa0 26))) :: ((r0 31), .inl (ca 0, 3, .inl (fa0 27))) :: ((r0 32), .inl (ca 0, 60, .inl (fa0 28))) :: ((r0 33), .inl (ca 0, 4, .inl (fa0 29))) :: rest) := hD
  refine lv_aload_n hx hb dX9_wrong_5 rfl (lv_at hl 0 rfl) ?_
  refine lv_aload_n hx hb dX9_wrong_6 rfl (lv_at hl 0 rfl) ?_
  refine va_get (D := D) (ci := 9) (v := .int (fi0 4)) (C := RX9) (T := TX9) (N := 44) hx hb hts inX9 hown hK hP 0 rfl rfl 5 (by decide) lk147 (fun _ h9 => h9) rfl dX9_wrong_7 ?_
  refine va_put (D := D) (ci := 9) (v := .int (fi0 4)) (ty := .int) (C := RX9) (T := TX9) (N := 44) hx hb hts inX9 tyX9 tyX9_ok nmX9 hown hK hP hD hS 0 rfl rfl 9 (by decide) lk13 (fun _ h9 => h9) rfl (by decide +kernel) rfl rfl (Nat.le_of_ble_eq_true rfl) dX9_wrong_10 (fun H locs hP hD hS => ?_)
  have hP : va_P D vwCl (((r0 0), .inr (9, [.ref (r0 1), .int (fi0 0), .int (fi0 1), .int (fi0 2), .int (fi0 3), .int (fi0 4), .int (fi0 5), .int (fi0 6), .int p1, .int (fi0 4), .ref (r0 2), .int (fi0 9), .ref (r0 3), .ref (r0 4), .ref (r0 5), .ref (r0 6), .ref (r0 7), .ref (r0 8), .ref (r0 9), .ref (r0 10), .ref (r0 11), .ref (r0 12), .ref (r0 13), .ref (r0 14), .ref (r0 15), .ref (r0 16), .ref (r0 17), .ref (r0 18), .ref (r0 19), .ref (r0 20), .ref (r0 21), .ref (r0 22), .ref (r0 23), .ref (r0 24), .ref (r0 25), .ref (r0 26), .ref (r0 27), .ref (r0 28), .ref (r0 29), .ref (r0 30), .ref (r0 31), .ref (r0 32), .int (fi0 10), .ref (r0 33)])) :: ((r0 1), .inl (ca 2, 600, .inl (fa0 0))) :: ((r0 2), .inl (ca 0, 48, .inl (fa0 1))) :: ((r0 3), .inl (ca 0, 60, .inl (fa0 2))) :: ((r0 4), .inl (ca 0, 60, .inl (fa0 3))) :: ((r0 5), .inl (ca 0, 60, .inl (fa0 4))) :: ((r0 6), .inl (ca 0, 60, .inl (fa0 5))) :: ((r0 7), .inl (ca 0, 60, .inl (fa0 6))) :: ((r0 8), .inl (ca 0, 60, .inl (fa0 7))) :: ((r0 9), .inl (ca 0, 180, .inl (fa0 8))) :: ((r0 10), .inl (ca 0, 60, .inl (fa0 9))) :: ((r0 11), .inl (ca 0, 180, .inl (fa0 10))) :: ((r0 12), .inl (ca 0, 180, .inl (fa0 11))) :: ((r0 13), .inl (ca 0, 180, .inl (fa0 12))) :: ((r0 14), .inl (ca 0, 180, .inl (fa0 13))) :: ((r0 15), .inl (ca 0, 180, .inl (fa0 14))) :: ((r0 16), .inl (ca 0, 180, .inl (fa0 15))) :: ((r0 17), .inl (ca 0, 180, .inl (fa0 16))) :: ((r0 18), .inl (ca 0, 180, .inl (fa0 17))) :: ((r0 19), .inl (ca 0, 180, .inl (fa0 18))) :: ((r0 20), .inl (ca 0, 180, .inl (fa0 19))) :: ((r0 21), .inl (ca 0, 3, .inl (fa0 20))) :: ((r0 22), .inl (ca 1, 3, .inr (.inl (fb0 0)))) :: ((r0 23), .inl (ca 1, 3, .inr (.inl (fb0 1)))) :: ((r0 24), .inl (ca 3, 3, .inl (fa0 21))) :: ((r0 25), .inl (ca 0, 3, .inl (fa0 22))) :: ((r0 26), .inl (ca 0, 3, .inl (fa0 23))) :: ((r0 27), .inl (ca 0, 810, .inl (fa0 24))) :: ((r0 28), .inl (ca 3, 810, .inl (fa0 25))) :: ((r0 29), .inl (ca 1, 810, .inr (.inl (fb0 2)))) :: ((r0 30), .inl (ca 0, 810, .inl (fa0 26))) :: ((r0 31), .inl (ca 0, 3, .inl (fa0 27))) :: ((r0 32), .inl (ca 0, 60, .inl (fa0 28))) :: ((r0 33), .inl (ca 0, 4, .inl (fa0 29))) :: rest) H := hP
  have hD : va_D A (((r0 0), .inr (9, [.ref (r0 1), .int (fi0 0), .int (fi0 1), .int (fi0 2), .int (fi0 3), .int (fi0 4), .int (fi0 5), .int (fi0 6), .int p1, .int (fi0 4), .ref (r0 2), .int (fi0 9), .ref (r0 3), .ref (r0 4), .ref (r0 5), .ref (r0 6), .ref (r0 7), .ref (r0 8), .ref (r0 9), .ref (r0 10), .ref (r0 11), .ref (r0 12), .ref (r0 13), .ref (r0 14), .ref (r0 15), .ref (r0 16), .ref (r0 17), .ref (r0 18), .ref (r0 19), .ref (r0 20), .ref (r0 21), .ref (r0 22), .ref (r0 23), .ref (r0 24), .ref (r0 25), .ref (r0 26), .ref (r0 27), .ref (r0 28), .ref (r0 29), .ref (r0 30), .ref (r0 31), .ref (r0 32), .int (fi0 10), .ref (r0 33)])) :: ((r0 1), .inl (ca 2, 600, .inl (fa0 0))) :: ((r0 2), .inl (ca 0, 48, .inl (fa0 1))) :: ((r0 3), .inl (ca 0, 60, .inl (fa0 2))) :: ((r0 4), .inl (ca 0, 60, .inl (fa0 3))) :: ((r0 5), .inl (ca 0, 60, .inl (fa0 4))) :: ((r0 6), .inl (ca 0, 60, .inl (fa0 5))) :: ((r0 7), .inl (ca 0, 60, .inl (fa0 6))) :: ((r0 8), .inl (ca 0, 60, .inl (fa0 7))) :: ((r0 9), .inl (ca 0, 180, .inl (fa0 8))) :: ((r0 10), .inl (ca 0, 60, .inl (fa0 9))) :: ((r0 11), .inl (ca 0, 180, .inl (fa0 10))) :: ((r0 12), .inl (ca 0, 180, .inl (fa0 11))) :: ((r0 13), .inl (ca 0, 180, .inl (fa0 12))) :: ((r0 14), .inl (ca 0, 180, .inl (fa0 13))) :: ((r0 15), .inl (ca 0, 180, .inl (fa0 14))) :: ((r0 16), .inl (ca 0, 180, .inl (fa0 15))) :: ((r0 17), .inl (ca 0, 180, .inl (fa0 16))) :: ((r0 18), .inl (ca 0, 180, .inl (fa0 17))) :: ((r0 19), .inl (ca 0, 180, .inl (fa0 18))) :: ((r0 20), .inl (ca 0, 180, .inl (fa0 19))) :: ((r0 21), .inl (ca 0, 3, .inl (fa0 20))) :: ((r0 22), .inl (ca 1, 3, .inr (.inl (fb0 0)))) :: ((r0 23), .inl (ca 1, 3, .inr (.inl (fb0 1)))) :: ((r0 24), .inl (ca 3, 3, .inl (fa0 21))) :: ((r0 25), .inl (ca 0, 3, .inl (fa0 22))) :: ((r0 26), .inl (ca 0, 3, .inl (fa0 23))) :: ((r0 27), .inl (ca 0, 810, .inl (fa0 24))) :: ((r0 28), .inl (ca 3, 810, .inl (fa0 25))) :: ((r0 29), .inl (ca 1, 810, .inr (.inl (fb0 2)))) :: ((r0 30), .inl (ca 0, 810, .inl (fa0 26))) :: ((r0 31), .inl (ca 0, 3, .inl (fa0 27))) :: ((r0 32), .inl (ca 0, 60, .inl (fa0 28))) :: ((r0 33), .inl (ca 0, 4, .inl (fa0 29))) :: rest) := hD
  refine lv_iconst (v := 0) hx hb dX9_wrong_13 (by decide) ?_
  subst hQ9
  refine lv_topi (fun t1 et1 => ?_)
  have ht1 : t1.toInt = 0 := by rw [et1]; decide
  have ho2 : (0 ≤ (fi0 0).toInt ∧ (fi0 0).toInt ≤ 600) ∧ (0 ≤ (fi0 1).toInt ∧ (fi0 1).toInt ≤ 600) ∧ (0 ≤ (fi0 5).toInt ∧ (fi0 5).toInt ≤ 600) ∧ (0 ≤ (fi0 9).toInt ∧ (fi0 9).toInt ≤ 60) ∧ z_rng (-1) 59 (fa0 6) ∧ z_rng 0 59 (fa0 8) ∧ z_rng 0 3 (fa0 9) ∧ z_rng 0 269 (fa0 23) ∧ z_rng 0 5 (fa0 27) ∧ z_rng 0 59 (fa0 28) ∧ ((fi0 2).toInt = 1 → 0 ≤ (fi0 3).toInt) ∧ zOkR (fa0 1) (fa0 27) := ⟨⟨by omega, by omega⟩, ⟨by omega, by omega⟩, ⟨by omega, by omega⟩, ⟨by omega, by omega⟩, hv0a6, hv0a8, hv0a9, hv0a23, hv0a27, hv0a28, by omega, hv0y0⟩
  have hq3 : t1.toInt = 0 := by omega
  have hz4 : narrow .boolean (.int t1) = .int t1 := z_nz (by constructor <;> omega)
  exact W.zret (v := t1) hx hb hr hz4 (fun t ht hW => ⟨⟨t1, ((zl 0 [(fi0 0), (fi0 1), (fi0 2), (fi0 3), (fi0 4), (fi0 5), (fi0 6), p1, (fi0 4), (fi0 9), (fi0 10)]), (zl 0 []), (zl (fun _ => 0) [(fa0 0), (fa0 1), (fa0 2), (fa0 3), (fa0 4), (fa0 5), (fa0 6), (fa0 7), (fa0 8), (fa0 9), (fa0 10), (fa0 11), (fa0 12), (fa0 13), (fa0 14), (fa0 15), (fa0 16), (fa0 17), (fa0 18), (fa0 19), (fa0 20), (fa0 21), (fa0 22), (fa0 23), (fa0 24), (fa0 25), (fa0 26), (fa0 27), (fa0 28), (fa0 29)]), (zl (fun _ => 0) [(fb0 0), (fb0 1), (fb0 2)])), rfl, ⟨ho2, hq3⟩, ⟨by rw [ht]; exact hP, hD⟩⟩, hS.F ht⟩) hS.2.2 dX9_wrong_14

set_option maxHeartbeats 8000000 in
set_option maxRecDepth 100000 in
theorem c_X9_fault (l : Launch) (D : va_G) (ca : Nat → ClassId) (sa : Nat → Nat) (A : Nat → Prop) (rest : va_W) (r0 : Nat → Nat) (fi0 : Nat → Int32) (fl0 : Nat → Int64) (fa0 : Nat → Nat → Int32) (fb0 : Nat → Nat → Int64) (hv0 : Ok_MOD fi0 fa0) (p1 : Int32) : Met l yX9_fault wsX9_fault ({ frames := 0, cells := 0, slots := 0, locals := 0 }) (va_Pc [.ref (r0 0), .int p1] (zPre D ca sa A (w_MOD ca r0 fi0 fl0 fa0 fb0 (rest)))) (va_Qi (fun (r : Int32) (u : Unit) => True) (fun u t => zPost D A (w_MOD ca r0 fi0 fl0 fa0 fb0 (rest)) t) A) 0 0 A := by
  refine Met.ofW (cc := cX9_fault) (maxL := 2) (ret := (some .int)) (by decide) rfl ?_
  intro p e s m args below meth c s₁ B hml hv9
  obtain ⟨rfl, hE, hP, hD⟩ := hv9
  have hx := B.exec
  have hb := B.bytes
  have hr := B.returns
  have hts := atoms_spec (ws := wsX9_fault) B.pre
  have hown : s.vm.findClass RX9 = some m.cls := findClass_of_methodNamed B.named
  have hlocks := B.notSynchronized
  have hK := hE.1
  have hF : CallFix p m c cX9_fault 2 s _ wsX9_fault RX9 := ⟨hx, hb, hml, hown, hts⟩
  have hS : va_S A s.heap s.heap [] := va_S.rf
  have lk13 := hts (.fieldLink RX9 13 "BranchPlayModel" "faultPlace" "I") (by decide +kernel)
  have inX9 : ∀ w ∈ wsX90, w ∈ wsX9_fault := by decide +kernel
  have lk170 := hts (.fieldLink RX9 170 "BranchPlayModel" "faultKind" "I") (by decide +kernel)
  obtain ⟨⟨hv0i0, hv0j0⟩, ⟨hv0i1, hv0j1⟩, ⟨hv0i5, hv0j5⟩, ⟨hv0i9, hv0j9⟩, hv0a6, hv0a8, hv0a9, hv0a23, hv0a27, hv0a28, hv0x0, hv0y0⟩ := hv0
  generalize hHe : s.heap = H at hP
  have hS : va_S A s.heap H [] := by rw [← hHe]; exact hS
  have hP : va_P D vwCl (((r0 0), .inr (9, [.ref (r0 1), .int (fi0 0), .int (fi0 1), .int (fi0 2), .int (fi0 3), .int (fi0 4), .int (fi0 5), .int (fi0 6), .int (fi0 7), .int (fi0 8), .ref (r0 2), .int (fi0 9), .ref (r0 3), .ref (r0 4), .ref (r0 5), .ref (r0 6), .ref (r0 7), .ref (r0 8), .ref (r0 9), .ref (r0 10), .ref (r0 11), .ref (r0 12), .ref (r0 13), .ref (r0 14), .ref (r0 15), .ref (r0 16), .ref (r0 17), .ref (r0 18), .ref (r0 19), .ref (r0 20), .ref (r0 21), .ref (r0 22), .ref (r0 23), .ref (r0 24), .ref (r0 25), .ref (r0 26), .ref (r0 27), .ref (r0 28), .ref (r0 29), .ref (r0 30), .ref (r0 31), .ref (r0 32), .int (fi0 10), .ref (r0 33)])) :: ((r0 1), .inl (ca 2, 600, .inl (fa0 0))) :: ((r0 2), .inl (ca 0, 48, .inl (fa0 1))) :: ((r0 3), .inl (ca 0, 60, .inl (fa0 2))) :: ((r0 4), .inl (ca 0, 60, .inl (fa0 3))) :: ((r0 5), .inl (ca 0, 60, .inl (fa0 4))) :: ((r0 6), .inl (ca 0, 60, .inl (fa0 5))) :: ((r0 7), .inl (ca 0, 60, .inl (fa0 6))) :: ((r0 8), .inl (ca 0, 60, .inl (fa0 7))) :: ((r0 9), .inl (ca 0, 180, .inl (fa0 8))) :: ((r0 10), .inl (ca 0, 60, .inl (fa0 9))) :: ((r0 11), .inl (ca 0, 180, .inl (fa0 10))) :: ((r0 12), .inl (ca 0, 180, .inl (fa0 11))) :: ((r0 13), .inl (ca 0, 180, .inl (fa0 12))) :: ((r0 14), .inl (ca 0, 180, .inl (fa0 13))) :: ((r0 15), .inl (ca 0, 180, .inl (fa0 14))) :: ((r0 16), .inl (ca 0, 180, .inl (fa0 15))) :: ((r0 17), .inl (ca 0, 180, .inl (fa0 16))) :: ((r0 18), .inl (ca 0, 180, .inl (fa0 17))) :: ((r0 19), .inl (ca 0, 180, .inl (fa0 18))) :: ((r0 20), .inl (ca 0, 180, .inl (fa0 19))) :: ((r0 21), .inl (ca 0, 3, .inl (fa0 20))) :: ((r0 22), .inl (ca 1, 3, .inr (.inl (fb0 0)))) :: ((r0 23), .inl (ca 1, 3, .inr (.inl (fb0 1)))) :: ((r0 24), .inl (ca 3, 3, .inl (fa0 21))) :: ((r0 25), .inl (ca 0, 3, .inl (fa0 22))) :: ((r0 26), .inl (ca 0, 3, .inl (fa0 23))) :: ((r0 27), .inl (ca 0, 810, .inl (fa0 24))) :: ((r0 28), .inl (ca 3, 810, .inl (fa0 25))) :: ((r0 29), .inl (ca 1, 810, .inr (.inl (fb0 2)))) :: ((r0 30), .inl (ca 0, 810, .inl (fa0 26))) :: ((r0 31), .inl (ca 0, 3, .inl (fa0 27))) :: ((r0 32), .inl (ca 0, 60, .inl (fa0 28))) :: ((r0 33), .inl (ca 0, 4, .inl (fa0 29))) :: rest) H := hP
  have hD : va_D A (((r0 0), .inr (9, [.ref (r0 1), .int (fi0 0), .int (fi0 1), .int (fi0 2), .int (fi0 3), .int (fi0 4), .int (fi0 5), .int (fi0 6), .int (fi0 7), .int (fi0 8), .ref (r0 2), .int (fi0 9), .ref (r0 3), .ref (r0 4), .ref (r0 5), .ref (r0 6), .ref (r0 7), .ref (r0 8), .ref (r0 9), .ref (r0 10), .ref (r0 11), .ref (r0 12), .ref (r0 13), .ref (r0 14), .ref (r0 15), .ref (r0 16), .ref (r0 17), .ref (r0 18), .ref (r0 19), .ref (r0 20), .ref (r0 21), .ref (r0 22), .ref (r0 23), .ref (r0 24), .ref (r0 25), .ref (r0 26), .ref (r0 27), .ref (r0 28), .ref (r0 29), .ref (r0 30), .ref (r0 31), .ref (r0 32), .int (fi0 10), .ref (r0 33)])) :: ((r0 1), .inl (ca 2, 600, .inl (fa0 0))) :: ((r0 2), .inl (ca 0, 48, .inl (fa0 1))) :: ((r0 3), .inl (ca 0, 60, .inl (fa0 2))) :: ((r0 4), .inl (ca 0, 60, .inl (fa0 3))) :: ((r0 5), .inl (ca 0, 60, .inl (fa0 4))) :: ((r0 6), .inl (ca 0, 60, .inl (fa0 5))) :: ((r0 7), .inl (ca 0, 60, .inl (fa0 6))) :: ((r0 8), .inl (ca 0, 60, .inl (fa0 7))) :: ((r0 9), .inl (ca 0, 180, .inl (fa0 8))) :: ((r0 10), .inl (ca 0, 60, .inl (fa0 9))) :: ((r0 11), .inl (ca 0, 180, .inl (fa0 10))) :: ((r0 12), .inl (ca 0, 180, .inl (fa0 11))) :: ((r0 13), .inl (ca 0, 180, .inl (fa0 12))) :: ((r0 14), .inl (ca 0, 180, .inl (fa0 13))) :: ((r0 15), .inl (ca 0, 180, .inl (fa0 14))) :: ((r0 16), .inl (ca 0, 180, .inl (fa0 15))) :: ((r0 17), .inl (ca 0, 180, .inl (fa0 16))) :: ((r0 18), .inl (ca 0, 180, .inl (fa0 17))) :: ((r0 19), .inl (ca 0, 180, .inl (fa0 18))) :: ((r0 20), .inl (ca 0, 180, .inl (fa0 19))) :: ((r0 21), .inl (ca 0, 3, .inl (fa0 20))) :: ((r0 22), .inl (ca 1, 3, .inr (.inl (fb0 0)))) :: ((r0 23), .inl (ca 1, 3, .inr (.inl (fb0 1)))) :: ((r0 24), .inl (ca 3, 3, .inl (fa0 21))) :: ((r0 25), .inl (ca 0, 3, .inl (fa0 22))) :: ((r0 26), .inl (ca 0, 3, .inl (fa0 23))) :: ((r0 27), .inl (ca 0, 810, .inl (fa0 24))) :: ((r0 28), .inl (ca 3, 810, .inl (fa0 25))) :: ((r0 29), .inl (ca 1, 810, .inr (.inl (fb0 2)))) :: ((r0 30), .inl (ca 0, 810, .inl (fa0 26))) :: ((r0 31), .inl (ca 0, 3, .inl (fa0 27))) :: ((r0 32), .inl (ca 0, 60, .inl (fa0 28))) :: ((r0 33), .inl (ca 0, 4, .inl (fa0 29))) :: rest) := hD
  have hl := lv_entry ([.ref (r0 0), .int p1]) (n := 2) (Nat.le_of_ble_eq_true rfl)
  rw [lg_entry_eq]
  generalize (lg_sl ([.ref (r0 0), .int p1]) ++ List.replicate (2 - (lg_sl ([.ref (r0 0), .int p1])).length) Slot.unset).toArray = ls at hl ⊢
  have hl : lv_has ls 2 [(0, .ref (r0 0)), (1, .int p1)] := hl
  generalize hQ9 : MQ below _ _ s 0 0 A = Q9
  refine lv_iload_n hx hb dX9_fault_0 rfl (lv_at hl 1 rfl) ?_
  refine lv_if_ne (tgt := 11) hx hb dX9_fault_1 (by decide) (fun c1 => ?_) (fun c1 => ?_)
  ·
    have c1 := z_ne (i := p1.toInt) (j := 0) rfl (by decide) c1
    refine lv_iload_n hx hb dX9_fault_11 rfl (lv_at hl 1 rfl) ?_
    refine lv_iconst (v := 1) hx hb dX9_fault_12 (by decide) ?_
    refine lv_icmp_ne (tgt := 23) hx hb dX9_fault_13 (by decide) (fun c2 => ?_) (fun c2 => ?_)
    ·
      have c2 := z_ne (i := p1.toInt) (j := 1) rfl (by decide) c2
      refine lv_iconst (v := (-1)) hx hb dX9_fault_23 (by decide) ?_
      subst hQ9
      refine lv_topi (fun t3 et3 => ?_)
      have ht3 : t3.toInt = (-1) := by rw [et3]; decide
      exact W.iret (v := t3) hx hb hr (fun t ht hW => ⟨⟨t3, (), rfl, trivial, ⟨by rw [ht]; exact hP, hD⟩⟩, hS.F ht⟩) hS.2.2 dX9_fault_24
    ·
      have c2 := z_eq (i := p1.toInt) (j := 1) rfl (by decide) c2
      refine lv_aload_n hx hb dX9_fault_16 rfl (lv_at hl 0 rfl) ?_
      refine va_get (D := D) (ci := 9) (v := .int (fi0 8)) (C := RX9) (T := TX9) (N := 44) hx hb hts inX9 hown hK hP 0 rfl rfl 9 (by decide) lk13 (fun _ h9 => h9) rfl dX9_fault_17 ?_
      refine lv_goto (tgt := 24) hx hb dX9_fault_20 (by decide) ?_
      subst hQ9
      exact W.iret (v := (fi0 8)) hx hb hr (fun t ht hW => ⟨⟨(fi0 8), (), rfl, trivial, ⟨by rw [ht]; exact hP, hD⟩⟩, hS.F ht⟩) hS.2.2 dX9_fault_24
  ·
    have c1 := z_eq (i := p1.toInt) (j := 0) rfl (by decide) c1
    refine lv_aload_n hx hb dX9_fault_4 rfl (lv_at hl 0 rfl) ?_
    refine va_get (D := D) (ci := 9) (v := .int (fi0 7)) (C := RX9) (T := TX9) (N := 44) hx hb hts inX9 hown hK hP 0 rfl rfl 8 (by decide) lk170 (fun _ h9 => h9) rfl dX9_fault_5 ?_
    refine lv_goto (tgt := 24) hx hb dX9_fault_8 (by decide) ?_
    subst hQ9
    exact W.iret (v := (fi0 7)) hx hb hr (fun t ht hW => ⟨⟨(fi0 7), (), rfl, trivial, ⟨by rw [ht]; exact hP, hD⟩⟩, hS.F ht⟩) hS.2.2 dX9_fault_24

set_option maxHeartbeats 8000000 in
set_option maxRecDepth 100000 in
theorem c_X9_rule (l : Launch) (D : va_G) (ca : Nat → ClassId) (sa : Nat → Nat) (A : Nat → Prop) (rest : va_W) (r0 : Nat → Nat) (fi0 : Nat → Int32) (fl0 : Nat → Int64) (fa0 : Nat → Nat → Int32) (fb0 : Nat → Nat → Int64) (hv0 : Ok_MOD fi0 fa0) (p1 : Int32) (p2 : Int32) : Met l yX9_rule wsX9_rule ({ frames := 1, cells := 0, slots := 0, locals := 22 }) (va_Pc [.ref (r0 0), .int p1, .int p2] (zPre D ca sa A (w_MOD ca r0 fi0 fl0 fa0 fb0 (rest)))) (va_Qi (fun (r : Int32) (u : Unit) => True) (fun u t => zPost D A (w_MOD ca r0 fi0 fl0 fa0 fb0 (rest)) t) A) 0 0 A := by
  refine Met.ofW (cc := cX9_rule) (maxL := 3) (ret := (some .int)) (by decide) rfl ?_
  intro p e s m args below meth c s₁ B hml hv9
  obtain ⟨rfl, hE, hP, hD⟩ := hv9
  have hx := B.exec
  have hb := B.bytes
  have hr := B.returns
  have hts := atoms_spec (ws := wsX9_rule) B.pre
  have hown : s.vm.findClass RX9 = some m.cls := findClass_of_methodNamed B.named
  have hlocks := B.notSynchronized
  have hK := hE.1
  have hF : CallFix p m c cX9_rule 3 s _ wsX9_rule RX9 := ⟨hx, hb, hml, hown, hts⟩
  have hS : va_S A s.heap s.heap [] := va_S.rf
  have lk17 := hts (.fieldLink RX9 17 "BranchPlayModel" "rules" "[I") (by decide +kernel)
  have inX9 : ∀ w ∈ wsX90, w ∈ wsX9_rule := by decide +kernel
  obtain ⟨⟨hv0i0, hv0j0⟩, ⟨hv0i1, hv0j1⟩, ⟨hv0i5, hv0j5⟩, ⟨hv0i9, hv0j9⟩, hv0a6, hv0a8, hv0a9, hv0a23, hv0a27, hv0a28, hv0x0, hv0y0⟩ := hv0
  generalize hHe : s.heap = H at hP
  have hS : va_S A s.heap H [] := by rw [← hHe]; exact hS
  have hP : va_P D vwCl (((r0 0), .inr (9, [.ref (r0 1), .int (fi0 0), .int (fi0 1), .int (fi0 2), .int (fi0 3), .int (fi0 4), .int (fi0 5), .int (fi0 6), .int (fi0 7), .int (fi0 8), .ref (r0 2), .int (fi0 9), .ref (r0 3), .ref (r0 4), .ref (r0 5), .ref (r0 6), .ref (r0 7), .ref (r0 8), .ref (r0 9), .ref (r0 10), .ref (r0 11), .ref (r0 12), .ref (r0 13), .ref (r0 14), .ref (r0 15), .ref (r0 16), .ref (r0 17), .ref (r0 18), .ref (r0 19), .ref (r0 20), .ref (r0 21), .ref (r0 22), .ref (r0 23), .ref (r0 24), .ref (r0 25), .ref (r0 26), .ref (r0 27), .ref (r0 28), .ref (r0 29), .ref (r0 30), .ref (r0 31), .ref (r0 32), .int (fi0 10), .ref (r0 33)])) :: ((r0 1), .inl (ca 2, 600, .inl (fa0 0))) :: ((r0 2), .inl (ca 0, 48, .inl (fa0 1))) :: ((r0 3), .inl (ca 0, 60, .inl (fa0 2))) :: ((r0 4), .inl (ca 0, 60, .inl (fa0 3))) :: ((r0 5), .inl (ca 0, 60, .inl (fa0 4))) :: ((r0 6), .inl (ca 0, 60, .inl (fa0 5))) :: ((r0 7), .inl (ca 0, 60, .inl (fa0 6))) :: ((r0 8), .inl (ca 0, 60, .inl (fa0 7))) :: ((r0 9), .inl (ca 0, 180, .inl (fa0 8))) :: ((r0 10), .inl (ca 0, 60, .inl (fa0 9))) :: ((r0 11), .inl (ca 0, 180, .inl (fa0 10))) :: ((r0 12), .inl (ca 0, 180, .inl (fa0 11))) :: ((r0 13), .inl (ca 0, 180, .inl (fa0 12))) :: ((r0 14), .inl (ca 0, 180, .inl (fa0 13))) :: ((r0 15), .inl (ca 0, 180, .inl (fa0 14))) :: ((r0 16), .inl (ca 0, 180, .inl (fa0 15))) :: ((r0 17), .inl (ca 0, 180, .inl (fa0 16))) :: ((r0 18), .inl (ca 0, 180, .inl (fa0 17))) :: ((r0 19), .inl (ca 0, 180, .inl (fa0 18))) :: ((r0 20), .inl (ca 0, 180, .inl (fa0 19))) :: ((r0 21), .inl (ca 0, 3, .inl (fa0 20))) :: ((r0 22), .inl (ca 1, 3, .inr (.inl (fb0 0)))) :: ((r0 23), .inl (ca 1, 3, .inr (.inl (fb0 1)))) :: ((r0 24), .inl (ca 3, 3, .inl (fa0 21))) :: ((r0 25), .inl (ca 0, 3, .inl (fa0 22))) :: ((r0 26), .inl (ca 0, 3, .inl (fa0 23))) :: ((r0 27), .inl (ca 0, 810, .inl (fa0 24))) :: ((r0 28), .inl (ca 3, 810, .inl (fa0 25))) :: ((r0 29), .inl (ca 1, 810, .inr (.inl (fb0 2)))) :: ((r0 30), .inl (ca 0, 810, .inl (fa0 26))) :: ((r0 31), .inl (ca 0, 3, .inl (fa0 27))) :: ((r0 32), .inl (ca 0, 60, .inl (fa0 28))) :: ((r0 33), .inl (ca 0, 4, .inl (fa0 29))) :: rest) H := hP
  have hD : va_D A (((r0 0), .inr (9, [.ref (r0 1), .int (fi0 0), .int (fi0 1), .int (fi0 2), .int (fi0 3), .int (fi0 4), .int (fi0 5), .int (fi0 6), .int (fi0 7), .int (fi0 8), .ref (r0 2), .int (fi0 9), .ref (r0 3), .ref (r0 4), .ref (r0 5), .ref (r0 6), .ref (r0 7), .ref (r0 8), .ref (r0 9), .ref (r0 10), .ref (r0 11), .ref (r0 12), .ref (r0 13), .ref (r0 14), .ref (r0 15), .ref (r0 16), .ref (r0 17), .ref (r0 18), .ref (r0 19), .ref (r0 20), .ref (r0 21), .ref (r0 22), .ref (r0 23), .ref (r0 24), .ref (r0 25), .ref (r0 26), .ref (r0 27), .ref (r0 28), .ref (r0 29), .ref (r0 30), .ref (r0 31), .ref (r0 32), .int (fi0 10), .ref (r0 33)])) :: ((r0 1), .inl (ca 2, 600, .inl (fa0 0))) :: ((r0 2), .inl (ca 0, 48, .inl (fa0 1))) :: ((r0 3), .inl (ca 0, 60, .inl (fa0 2))) :: ((r0 4), .inl (ca 0, 60, .inl (fa0 3))) :: ((r0 5), .inl (ca 0, 60, .inl (fa0 4))) :: ((r0 6), .inl (ca 0, 60, .inl (fa0 5))) :: ((r0 7), .inl (ca 0, 60, .inl (fa0 6))) :: ((r0 8), .inl (ca 0, 60, .inl (fa0 7))) :: ((r0 9), .inl (ca 0, 180, .inl (fa0 8))) :: ((r0 10), .inl (ca 0, 60, .inl (fa0 9))) :: ((r0 11), .inl (ca 0, 180, .inl (fa0 10))) :: ((r0 12), .inl (ca 0, 180, .inl (fa0 11))) :: ((r0 13), .inl (ca 0, 180, .inl (fa0 12))) :: ((r0 14), .inl (ca 0, 180, .inl (fa0 13))) :: ((r0 15), .inl (ca 0, 180, .inl (fa0 14))) :: ((r0 16), .inl (ca 0, 180, .inl (fa0 15))) :: ((r0 17), .inl (ca 0, 180, .inl (fa0 16))) :: ((r0 18), .inl (ca 0, 180, .inl (fa0 17))) :: ((r0 19), .inl (ca 0, 180, .inl (fa0 18))) :: ((r0 20), .inl (ca 0, 180, .inl (fa0 19))) :: ((r0 21), .inl (ca 0, 3, .inl (fa0 20))) :: ((r0 22), .inl (ca 1, 3, .inr (.inl (fb0 0)))) :: ((r0 23), .inl (ca 1, 3, .inr (.inl (fb0 1)))) :: ((r0 24), .inl (ca 3, 3, .inl (fa0 21))) :: ((r0 25), .inl (ca 0, 3, .inl (fa0 22))) :: ((r0 26), .inl (ca 0, 3, .inl (fa0 23))) :: ((r0 27), .inl (ca 0, 810, .inl (fa0 24))) :: ((r0 28), .inl (ca 3, 810, .inl (fa0 25))) :: ((r0 29), .inl (ca 1, 810, .inr (.inl (fb0 2)))) :: ((r0 30), .inl (ca 0, 810, .inl (fa0 26))) :: ((r0 31), .inl (ca 0, 3, .inl (fa0 27))) :: ((r0 32), .inl (ca 0, 60, .inl (fa0 28))) :: ((r0 33), .inl (ca 0, 4, .inl (fa0 29))) :: rest) := hD
  have hl := lv_entry ([.ref (r0 0), .int p1, .int p2]) (n := 3) (Nat.le_of_ble_eq_true rfl)
  rw [lg_entry_eq]
  generalize (lg_sl ([.ref (r0 0), .int p1, .int p2]) ++ List.replicate (3 - (lg_sl ([.ref (r0 0), .int p1, .int p2])).length) Slot.unset).toArray = ls at hl ⊢
  have hl : lv_has ls 3 [(0, .ref (r0 0)), (1, .int p1), (2, .int p2)] := hl
  generalize hQ9 : MQ below _ _ s 0 0 A = Q9
  refine lv_iload_n hx hb dX9_rule_0 rfl (lv_at hl 1 rfl) ?_
  refine lv_iconst (v := 0) hx hb dX9_rule_1 (by decide) ?_
  refine lv_iconst (v := 3) hx hb dX9_rule_2 (by decide) ?_
  refine z_iS (As := [.int p1, .int 0, .int 3]) (rest := []) hF (c_X9_in l D ca sa A _ p1 0 3) (va_cwS 3 hts gX9_rule_X9_in rfl rfl rfl (by decide +kernel) ⟨Nat.le_of_ble_eq_true rfl, Nat.le_of_ble_eq_true rfl⟩) hE hP hD hS rfl hl.1 rfl (Nat.le_of_ble_eq_true rfl) dX9_rule_3 ⟨Nat.zero_le _, Nat.zero_le _⟩ (fun t2 u1 H locs hw3 hP hD hS => ?_)
  have hw3 : ((t2.toInt = 1 ∧ 0 ≤ p1.toInt ∧ p1.toInt ≤ 3) ∨ (t2.toInt = 0 ∧ (p1.toInt < 0 ∨ 3 < p1.toInt))) := hw3
  obtain hq4 := hw3
  refine lv_if_eq (tgt := 33) hx hb dX9_rule_6 (by decide) (fun c5 => ?_) (fun c5 => ?_)
  ·
    have c5 := z_eq (i := t2.toInt) (j := 0) rfl (by decide) c5
    refine lv_bipush (v := (-9)) hx hb dX9_rule_33 (by decide) ?_
    subst hQ9
    refine lv_topi (fun t6 et6 => ?_)
    have ht6 : t6.toInt = (-9) := by rw [et6]; decide
    exact W.iret (v := t6) hx hb hr (fun t ht hW => ⟨⟨t6, (), rfl, trivial, ⟨by rw [ht]; exact hP, hD⟩⟩, hS.F ht⟩) hS.2.2 dX9_rule_35
  ·
    have c5 := z_ne (i := t2.toInt) (j := 0) rfl (by decide) c5
    refine lv_iload_n hx hb dX9_rule_9 rfl (lv_at hl 2 rfl) ?_
    refine lv_iconst (v := 0) hx hb dX9_rule_10 (by decide) ?_
    refine lv_bipush (v := 7) hx hb dX9_rule_11 (by decide) ?_
    refine z_iS (As := [.int p2, .int 0, .int 7]) (rest := []) hF (c_X9_in l D ca sa A _ p2 0 7) (va_cwS 3 hts gX9_rule_X9_in rfl rfl rfl (by decide +kernel) ⟨Nat.le_of_ble_eq_true rfl, Nat.le_of_ble_eq_true rfl⟩) hE hP hD hS rfl hl.1 rfl (Nat.le_of_ble_eq_true rfl) dX9_rule_13 ⟨Nat.zero_le _, Nat.zero_le _⟩ (fun t8 u7 H locs hw9 hP hD hS => ?_)
    have hw9 : ((t8.toInt = 1 ∧ 0 ≤ p2.toInt ∧ p2.toInt ≤ 7) ∨ (t8.toInt = 0 ∧ (p2.toInt < 0 ∨ 7 < p2.toInt))) := hw9
    obtain hq10 := hw9
    refine lv_if_eq (tgt := 33) hx hb dX9_rule_16 (by decide) (fun c11 => ?_) (fun c11 => ?_)
    ·
      have c11 := z_eq (i := t8.toInt) (j := 0) rfl (by decide) c11
      refine lv_bipush (v := (-9)) hx hb dX9_rule_33 (by decide) ?_
      subst hQ9
      refine lv_topi (fun t12 et12 => ?_)
      have ht12 : t12.toInt = (-9) := by rw [et12]; decide
      exact W.iret (v := t12) hx hb hr (fun t ht hW => ⟨⟨t12, (), rfl, trivial, ⟨by rw [ht]; exact hP, hD⟩⟩, hS.F ht⟩) hS.2.2 dX9_rule_35
    ·
      have c11 := z_ne (i := t8.toInt) (j := 0) rfl (by decide) c11
      refine lv_aload_n hx hb dX9_rule_19 rfl (lv_at hl 0 rfl) ?_
      refine va_get (D := D) (ci := 9) (v := .ref (r0 2)) (C := RX9) (T := TX9) (N := 44) hx hb hts inX9 hown hK hP 0 rfl rfl 10 (by decide) lk17 (fun _ h9 => h9) rfl dX9_rule_20 ?_
      refine lv_bipush (v := 8) hx hb dX9_rule_23 (by decide) ?_
      refine lv_iload_n hx hb dX9_rule_25 rfl (lv_at hl 1 rfl) ?_
      refine lv_imul hx hb dX9_rule_26 ?_
      refine lv_topi (fun t13 et13 => ?_)
      try have ht13 : t13.toInt = 8 * p1.toInt := z_mul et13 (by decide) rfl (by omega) (by omega)
      refine lv_iload_n hx hb dX9_rule_27 rfl (lv_at hl 2 rfl) ?_
      refine lv_iadd hx hb dX9_rule_28 ?_
      refine lv_topi (fun t14 et14 => ?_)
      try have ht14 : t14.toInt = t13.toInt + p2.toInt := z_add et14 rfl rfl (by omega) (by omega)
      have hi15 : vp_in t14 48 := z_in (i := t14.toInt) rfl (by omega) (by omega)
      refine va_iald hx hb hK hP 2 0 rfl rfl hi15 dX9_rule_29 ?_
      refine lv_topi (fun t16 et16 => ?_)
      refine lv_goto (tgt := 35) hx hb dX9_rule_30 (by decide) ?_
      subst hQ9
      exact W.iret (v := t16) hx hb hr (fun t ht hW => ⟨⟨t16, (), rfl, trivial, ⟨by rw [ht]; exact hP, hD⟩⟩, hS.F ht⟩) hS.2.2 dX9_rule_35

set_option maxHeartbeats 8000000 in
set_option maxRecDepth 100000 in
theorem c_X9_isChange (l : Launch) (D : va_G) (ca : Nat → ClassId) (sa : Nat → Nat) (A : Nat → Prop) (rest : va_W) (r0 : Nat → Nat) (fi0 : Nat → Int32) (fl0 : Nat → Int64) (fa0 : Nat → Nat → Int32) (fb0 : Nat → Nat → Int64) (hv0 : Ok_MOD fi0 fa0) (p1 : Int32) : Met l yX9_isChange wsX9_isChange ({ frames := 1, cells := 0, slots := 0, locals := 22 }) (va_Pc [.ref (r0 0), .int p1] (zPre D ca sa A (w_MOD ca r0 fi0 fl0 fa0 fb0 (rest)))) (va_Qi (fun (r : Int32) (u : Unit) => ((r.toInt = 1 ∧ 0 ≤ p1.toInt ∧ p1.toInt < (fi0 9).toInt) ∨ (r.toInt = 0 ∧ (p1.toInt < 0 ∨ (fi0 9).toInt ≤ p1.toInt)))) (fun u t => zPost D A (w_MOD ca r0 fi0 fl0 fa0 fb0 (rest)) t) A) 0 0 A := by
  refine Met.ofW (cc := cX9_isChange) (maxL := 2) (ret := (some .boolean)) (by decide) rfl ?_
  intro p e s m args below meth c s₁ B hml hv9
  obtain ⟨rfl, hE, hP, hD⟩ := hv9
  have hx := B.exec
  have hb := B.bytes
  have hr := B.returns
  have hts := atoms_spec (ws := wsX9_isChange) B.pre
  have hown : s.vm.findClass RX9 = some m.cls := findClass_of_methodNamed B.named
  have hlocks := B.notSynchronized
  have hK := hE.1
  have hF : CallFix p m c cX9_isChange 2 s _ wsX9_isChange RX9 := ⟨hx, hb, hml, hown, hts⟩
  have hS : va_S A s.heap s.heap [] := va_S.rf
  have lk192 := hts (.fieldLink RX9 192 "BranchPlayModel" "changes" "I") (by decide +kernel)
  have inX9 : ∀ w ∈ wsX90, w ∈ wsX9_isChange := by decide +kernel
  obtain ⟨⟨hv0i0, hv0j0⟩, ⟨hv0i1, hv0j1⟩, ⟨hv0i5, hv0j5⟩, ⟨hv0i9, hv0j9⟩, hv0a6, hv0a8, hv0a9, hv0a23, hv0a27, hv0a28, hv0x0, hv0y0⟩ := hv0
  generalize hHe : s.heap = H at hP
  have hS : va_S A s.heap H [] := by rw [← hHe]; exact hS
  have hP : va_P D vwCl (((r0 0), .inr (9, [.ref (r0 1), .int (fi0 0), .int (fi0 1), .int (fi0 2), .int (fi0 3), .int (fi0 4), .int (fi0 5), .int (fi0 6), .int (fi0 7), .int (fi0 8), .ref (r0 2), .int (fi0 9), .ref (r0 3), .ref (r0 4), .ref (r0 5), .ref (r0 6), .ref (r0 7), .ref (r0 8), .ref (r0 9), .ref (r0 10), .ref (r0 11), .ref (r0 12), .ref (r0 13), .ref (r0 14), .ref (r0 15), .ref (r0 16), .ref (r0 17), .ref (r0 18), .ref (r0 19), .ref (r0 20), .ref (r0 21), .ref (r0 22), .ref (r0 23), .ref (r0 24), .ref (r0 25), .ref (r0 26), .ref (r0 27), .ref (r0 28), .ref (r0 29), .ref (r0 30), .ref (r0 31), .ref (r0 32), .int (fi0 10), .ref (r0 33)])) :: ((r0 1), .inl (ca 2, 600, .inl (fa0 0))) :: ((r0 2), .inl (ca 0, 48, .inl (fa0 1))) :: ((r0 3), .inl (ca 0, 60, .inl (fa0 2))) :: ((r0 4), .inl (ca 0, 60, .inl (fa0 3))) :: ((r0 5), .inl (ca 0, 60, .inl (fa0 4))) :: ((r0 6), .inl (ca 0, 60, .inl (fa0 5))) :: ((r0 7), .inl (ca 0, 60, .inl (fa0 6))) :: ((r0 8), .inl (ca 0, 60, .inl (fa0 7))) :: ((r0 9), .inl (ca 0, 180, .inl (fa0 8))) :: ((r0 10), .inl (ca 0, 60, .inl (fa0 9))) :: ((r0 11), .inl (ca 0, 180, .inl (fa0 10))) :: ((r0 12), .inl (ca 0, 180, .inl (fa0 11))) :: ((r0 13), .inl (ca 0, 180, .inl (fa0 12))) :: ((r0 14), .inl (ca 0, 180, .inl (fa0 13))) :: ((r0 15), .inl (ca 0, 180, .inl (fa0 14))) :: ((r0 16), .inl (ca 0, 180, .inl (fa0 15))) :: ((r0 17), .inl (ca 0, 180, .inl (fa0 16))) :: ((r0 18), .inl (ca 0, 180, .inl (fa0 17))) :: ((r0 19), .inl (ca 0, 180, .inl (fa0 18))) :: ((r0 20), .inl (ca 0, 180, .inl (fa0 19))) :: ((r0 21), .inl (ca 0, 3, .inl (fa0 20))) :: ((r0 22), .inl (ca 1, 3, .inr (.inl (fb0 0)))) :: ((r0 23), .inl (ca 1, 3, .inr (.inl (fb0 1)))) :: ((r0 24), .inl (ca 3, 3, .inl (fa0 21))) :: ((r0 25), .inl (ca 0, 3, .inl (fa0 22))) :: ((r0 26), .inl (ca 0, 3, .inl (fa0 23))) :: ((r0 27), .inl (ca 0, 810, .inl (fa0 24))) :: ((r0 28), .inl (ca 3, 810, .inl (fa0 25))) :: ((r0 29), .inl (ca 1, 810, .inr (.inl (fb0 2)))) :: ((r0 30), .inl (ca 0, 810, .inl (fa0 26))) :: ((r0 31), .inl (ca 0, 3, .inl (fa0 27))) :: ((r0 32), .inl (ca 0, 60, .inl (fa0 28))) :: ((r0 33), .inl (ca 0, 4, .inl (fa0 29))) :: rest) H := hP
  have hD : va_D A (((r0 0), .inr (9, [.ref (r0 1), .int (fi0 0), .int (fi0 1), .int (fi0 2), .int (fi0 3), .int (fi0 4), .int (fi0 5), .int (fi0 6), .int (fi0 7), .int (fi0 8), .ref (r0 2), .int (fi0 9), .ref (r0 3), .ref (r0 4), .ref (r0 5), .ref (r0 6), .ref (r0 7), .ref (r0 8), .ref (r0 9), .ref (r0 10), .ref (r0 11), .ref (r0 12), .ref (r0 13), .ref (r0 14), .ref (r0 15), .ref (r0 16), .ref (r0 17), .ref (r0 18), .ref (r0 19), .ref (r0 20), .ref (r0 21), .ref (r0 22), .ref (r0 23), .ref (r0 24), .ref (r0 25), .ref (r0 26), .ref (r0 27), .ref (r0 28), .ref (r0 29), .ref (r0 30), .ref (r0 31), .ref (r0 32), .int (fi0 10), .ref (r0 33)])) :: ((r0 1), .inl (ca 2, 600, .inl (fa0 0))) :: ((r0 2), .inl (ca 0, 48, .inl (fa0 1))) :: ((r0 3), .inl (ca 0, 60, .inl (fa0 2))) :: ((r0 4), .inl (ca 0, 60, .inl (fa0 3))) :: ((r0 5), .inl (ca 0, 60, .inl (fa0 4))) :: ((r0 6), .inl (ca 0, 60, .inl (fa0 5))) :: ((r0 7), .inl (ca 0, 60, .inl (fa0 6))) :: ((r0 8), .inl (ca 0, 60, .inl (fa0 7))) :: ((r0 9), .inl (ca 0, 180, .inl (fa0 8))) :: ((r0 10), .inl (ca 0, 60, .inl (fa0 9))) :: ((r0 11), .inl (ca 0, 180, .inl (fa0 10))) :: ((r0 12), .inl (ca 0, 180, .inl (fa0 11))) :: ((r0 13), .inl (ca 0, 180, .inl (fa0 12))) :: ((r0 14), .inl (ca 0, 180, .inl (fa0 13))) :: ((r0 15), .inl (ca 0, 180, .inl (fa0 14))) :: ((r0 16), .inl (ca 0, 180, .inl (fa0 15))) :: ((r0 17), .inl (ca 0, 180, .inl (fa0 16))) :: ((r0 18), .inl (ca 0, 180, .inl (fa0 17))) :: ((r0 19), .inl (ca 0, 180, .inl (fa0 18))) :: ((r0 20), .inl (ca 0, 180, .inl (fa0 19))) :: ((r0 21), .inl (ca 0, 3, .inl (fa0 20))) :: ((r0 22), .inl (ca 1, 3, .inr (.inl (fb0 0)))) :: ((r0 23), .inl (ca 1, 3, .inr (.inl (fb0 1)))) :: ((r0 24), .inl (ca 3, 3, .inl (fa0 21))) :: ((r0 25), .inl (ca 0, 3, .inl (fa0 22))) :: ((r0 26), .inl (ca 0, 3, .inl (fa0 23))) :: ((r0 27), .inl (ca 0, 810, .inl (fa0 24))) :: ((r0 28), .inl (ca 3, 810, .inl (fa0 25))) :: ((r0 29), .inl (ca 1, 810, .inr (.inl (fb0 2)))) :: ((r0 30), .inl (ca 0, 810, .inl (fa0 26))) :: ((r0 31), .inl (ca 0, 3, .inl (fa0 27))) :: ((r0 32), .inl (ca 0, 60, .inl (fa0 28))) :: ((r0 33), .inl (ca 0, 4, .inl (fa0 29))) :: rest) := hD
  have hl := lv_entry ([.ref (r0 0), .int p1]) (n := 2) (Nat.le_of_ble_eq_true rfl)
  rw [lg_entry_eq]
  generalize (lg_sl ([.ref (r0 0), .int p1]) ++ List.replicate (2 - (lg_sl ([.ref (r0 0), .int p1])).length) Slot.unset).toArray = ls at hl ⊢
  have hl : lv_has ls 2 [(0, .ref (r0 0)), (1, .int p1)] := hl
  generalize hQ9 : MQ below _ _ s 0 0 A = Q9
  refine lv_iload_n hx hb dX9_isChange_0 rfl (lv_at hl 1 rfl) ?_
  refine lv_iconst (v := 0) hx hb dX9_isChange_1 (by decide) ?_
  refine lv_aload_n hx hb dX9_isChange_2 rfl (lv_at hl 0 rfl) ?_
  refine va_get (D := D) (ci := 9) (v := .int (fi0 9)) (C := RX9) (T := TX9) (N := 44) hx hb hts inX9 hown hK hP 0 rfl rfl 11 (by decide) lk192 (fun _ h9 => h9) rfl dX9_isChange_3 ?_
  refine lv_iconst (v := 1) hx hb dX9_isChange_6 (by decide) ?_
  refine lv_isub hx hb dX9_isChange_7 ?_
  refine lv_topi (fun t1 et1 => ?_)
  try have ht1 : t1.toInt = (fi0 9).toInt - 1 := z_sub et1 rfl (by decide) (by omega) (by omega)
  refine z_iS (As := [.int p1, .int 0, .int t1]) (rest := []) hF (c_X9_in l D ca sa A _ p1 0 t1) (va_cwS 3 hts gX9_isChange_X9_in rfl rfl rfl (by decide +kernel) ⟨Nat.le_of_ble_eq_true rfl, Nat.le_of_ble_eq_true rfl⟩) hE hP hD hS rfl hl.1 rfl (Nat.le_of_ble_eq_true rfl) dX9_isChange_8 ⟨Nat.zero_le _, Nat.zero_le _⟩ (fun t3 u2 H locs hw4 hP hD hS => ?_)
  have hw4 : ((t3.toInt = 1 ∧ 0 ≤ p1.toInt ∧ p1.toInt ≤ t1.toInt) ∨ (t3.toInt = 0 ∧ (p1.toInt < 0 ∨ t1.toInt < p1.toInt))) := hw4
  obtain hq5 := hw4
  subst hQ9
  have hq6 : (t3.toInt = 1 ∧ 0 ≤ p1.toInt ∧ p1.toInt < (fi0 9).toInt) ∨ (t3.toInt = 0 ∧ (p1.toInt < 0 ∨ (fi0 9).toInt ≤ p1.toInt)) := by omega
  have hz7 : narrow .boolean (.int t3) = .int t3 := z_nz (by constructor <;> omega)
  exact W.zret (v := t3) hx hb hr hz7 (fun t ht hW => ⟨⟨t3, (), rfl, hq6, ⟨by rw [ht]; exact hP, hD⟩⟩, hS.F ht⟩) hS.2.2 dX9_isChange_11

set_option maxHeartbeats 8000000 in
set_option maxRecDepth 100000 in
theorem c_X9_count (l : Launch) (D : va_G) (ca : Nat → ClassId) (sa : Nat → Nat) (A : Nat → Prop) (rest : va_W) (r0 : Nat → Nat) (fi0 : Nat → Int32) (fl0 : Nat → Int64) (fa0 : Nat → Nat → Int32) (fb0 : Nat → Nat → Int64) (hv0 : Ok_MOD fi0 fa0) (p1 : Int32) : Met l yX9_count wsX9_count ({ frames := 0, cells := 0, slots := 0, locals := 0 }) (va_Pc [.ref (r0 0), .int p1] (zPre D ca sa A (w_MOD ca r0 fi0 fl0 fa0 fb0 (rest)))) (va_Qi (fun (r : Int32) (u : Unit) => True) (fun u t => zPost D A (w_MOD ca r0 fi0 fl0 fa0 fb0 (rest)) t) A) 0 0 A := by
  refine Met.ofW (cc := cX9_count) (maxL := 2) (ret := (some .int)) (by decide) rfl ?_
  intro p e s m args below meth c s₁ B hml hv9
  obtain ⟨rfl, hE, hP, hD⟩ := hv9
  have hx := B.exec
  have hb := B.bytes
  have hr := B.returns
  have hts := atoms_spec (ws := wsX9_count) B.pre
  have hown : s.vm.findClass RX9 = some m.cls := findClass_of_methodNamed B.named
  have hlocks := B.notSynchronized
  have hK := hE.1
  have hF : CallFix p m c cX9_count 2 s _ wsX9_count RX9 := ⟨hx, hb, hml, hown, hts⟩
  have hS : va_S A s.heap s.heap [] := va_S.rf
  have lk113 := hts (.fieldLink RX9 113 "BranchPlayModel" "played" "I") (by decide +kernel)
  have inX9 : ∀ w ∈ wsX90, w ∈ wsX9_count := by decide +kernel
  have lk123 := hts (.fieldLink RX9 123 "BranchPlayModel" "taped" "I") (by decide +kernel)
  have lk192 := hts (.fieldLink RX9 192 "BranchPlayModel" "changes" "I") (by decide +kernel)
  obtain ⟨⟨hv0i0, hv0j0⟩, ⟨hv0i1, hv0j1⟩, ⟨hv0i5, hv0j5⟩, ⟨hv0i9, hv0j9⟩, hv0a6, hv0a8, hv0a9, hv0a23, hv0a27, hv0a28, hv0x0, hv0y0⟩ := hv0
  generalize hHe : s.heap = H at hP
  have hS : va_S A s.heap H [] := by rw [← hHe]; exact hS
  have hP : va_P D vwCl (((r0 0), .inr (9, [.ref (r0 1), .int (fi0 0), .int (fi0 1), .int (fi0 2), .int (fi0 3), .int (fi0 4), .int (fi0 5), .int (fi0 6), .int (fi0 7), .int (fi0 8), .ref (r0 2), .int (fi0 9), .ref (r0 3), .ref (r0 4), .ref (r0 5), .ref (r0 6), .ref (r0 7), .ref (r0 8), .ref (r0 9), .ref (r0 10), .ref (r0 11), .ref (r0 12), .ref (r0 13), .ref (r0 14), .ref (r0 15), .ref (r0 16), .ref (r0 17), .ref (r0 18), .ref (r0 19), .ref (r0 20), .ref (r0 21), .ref (r0 22), .ref (r0 23), .ref (r0 24), .ref (r0 25), .ref (r0 26), .ref (r0 27), .ref (r0 28), .ref (r0 29), .ref (r0 30), .ref (r0 31), .ref (r0 32), .int (fi0 10), .ref (r0 33)])) :: ((r0 1), .inl (ca 2, 600, .inl (fa0 0))) :: ((r0 2), .inl (ca 0, 48, .inl (fa0 1))) :: ((r0 3), .inl (ca 0, 60, .inl (fa0 2))) :: ((r0 4), .inl (ca 0, 60, .inl (fa0 3))) :: ((r0 5), .inl (ca 0, 60, .inl (fa0 4))) :: ((r0 6), .inl (ca 0, 60, .inl (fa0 5))) :: ((r0 7), .inl (ca 0, 60, .inl (fa0 6))) :: ((r0 8), .inl (ca 0, 60, .inl (fa0 7))) :: ((r0 9), .inl (ca 0, 180, .inl (fa0 8))) :: ((r0 10), .inl (ca 0, 60, .inl (fa0 9))) :: ((r0 11), .inl (ca 0, 180, .inl (fa0 10))) :: ((r0 12), .inl (ca 0, 180, .inl (fa0 11))) :: ((r0 13), .inl (ca 0, 180, .inl (fa0 12))) :: ((r0 14), .inl (ca 0, 180, .inl (fa0 13))) :: ((r0 15), .inl (ca 0, 180, .inl (fa0 14))) :: ((r0 16), .inl (ca 0, 180, .inl (fa0 15))) :: ((r0 17), .inl (ca 0, 180, .inl (fa0 16))) :: ((r0 18), .inl (ca 0, 180, .inl (fa0 17))) :: ((r0 19), .inl (ca 0, 180, .inl (fa0 18))) :: ((r0 20), .inl (ca 0, 180, .inl (fa0 19))) :: ((r0 21), .inl (ca 0, 3, .inl (fa0 20))) :: ((r0 22), .inl (ca 1, 3, .inr (.inl (fb0 0)))) :: ((r0 23), .inl (ca 1, 3, .inr (.inl (fb0 1)))) :: ((r0 24), .inl (ca 3, 3, .inl (fa0 21))) :: ((r0 25), .inl (ca 0, 3, .inl (fa0 22))) :: ((r0 26), .inl (ca 0, 3, .inl (fa0 23))) :: ((r0 27), .inl (ca 0, 810, .inl (fa0 24))) :: ((r0 28), .inl (ca 3, 810, .inl (fa0 25))) :: ((r0 29), .inl (ca 1, 810, .inr (.inl (fb0 2)))) :: ((r0 30), .inl (ca 0, 810, .inl (fa0 26))) :: ((r0 31), .inl (ca 0, 3, .inl (fa0 27))) :: ((r0 32), .inl (ca 0, 60, .inl (fa0 28))) :: ((r0 33), .inl (ca 0, 4, .inl (fa0 29))) :: rest) H := hP
  have hD : va_D A (((r0 0), .inr (9, [.ref (r0 1), .int (fi0 0), .int (fi0 1), .int (fi0 2), .int (fi0 3), .int (fi0 4), .int (fi0 5), .int (fi0 6), .int (fi0 7), .int (fi0 8), .ref (r0 2), .int (fi0 9), .ref (r0 3), .ref (r0 4), .ref (r0 5), .ref (r0 6), .ref (r0 7), .ref (r0 8), .ref (r0 9), .ref (r0 10), .ref (r0 11), .ref (r0 12), .ref (r0 13), .ref (r0 14), .ref (r0 15), .ref (r0 16), .ref (r0 17), .ref (r0 18), .ref (r0 19), .ref (r0 20), .ref (r0 21), .ref (r0 22), .ref (r0 23), .ref (r0 24), .ref (r0 25), .ref (r0 26), .ref (r0 27), .ref (r0 28), .ref (r0 29), .ref (r0 30), .ref (r0 31), .ref (r0 32), .int (fi0 10), .ref (r0 33)])) :: ((r0 1), .inl (ca 2, 600, .inl (fa0 0))) :: ((r0 2), .inl (ca 0, 48, .inl (fa0 1))) :: ((r0 3), .inl (ca 0, 60, .inl (fa0 2))) :: ((r0 4), .inl (ca 0, 60, .inl (fa0 3))) :: ((r0 5), .inl (ca 0, 60, .inl (fa0 4))) :: ((r0 6), .inl (ca 0, 60, .inl (fa0 5))) :: ((r0 7), .inl (ca 0, 60, .inl (fa0 6))) :: ((r0 8), .inl (ca 0, 60, .inl (fa0 7))) :: ((r0 9), .inl (ca 0, 180, .inl (fa0 8))) :: ((r0 10), .inl (ca 0, 60, .inl (fa0 9))) :: ((r0 11), .inl (ca 0, 180, .inl (fa0 10))) :: ((r0 12), .inl (ca 0, 180, .inl (fa0 11))) :: ((r0 13), .inl (ca 0, 180, .inl (fa0 12))) :: ((r0 14), .inl (ca 0, 180, .inl (fa0 13))) :: ((r0 15), .inl (ca 0, 180, .inl (fa0 14))) :: ((r0 16), .inl (ca 0, 180, .inl (fa0 15))) :: ((r0 17), .inl (ca 0, 180, .inl (fa0 16))) :: ((r0 18), .inl (ca 0, 180, .inl (fa0 17))) :: ((r0 19), .inl (ca 0, 180, .inl (fa0 18))) :: ((r0 20), .inl (ca 0, 180, .inl (fa0 19))) :: ((r0 21), .inl (ca 0, 3, .inl (fa0 20))) :: ((r0 22), .inl (ca 1, 3, .inr (.inl (fb0 0)))) :: ((r0 23), .inl (ca 1, 3, .inr (.inl (fb0 1)))) :: ((r0 24), .inl (ca 3, 3, .inl (fa0 21))) :: ((r0 25), .inl (ca 0, 3, .inl (fa0 22))) :: ((r0 26), .inl (ca 0, 3, .inl (fa0 23))) :: ((r0 27), .inl (ca 0, 810, .inl (fa0 24))) :: ((r0 28), .inl (ca 3, 810, .inl (fa0 25))) :: ((r0 29), .inl (ca 1, 810, .inr (.inl (fb0 2)))) :: ((r0 30), .inl (ca 0, 810, .inl (fa0 26))) :: ((r0 31), .inl (ca 0, 3, .inl (fa0 27))) :: ((r0 32), .inl (ca 0, 60, .inl (fa0 28))) :: ((r0 33), .inl (ca 0, 4, .inl (fa0 29))) :: rest) := hD
  have hl := lv_entry ([.ref (r0 0), .int p1]) (n := 2) (Nat.le_of_ble_eq_true rfl)
  rw [lg_entry_eq]
  generalize (lg_sl ([.ref (r0 0), .int p1]) ++ List.replicate (2 - (lg_sl ([.ref (r0 0), .int p1])).length) Slot.unset).toArray = ls at hl ⊢
  have hl : lv_has ls 2 [(0, .ref (r0 0)), (1, .int p1)] := hl
  generalize hQ9 : MQ below _ _ s 0 0 A = Q9
  refine lv_iload_n hx hb dX9_count_0 rfl (lv_at hl 1 rfl) ?_
  refine lv_if_ne (tgt := 11) hx hb dX9_count_1 (by decide) (fun c1 => ?_) (fun c1 => ?_)
  ·
    have c1 := z_ne (i := p1.toInt) (j := 0) rfl (by decide) c1
    refine lv_iload_n hx hb dX9_count_11 rfl (lv_at hl 1 rfl) ?_
    refine lv_iconst (v := 1) hx hb dX9_count_12 (by decide) ?_
    refine lv_icmp_ne (tgt := 23) hx hb dX9_count_13 (by decide) (fun c2 => ?_) (fun c2 => ?_)
    ·
      have c2 := z_ne (i := p1.toInt) (j := 1) rfl (by decide) c2
      refine lv_iload_n hx hb dX9_count_23 rfl (lv_at hl 1 rfl) ?_
      refine lv_iconst (v := 2) hx hb dX9_count_24 (by decide) ?_
      refine lv_icmp_ne (tgt := 35) hx hb dX9_count_25 (by decide) (fun c3 => ?_) (fun c3 => ?_)
      ·
        have c3 := z_ne (i := p1.toInt) (j := 2) rfl (by decide) c3
        refine lv_iconst (v := (-1)) hx hb dX9_count_35 (by decide) ?_
        subst hQ9
        refine lv_topi (fun t4 et4 => ?_)
        have ht4 : t4.toInt = (-1) := by rw [et4]; decide
        exact W.iret (v := t4) hx hb hr (fun t ht hW => ⟨⟨t4, (), rfl, trivial, ⟨by rw [ht]; exact hP, hD⟩⟩, hS.F ht⟩) hS.2.2 dX9_count_36
      ·
        have c3 := z_eq (i := p1.toInt) (j := 2) rfl (by decide) c3
        refine lv_aload_n hx hb dX9_count_28 rfl (lv_at hl 0 rfl) ?_
        refine va_get (D := D) (ci := 9) (v := .int (fi0 10)) (C := RX9) (T := TX9) (N := 44) hx hb hts inX9 hown hK hP 0 rfl rfl 42 (by decide) lk113 (fun _ h9 => h9) rfl dX9_count_29 ?_
        refine lv_goto (tgt := 36) hx hb dX9_count_32 (by decide) ?_
        subst hQ9
        exact W.iret (v := (fi0 10)) hx hb hr (fun t ht hW => ⟨⟨(fi0 10), (), rfl, trivial, ⟨by rw [ht]; exact hP, hD⟩⟩, hS.F ht⟩) hS.2.2 dX9_count_36
    ·
      have c2 := z_eq (i := p1.toInt) (j := 1) rfl (by decide) c2
      refine lv_aload_n hx hb dX9_count_16 rfl (lv_at hl 0 rfl) ?_
      refine va_get (D := D) (ci := 9) (v := .int (fi0 0)) (C := RX9) (T := TX9) (N := 44) hx hb hts inX9 hown hK hP 0 rfl rfl 1 (by decide) lk123 (fun _ h9 => h9) rfl dX9_count_17 ?_
      refine lv_goto (tgt := 36) hx hb dX9_count_20 (by decide) ?_
      subst hQ9
      exact W.iret (v := (fi0 0)) hx hb hr (fun t ht hW => ⟨⟨(fi0 0), (), rfl, trivial, ⟨by rw [ht]; exact hP, hD⟩⟩, hS.F ht⟩) hS.2.2 dX9_count_36
  ·
    have c1 := z_eq (i := p1.toInt) (j := 0) rfl (by decide) c1
    refine lv_aload_n hx hb dX9_count_4 rfl (lv_at hl 0 rfl) ?_
    refine va_get (D := D) (ci := 9) (v := .int (fi0 9)) (C := RX9) (T := TX9) (N := 44) hx hb hts inX9 hown hK hP 0 rfl rfl 11 (by decide) lk192 (fun _ h9 => h9) rfl dX9_count_5 ?_
    refine lv_goto (tgt := 36) hx hb dX9_count_8 (by decide) ?_
    subst hQ9
    exact W.iret (v := (fi0 9)) hx hb hr (fun t ht hW => ⟨⟨(fi0 9), (), rfl, trivial, ⟨by rw [ht]; exact hP, hD⟩⟩, hS.F ht⟩) hS.2.2 dX9_count_36

set_option maxHeartbeats 8000000 in
set_option maxRecDepth 100000 in
theorem c_X9_prices (l : Launch) (D : va_G) (ca : Nat → ClassId) (sa : Nat → Nat) (A : Nat → Prop) (rest : va_W) (r0 : Nat → Nat) (fi0 : Nat → Int32) (fl0 : Nat → Int64) (fa0 : Nat → Nat → Int32) (fb0 : Nat → Nat → Int64) (hv0 : Ok_MOD fi0 fa0) (p1 : Int32) (p2 : Int32) (p3 : Int32) (p4 : Int32) : Met l yX9_prices wsX9_prices ({ frames := 1, cells := 0, slots := 0, locals := 22 }) (va_Pc [.ref (r0 0), .int p1, .int p2, .int p3, .int p4] (zPre D ca sa A (w_MOD ca r0 fi0 fl0 fa0 fb0 (rest)))) (va_Qi (fun (r : Int32) (u : zS) => Ok_MOD (zx [] fi0 u.1) (zx [29] fa0 u.2.2.1) ∧ (((0 ≤ p1.toInt ∧ p1.toInt ≤ 1000 ∧ 0 ≤ p2.toInt ∧ p2.toInt ≤ 1000 ∧ 0 ≤ p3.toInt ∧ p3.toInt ≤ 1000 ∧ 0 ≤ p4.toInt ∧ p4.toInt ≤ 1000) ∧ r.toInt = 1) ∨ (¬ (0 ≤ p1.toInt ∧ p1.toInt ≤ 1000 ∧ 0 ≤ p2.toInt ∧ p2.toInt ≤ 1000 ∧ 0 ≤ p3.toInt ∧ p3.toInt ≤ 1000 ∧ 0 ≤ p4.toInt ∧ p4.toInt ≤ 1000) ∧ r.toInt = -2))) (fun u t => zPost D A (w_MOD ca r0 (zx [] fi0 u.1) (zx [] fl0 u.2.1) (zx [29] fa0 u.2.2.1) (zx [] fb0 u.2.2.2) (rest)) t) A) 0 0 A := by
  refine Met.ofW (cc := cX9_prices) (maxL := 5) (ret := (some .int)) (by decide) rfl ?_
  intro p e s m args below meth c s₁ B hml hv9
  obtain ⟨rfl, hE, hP, hD⟩ := hv9
  have hx := B.exec
  have hb := B.bytes
  have hr := B.returns
  have hts := atoms_spec (ws := wsX9_prices) B.pre
  have hown : s.vm.findClass RX9 = some m.cls := findClass_of_methodNamed B.named
  have hlocks := B.notSynchronized
  have hK := hE.1
  have hF : CallFix p m c cX9_prices 5 s _ wsX9_prices RX9 := ⟨hx, hb, hml, hown, hts⟩
  have hS : va_S A s.heap s.heap [] := va_S.rf
  have lk116 := hts (.fieldLink RX9 116 "BranchPlayModel" "price" "[I") (by decide +kernel)
  have inX9 : ∀ w ∈ wsX90, w ∈ wsX9_prices := by decide +kernel
  obtain ⟨⟨hv0i0, hv0j0⟩, ⟨hv0i1, hv0j1⟩, ⟨hv0i5, hv0j5⟩, ⟨hv0i9, hv0j9⟩, hv0a6, hv0a8, hv0a9, hv0a23, hv0a27, hv0a28, hv0x0, hv0y0⟩ := hv0
  generalize hHe : s.heap = H at hP
  have hS : va_S A s.heap H [] := by rw [← hHe]; exact hS
  have hP : va_P D vwCl (((r0 0), .inr (9, [.ref (r0 1), .int (fi0 0), .int (fi0 1), .int (fi0 2), .int (fi0 3), .int (fi0 4), .int (fi0 5), .int (fi0 6), .int (fi0 7), .int (fi0 8), .ref (r0 2), .int (fi0 9), .ref (r0 3), .ref (r0 4), .ref (r0 5), .ref (r0 6), .ref (r0 7), .ref (r0 8), .ref (r0 9), .ref (r0 10), .ref (r0 11), .ref (r0 12), .ref (r0 13), .ref (r0 14), .ref (r0 15), .ref (r0 16), .ref (r0 17), .ref (r0 18), .ref (r0 19), .ref (r0 20), .ref (r0 21), .ref (r0 22), .ref (r0 23), .ref (r0 24), .ref (r0 25), .ref (r0 26), .ref (r0 27), .ref (r0 28), .ref (r0 29), .ref (r0 30), .ref (r0 31), .ref (r0 32), .int (fi0 10), .ref (r0 33)])) :: ((r0 1), .inl (ca 2, 600, .inl (fa0 0))) :: ((r0 2), .inl (ca 0, 48, .inl (fa0 1))) :: ((r0 3), .inl (ca 0, 60, .inl (fa0 2))) :: ((r0 4), .inl (ca 0, 60, .inl (fa0 3))) :: ((r0 5), .inl (ca 0, 60, .inl (fa0 4))) :: ((r0 6), .inl (ca 0, 60, .inl (fa0 5))) :: ((r0 7), .inl (ca 0, 60, .inl (fa0 6))) :: ((r0 8), .inl (ca 0, 60, .inl (fa0 7))) :: ((r0 9), .inl (ca 0, 180, .inl (fa0 8))) :: ((r0 10), .inl (ca 0, 60, .inl (fa0 9))) :: ((r0 11), .inl (ca 0, 180, .inl (fa0 10))) :: ((r0 12), .inl (ca 0, 180, .inl (fa0 11))) :: ((r0 13), .inl (ca 0, 180, .inl (fa0 12))) :: ((r0 14), .inl (ca 0, 180, .inl (fa0 13))) :: ((r0 15), .inl (ca 0, 180, .inl (fa0 14))) :: ((r0 16), .inl (ca 0, 180, .inl (fa0 15))) :: ((r0 17), .inl (ca 0, 180, .inl (fa0 16))) :: ((r0 18), .inl (ca 0, 180, .inl (fa0 17))) :: ((r0 19), .inl (ca 0, 180, .inl (fa0 18))) :: ((r0 20), .inl (ca 0, 180, .inl (fa0 19))) :: ((r0 21), .inl (ca 0, 3, .inl (fa0 20))) :: ((r0 22), .inl (ca 1, 3, .inr (.inl (fb0 0)))) :: ((r0 23), .inl (ca 1, 3, .inr (.inl (fb0 1)))) :: ((r0 24), .inl (ca 3, 3, .inl (fa0 21))) :: ((r0 25), .inl (ca 0, 3, .inl (fa0 22))) :: ((r0 26), .inl (ca 0, 3, .inl (fa0 23))) :: ((r0 27), .inl (ca 0, 810, .inl (fa0 24))) :: ((r0 28), .inl (ca 3, 810, .inl (fa0 25))) :: ((r0 29), .inl (ca 1, 810, .inr (.inl (fb0 2)))) :: ((r0 30), .inl (ca 0, 810, .inl (fa0 26))) :: ((r0 31), .inl (ca 0, 3, .inl (fa0 27))) :: ((r0 32), .inl (ca 0, 60, .inl (fa0 28))) :: ((r0 33), .inl (ca 0, 4, .inl (fa0 29))) :: rest) H := hP
  have hD : va_D A (((r0 0), .inr (9, [.ref (r0 1), .int (fi0 0), .int (fi0 1), .int (fi0 2), .int (fi0 3), .int (fi0 4), .int (fi0 5), .int (fi0 6), .int (fi0 7), .int (fi0 8), .ref (r0 2), .int (fi0 9), .ref (r0 3), .ref (r0 4), .ref (r0 5), .ref (r0 6), .ref (r0 7), .ref (r0 8), .ref (r0 9), .ref (r0 10), .ref (r0 11), .ref (r0 12), .ref (r0 13), .ref (r0 14), .ref (r0 15), .ref (r0 16), .ref (r0 17), .ref (r0 18), .ref (r0 19), .ref (r0 20), .ref (r0 21), .ref (r0 22), .ref (r0 23), .ref (r0 24), .ref (r0 25), .ref (r0 26), .ref (r0 27), .ref (r0 28), .ref (r0 29), .ref (r0 30), .ref (r0 31), .ref (r0 32), .int (fi0 10), .ref (r0 33)])) :: ((r0 1), .inl (ca 2, 600, .inl (fa0 0))) :: ((r0 2), .inl (ca 0, 48, .inl (fa0 1))) :: ((r0 3), .inl (ca 0, 60, .inl (fa0 2))) :: ((r0 4), .inl (ca 0, 60, .inl (fa0 3))) :: ((r0 5), .inl (ca 0, 60, .inl (fa0 4))) :: ((r0 6), .inl (ca 0, 60, .inl (fa0 5))) :: ((r0 7), .inl (ca 0, 60, .inl (fa0 6))) :: ((r0 8), .inl (ca 0, 60, .inl (fa0 7))) :: ((r0 9), .inl (ca 0, 180, .inl (fa0 8))) :: ((r0 10), .inl (ca 0, 60, .inl (fa0 9))) :: ((r0 11), .inl (ca 0, 180, .inl (fa0 10))) :: ((r0 12), .inl (ca 0, 180, .inl (fa0 11))) :: ((r0 13), .inl (ca 0, 180, .inl (fa0 12))) :: ((r0 14), .inl (ca 0, 180, .inl (fa0 13))) :: ((r0 15), .inl (ca 0, 180, .inl (fa0 14))) :: ((r0 16), .inl (ca 0, 180, .inl (fa0 15))) :: ((r0 17), .inl (ca 0, 180, .inl (fa0 16))) :: ((r0 18), .inl (ca 0, 180, .inl (fa0 17))) :: ((r0 19), .inl (ca 0, 180, .inl (fa0 18))) :: ((r0 20), .inl (ca 0, 180, .inl (fa0 19))) :: ((r0 21), .inl (ca 0, 3, .inl (fa0 20))) :: ((r0 22), .inl (ca 1, 3, .inr (.inl (fb0 0)))) :: ((r0 23), .inl (ca 1, 3, .inr (.inl (fb0 1)))) :: ((r0 24), .inl (ca 3, 3, .inl (fa0 21))) :: ((r0 25), .inl (ca 0, 3, .inl (fa0 22))) :: ((r0 26), .inl (ca 0, 3, .inl (fa0 23))) :: ((r0 27), .inl (ca 0, 810, .inl (fa0 24))) :: ((r0 28), .inl (ca 3, 810, .inl (fa0 25))) :: ((r0 29), .inl (ca 1, 810, .inr (.inl (fb0 2)))) :: ((r0 30), .inl (ca 0, 810, .inl (fa0 26))) :: ((r0 31), .inl (ca 0, 3, .inl (fa0 27))) :: ((r0 32), .inl (ca 0, 60, .inl (fa0 28))) :: ((r0 33), .inl (ca 0, 4, .inl (fa0 29))) :: rest) := hD
  have hl := lv_entry ([.ref (r0 0), .int p1, .int p2, .int p3, .int p4]) (n := 5) (Nat.le_of_ble_eq_true rfl)
  rw [lg_entry_eq]
  generalize (lg_sl ([.ref (r0 0), .int p1, .int p2, .int p3, .int p4]) ++ List.replicate (5 - (lg_sl ([.ref (r0 0), .int p1, .int p2, .int p3, .int p4])).length) Slot.unset).toArray = ls at hl ⊢
  have hl : lv_has ls 5 [(0, .ref (r0 0)), (1, .int p1), (2, .int p2), (3, .int p3), (4, .int p4)] := hl
  generalize hQ9 : MQ below _ _ s 0 0 A = Q9
  refine lv_iload_n hx hb dX9_prices_0 rfl (lv_at hl 1 rfl) ?_
  refine lv_iconst (v := 0) hx hb dX9_prices_1 (by decide) ?_
  refine lv_sipush (v := 1000) hx hb dX9_prices_2 (by decide) ?_
  refine z_iS (As := [.int p1, .int 0, .int 1000]) (rest := []) hF (c_X9_in l D ca sa A _ p1 0 1000) (va_cwS 3 hts gX9_prices_X9_in rfl rfl rfl (by decide +kernel) ⟨Nat.le_of_ble_eq_true rfl, Nat.le_of_ble_eq_true rfl⟩) hE hP hD hS rfl hl.1 rfl (Nat.le_of_ble_eq_true rfl) dX9_prices_5 ⟨Nat.zero_le _, Nat.zero_le _⟩ (fun t2 u1 H locs hw3 hP hD hS => ?_)
  have hw3 : ((t2.toInt = 1 ∧ 0 ≤ p1.toInt ∧ p1.toInt ≤ 1000) ∨ (t2.toInt = 0 ∧ (p1.toInt < 0 ∨ 1000 < p1.toInt))) := hw3
  obtain hq4 := hw3
  refine lv_if_eq (tgt := 45) hx hb dX9_prices_8 (by decide) (fun c5 => ?_) (fun c5 => ?_)
  ·
    have c5 := z_eq (i := t2.toInt) (j := 0) rfl (by decide) c5
    refine lv_bipush (v := (-2)) hx hb dX9_prices_45 (by decide) ?_
    subst hQ9
    refine lv_topi (fun t6 et6 => ?_)
    have ht6 : t6.toInt = (-2) := by rw [et6]; decide
    have ho7 : (0 ≤ (fi0 0).toInt ∧ (fi0 0).toInt ≤ 600) ∧ (0 ≤ (fi0 1).toInt ∧ (fi0 1).toInt ≤ 600) ∧ (0 ≤ (fi0 5).toInt ∧ (fi0 5).toInt ≤ 600) ∧ (0 ≤ (fi0 9).toInt ∧ (fi0 9).toInt ≤ 60) ∧ z_rng (-1) 59 (fa0 6) ∧ z_rng 0 59 (fa0 8) ∧ z_rng 0 3 (fa0 9) ∧ z_rng 0 269 (fa0 23) ∧ z_rng 0 5 (fa0 27) ∧ z_rng 0 59 (fa0 28) ∧ ((fi0 2).toInt = 1 → 0 ≤ (fi0 3).toInt) ∧ zOkR (fa0 1) (fa0 27) := ⟨⟨by omega, by omega⟩, ⟨by omega, by omega⟩, ⟨by omega, by omega⟩, ⟨by omega, by omega⟩, hv0a6, hv0a8, hv0a9, hv0a23, hv0a27, hv0a28, by omega, hv0y0⟩
    have hq8 : ((0 ≤ p1.toInt ∧ p1.toInt ≤ 1000 ∧ 0 ≤ p2.toInt ∧ p2.toInt ≤ 1000 ∧ 0 ≤ p3.toInt ∧ p3.toInt ≤ 1000 ∧ 0 ≤ p4.toInt ∧ p4.toInt ≤ 1000) ∧ t6.toInt = 1) ∨ (¬ (0 ≤ p1.toInt ∧ p1.toInt ≤ 1000 ∧ 0 ≤ p2.toInt ∧ p2.toInt ≤ 1000 ∧ 0 ≤ p3.toInt ∧ p3.toInt ≤ 1000 ∧ 0 ≤ p4.toInt ∧ p4.toInt ≤ 1000) ∧ t6.toInt = -2) := by omega
    exact W.iret (v := t6) hx hb hr (fun t ht hW => ⟨⟨t6, ((zl 0 [(fi0 0), (fi0 1), (fi0 2), (fi0 3), (fi0 4), (fi0 5), (fi0 6), (fi0 7), (fi0 8), (fi0 9), (fi0 10)]), (zl 0 []), (zl (fun _ => 0) [(fa0 0), (fa0 1), (fa0 2), (fa0 3), (fa0 4), (fa0 5), (fa0 6), (fa0 7), (fa0 8), (fa0 9), (fa0 10), (fa0 11), (fa0 12), (fa0 13), (fa0 14), (fa0 15), (fa0 16), (fa0 17), (fa0 18), (fa0 19), (fa0 20), (fa0 21), (fa0 22), (fa0 23), (fa0 24), (fa0 25), (fa0 26), (fa0 27), (fa0 28), (fa0 29)]), (zl (fun _ => 0) [(fb0 0), (fb0 1), (fb0 2)])), rfl, ⟨ho7, hq8⟩, ⟨by rw [ht]; exact hP, hD⟩⟩, hS.F ht⟩) hS.2.2 dX9_prices_47
  ·
    have c5 := z_ne (i := t2.toInt) (j := 0) rfl (by decide) c5
    refine lv_iload_n hx hb dX9_prices_11 rfl (lv_at hl 2 rfl) ?_
    refine lv_iconst (v := 0) hx hb dX9_prices_12 (by decide) ?_
    refine lv_sipush (v := 1000) hx hb dX9_prices_13 (by decide) ?_
    refine z_iS (As := [.int p2, .int 0, .int 1000]) (rest := []) hF (c_X9_in l D ca sa A _ p2 0 1000) (va_cwS 3 hts gX9_prices_X9_in rfl rfl rfl (by decide +kernel) ⟨Nat.le_of_ble_eq_true rfl, Nat.le_of_ble_eq_true rfl⟩) hE hP hD hS rfl hl.1 rfl (Nat.le_of_ble_eq_true rfl) dX9_prices_16 ⟨Nat.zero_le _, Nat.zero_le _⟩ (fun t10 u9 H locs hw11 hP hD hS => ?_)
    have hw11 : ((t10.toInt = 1 ∧ 0 ≤ p2.toInt ∧ p2.toInt ≤ 1000) ∨ (t10.toInt = 0 ∧ (p2.toInt < 0 ∨ 1000 < p2.toInt))) := hw11
    obtain hq12 := hw11
    refine lv_if_eq (tgt := 45) hx hb dX9_prices_19 (by decide) (fun c13 => ?_) (fun c13 => ?_)
    ·
      have c13 := z_eq (i := t10.toInt) (j := 0) rfl (by decide) c13
      refine lv_bipush (v := (-2)) hx hb dX9_prices_45 (by decide) ?_
      subst hQ9
      refine lv_topi (fun t14 et14 => ?_)
      have ht14 : t14.toInt = (-2) := by rw [et14]; decide
      have ho15 : (0 ≤ (fi0 0).toInt ∧ (fi0 0).toInt ≤ 600) ∧ (0 ≤ (fi0 1).toInt ∧ (fi0 1).toInt ≤ 600) ∧ (0 ≤ (fi0 5).toInt ∧ (fi0 5).toInt ≤ 600) ∧ (0 ≤ (fi0 9).toInt ∧ (fi0 9).toInt ≤ 60) ∧ z_rng (-1) 59 (fa0 6) ∧ z_rng 0 59 (fa0 8) ∧ z_rng 0 3 (fa0 9) ∧ z_rng 0 269 (fa0 23) ∧ z_rng 0 5 (fa0 27) ∧ z_rng 0 59 (fa0 28) ∧ ((fi0 2).toInt = 1 → 0 ≤ (fi0 3).toInt) ∧ zOkR (fa0 1) (fa0 27) := ⟨⟨by omega, by omega⟩, ⟨by omega, by omega⟩, ⟨by omega, by omega⟩, ⟨by omega, by omega⟩, hv0a6, hv0a8, hv0a9, hv0a23, hv0a27, hv0a28, by omega, hv0y0⟩
      have hq16 : ((0 ≤ p1.toInt ∧ p1.toInt ≤ 1000 ∧ 0 ≤ p2.toInt ∧ p2.toInt ≤ 1000 ∧ 0 ≤ p3.toInt ∧ p3.toInt ≤ 1000 ∧ 0 ≤ p4.toInt ∧ p4.toInt ≤ 1000) ∧ t14.toInt = 1) ∨ (¬ (0 ≤ p1.toInt ∧ p1.toInt ≤ 1000 ∧ 0 ≤ p2.toInt ∧ p2.toInt ≤ 1000 ∧ 0 ≤ p3.toInt ∧ p3.toInt ≤ 1000 ∧ 0 ≤ p4.toInt ∧ p4.toInt ≤ 1000) ∧ t14.toInt = -2) := by omega
      exact W.iret (v := t14) hx hb hr (fun t ht hW => ⟨⟨t14, ((zl 0 [(fi0 0), (fi0 1), (fi0 2), (fi0 3), (fi0 4), (fi0 5), (fi0 6), (fi0 7), (fi0 8), (fi0 9), (fi0 10)]), (zl 0 []), (zl (fun _ => 0) [(fa0 0), (fa0 1), (fa0 2), (fa0 3), (fa0 4), (fa0 5), (fa0 6), (fa0 7), (fa0 8), (fa0 9), (fa0 10), (fa0 11), (fa0 12), (fa0 13), (fa0 14), (fa0 15), (fa0 16), (fa0 17), (fa0 18), (fa0 19), (fa0 20), (fa0 21), (fa0 22), (fa0 23), (fa0 24), (fa0 25), (fa0 26), (fa0 27), (fa0 28), (fa0 29)]), (zl (fun _ => 0) [(fb0 0), (fb0 1), (fb0 2)])), rfl, ⟨ho15, hq16⟩, ⟨by rw [ht]; exact hP, hD⟩⟩, hS.F ht⟩) hS.2.2 dX9_prices_47
    ·
      have c13 := z_ne (i := t10.toInt) (j := 0) rfl (by decide) c13
      refine lv_iload_n hx hb dX9_prices_22 rfl (lv_at hl 3 rfl) ?_
      refine lv_iconst (v := 0) hx hb dX9_prices_23 (by decide) ?_
      refine lv_sipush (v := 1000) hx hb dX9_prices_24 (by decide) ?_
      refine z_iS (As := [.int p3, .int 0, .int 1000]) (rest := []) hF (c_X9_in l D ca sa A _ p3 0 1000) (va_cwS 3 hts gX9_prices_X9_in rfl rfl rfl (by decide +kernel) ⟨Nat.le_of_ble_eq_true rfl, Nat.le_of_ble_eq_true rfl⟩) hE hP hD hS rfl hl.1 rfl (Nat.le_of_ble_eq_true rfl) dX9_prices_27 ⟨Nat.zero_le _, Nat.zero_le _⟩ (fun t18 u17 H locs hw19 hP hD hS => ?_)
      have hw19 : ((t18.toInt = 1 ∧ 0 ≤ p3.toInt ∧ p3.toInt ≤ 1000) ∨ (t18.toInt = 0 ∧ (p3.toInt < 0 ∨ 1000 < p3.toInt))) := hw19
      obtain hq20 := hw19
      refine lv_if_eq (tgt := 45) hx hb dX9_prices_30 (by decide) (fun c21 => ?_) (fun c21 => ?_)
      ·
        have c21 := z_eq (i := t18.toInt) (j := 0) rfl (by decide) c21
        refine lv_bipush (v := (-2)) hx hb dX9_prices_45 (by decide) ?_
        subst hQ9
        refine lv_topi (fun t22 et22 => ?_)
        have ht22 : t22.toInt = (-2) := by rw [et22]; decide
        have ho23 : (0 ≤ (fi0 0).toInt ∧ (fi0 0).toInt ≤ 600) ∧ (0 ≤ (fi0 1).toInt ∧ (fi0 1).toInt ≤ 600) ∧ (0 ≤ (fi0 5).toInt ∧ (fi0 5).toInt ≤ 600) ∧ (0 ≤ (fi0 9).toInt ∧ (fi0 9).toInt ≤ 60) ∧ z_rng (-1) 59 (fa0 6) ∧ z_rng 0 59 (fa0 8) ∧ z_rng 0 3 (fa0 9) ∧ z_rng 0 269 (fa0 23) ∧ z_rng 0 5 (fa0 27) ∧ z_rng 0 59 (fa0 28) ∧ ((fi0 2).toInt = 1 → 0 ≤ (fi0 3).toInt) ∧ zOkR (fa0 1) (fa0 27) := ⟨⟨by omega, by omega⟩, ⟨by omega, by omega⟩, ⟨by omega, by omega⟩, ⟨by omega, by omega⟩, hv0a6, hv0a8, hv0a9, hv0a23, hv0a27, hv0a28, by omega, hv0y0⟩
        have hq24 : ((0 ≤ p1.toInt ∧ p1.toInt ≤ 1000 ∧ 0 ≤ p2.toInt ∧ p2.toInt ≤ 1000 ∧ 0 ≤ p3.toInt ∧ p3.toInt ≤ 1000 ∧ 0 ≤ p4.toInt ∧ p4.toInt ≤ 1000) ∧ t22.toInt = 1) ∨ (¬ (0 ≤ p1.toInt ∧ p1.toInt ≤ 1000 ∧ 0 ≤ p2.toInt ∧ p2.toInt ≤ 1000 ∧ 0 ≤ p3.toInt ∧ p3.toInt ≤ 1000 ∧ 0 ≤ p4.toInt ∧ p4.toInt ≤ 1000) ∧ t22.toInt = -2) := by omega
        exact W.iret (v := t22) hx hb hr (fun t ht hW => ⟨⟨t22, ((zl 0 [(fi0 0), (fi0 1), (fi0 2), (fi0 3), (fi0 4), (fi0 5), (fi0 6), (fi0 7), (fi0 8), (fi0 9), (fi0 10)]), (zl 0 []), (zl (fun _ => 0) [(fa0 0), (fa0 1), (fa0 2), (fa0 3), (fa0 4), (fa0 5), (fa0 6), (fa0 7), (fa0 8), (fa0 9), (fa0 10), (fa0 11), (fa0 12), (fa0 13), (fa0 14), (fa0 15), (fa0 16), (fa0 17), (fa0 18), (fa0 19), (fa0 20), (fa0 21), (fa0 22), (fa0 23), (fa0 24), (fa0 25), (fa0 26), (fa0 27), (fa0 28), (fa0 29)]), (zl (fun _ => 0) [(fb0 0), (fb0 1), (fb0 2)])), rfl, ⟨ho23, hq24⟩, ⟨by rw [ht]; exact hP, hD⟩⟩, hS.F ht⟩) hS.2.2 dX9_prices_47
      ·
        have c21 := z_ne (i := t18.toInt) (j := 0) rfl (by decide) c21
        refine lv_iload hx hb dX9_prices_33 (lv_at hl 4 rfl) ?_
        refine lv_iconst (v := 0) hx hb dX9_prices_35 (by decide) ?_
        refine lv_sipush (v := 1000) hx hb dX9_prices_36 (by decide) ?_
        refine z_iS (As := [.int p4, .int 0, .int 1000]) (rest := []) hF (c_X9_in l D ca sa A _ p4 0 1000) (va_cwS 3 hts gX9_prices_X9_in rfl rfl rfl (by decide +kernel) ⟨Nat.le_of_ble_eq_true rfl, Nat.le_of_ble_eq_true rfl⟩) hE hP hD hS rfl hl.1 rfl (Nat.le_of_ble_eq_true rfl) dX9_prices_39 ⟨Nat.zero_le _, Nat.zero_le _⟩ (fun t26 u25 H locs hw27 hP hD hS => ?_)
        have hw27 : ((t26.toInt = 1 ∧ 0 ≤ p4.toInt ∧ p4.toInt ≤ 1000) ∨ (t26.toInt = 0 ∧ (p4.toInt < 0 ∨ 1000 < p4.toInt))) := hw27
        obtain hq28 := hw27
        refine lv_if_ne (tgt := 48) hx hb dX9_prices_42 (by decide) (fun c29 => ?_) (fun c29 => ?_)
        ·
          have c29 := z_ne (i := t26.toInt) (j := 0) rfl (by decide) c29
          refine lv_aload_n hx hb dX9_prices_48 rfl (lv_at hl 0 rfl) ?_
          refine va_get (D := D) (ci := 9) (v := .ref (r0 33)) (C := RX9) (T := TX9) (N := 44) hx hb hts inX9 hown hK hP 0 rfl rfl 43 (by decide) lk116 (fun _ h9 => h9) rfl dX9_prices_49 ?_
          refine lv_iconst (v := 0) hx hb dX9_prices_52 (by decide) ?_
          refine lv_iload_n hx hb dX9_prices_53 rfl (lv_at hl 1 rfl) ?_
          have hi30 : vp_in 0 4 := z_in (i := 0) (by decide) (by omega) (by omega)
          refine va_iast hx hb hK hP hD hS 33 0 rfl rfl hi30 dX9_prices_54 (fun H locs hP hD hS => ?_)
          generalize eg31 : upd (fa0 29) (0 : Int32).toNatClampNeg p1 = g31 at hP hD
          have hP : va_P D vwCl (((r0 0), .inr (9, [.ref (r0 1), .int (fi0 0), .int (fi0 1), .int (fi0 2), .int (fi0 3), .int (fi0 4), .int (fi0 5), .int (fi0 6), .int (fi0 7), .int (fi0 8), .ref (r0 2), .int (fi0 9), .ref (r0 3), .ref (r0 4), .ref (r0 5), .ref (r0 6), .ref (r0 7), .ref (r0 8), .ref (r0 9), .ref (r0 10), .ref (r0 11), .ref (r0 12), .ref (r0 13), .ref (r0 14), .ref (r0 15), .ref (r0 16), .ref (r0 17), .ref (r0 18), .ref (r0 19), .ref (r0 20), .ref (r0 21), .ref (r0 22), .ref (r0 23), .ref (r0 24), .ref (r0 25), .ref (r0 26), .ref (r0 27), .ref (r0 28), .ref (r0 29), .ref (r0 30), .ref (r0 31), .ref (r0 32), .int (fi0 10), .ref (r0 33)])) :: ((r0 1), .inl (ca 2, 600, .inl (fa0 0))) :: ((r0 2), .inl (ca 0, 48, .inl (fa0 1))) :: ((r0 3), .inl (ca 0, 60, .inl (fa0 2))) :: ((r0 4), .inl (ca 0, 60, .inl (fa0 3))) :: ((r0 5), .inl (ca 0, 60, .inl (fa0 4))) :: ((r0 6), .inl (ca 0, 60, .inl (fa0 5))) :: ((r0 7), .inl (ca 0, 60, .inl (fa0 6))) :: ((r0 8), .inl (ca 0, 60, .inl (fa0 7))) :: ((r0 9), .inl (ca 0, 180, .inl (fa0 8))) :: ((r0 10), .inl (ca 0, 60, .inl (fa0 9))) :: ((r0 11), .inl (ca 0, 180, .inl (fa0 10))) :: ((r0 12), .inl (ca 0, 180, .inl (fa0 11))) :: ((r0 13), .inl (ca 0, 180, .inl (fa0 12))) :: ((r0 14), .inl (ca 0, 180, .inl (fa0 13))) :: ((r0 15), .inl (ca 0, 180, .inl (fa0 14))) :: ((r0 16), .inl (ca 0, 180, .inl (fa0 15))) :: ((r0 17), .inl (ca 0, 180, .inl (fa0 16))) :: ((r0 18), .inl (ca 0, 180, .inl (fa0 17))) :: ((r0 19), .inl (ca 0, 180, .inl (fa0 18))) :: ((r0 20), .inl (ca 0, 180, .inl (fa0 19))) :: ((r0 21), .inl (ca 0, 3, .inl (fa0 20))) :: ((r0 22), .inl (ca 1, 3, .inr (.inl (fb0 0)))) :: ((r0 23), .inl (ca 1, 3, .inr (.inl (fb0 1)))) :: ((r0 24), .inl (ca 3, 3, .inl (fa0 21))) :: ((r0 25), .inl (ca 0, 3, .inl (fa0 22))) :: ((r0 26), .inl (ca 0, 3, .inl (fa0 23))) :: ((r0 27), .inl (ca 0, 810, .inl (fa0 24))) :: ((r0 28), .inl (ca 3, 810, .inl (fa0 25))) :: ((r0 29), .inl (ca 1, 810, .inr (.inl (fb0 2)))) :: ((r0 30), .inl (ca 0, 810, .inl (fa0 26))) :: ((r0 31), .inl (ca 0, 3, .inl (fa0 27))) :: ((r0 32), .inl (ca 0, 60, .inl (fa0 28))) :: ((r0 33), .inl (ca 0, 4, .inl g31)) :: rest) H := hP
          have hD : va_D A (((r0 0), .inr (9, [.ref (r0 1), .int (fi0 0), .int (fi0 1), .int (fi0 2), .int (fi0 3), .int (fi0 4), .int (fi0 5), .int (fi0 6), .int (fi0 7), .int (fi0 8), .ref (r0 2), .int (fi0 9), .ref (r0 3), .ref (r0 4), .ref (r0 5), .ref (r0 6), .ref (r0 7), .ref (r0 8), .ref (r0 9), .ref (r0 10), .ref (r0 11), .ref (r0 12), .ref (r0 13), .ref (r0 14), .ref (r0 15), .ref (r0 16), .ref (r0 17), .ref (r0 18), .ref (r0 19), .ref (r0 20), .ref (r0 21), .ref (r0 22), .ref (r0 23), .ref (r0 24), .ref (r0 25), .ref (r0 26), .ref (r0 27), .ref (r0 28), .ref (r0 29), .ref (r0 30), .ref (r0 31), .ref (r0 32), .int (fi0 10), .ref (r0 33)])) :: ((r0 1), .inl (ca 2, 600, .inl (fa0 0))) :: ((r0 2), .inl (ca 0, 48, .inl (fa0 1))) :: ((r0 3), .inl (ca 0, 60, .inl (fa0 2))) :: ((r0 4), .inl (ca 0, 60, .inl (fa0 3))) :: ((r0 5), .inl (ca 0, 60, .inl (fa0 4))) :: ((r0 6), .inl (ca 0, 60, .inl (fa0 5))) :: ((r0 7), .inl (ca 0, 60, .inl (fa0 6))) :: ((r0 8), .inl (ca 0, 60, .inl (fa0 7))) :: ((r0 9), .inl (ca 0, 180, .inl (fa0 8))) :: ((r0 10), .inl (ca 0, 60, .inl (fa0 9))) :: ((r0 11), .inl (ca 0, 180, .inl (fa0 10))) :: ((r0 12), .inl (ca 0, 180, .inl (fa0 11))) :: ((r0 13), .inl (ca 0, 180, .inl (fa0 12))) :: ((r0 14), .inl (ca 0, 180, .inl (fa0 13))) :: ((r0 15), .inl (ca 0, 180, .inl (fa0 14))) :: ((r0 16), .inl (ca 0, 180, .inl (fa0 15))) :: ((r0 17), .inl (ca 0, 180, .inl (fa0 16))) :: ((r0 18), .inl (ca 0, 180, .inl (fa0 17))) :: ((r0 19), .inl (ca 0, 180, .inl (fa0 18))) :: ((r0 20), .inl (ca 0, 180, .inl (fa0 19))) :: ((r0 21), .inl (ca 0, 3, .inl (fa0 20))) :: ((r0 22), .inl (ca 1, 3, .inr (.inl (fb0 0)))) :: ((r0 23), .inl (ca 1, 3, .inr (.inl (fb0 1)))) :: ((r0 24), .inl (ca 3, 3, .inl (fa0 21))) :: ((r0 25), .inl (ca 0, 3, .inl (fa0 22))) :: ((r0 26), .inl (ca 0, 3, .inl (fa0 23))) :: ((r0 27), .inl (ca 0, 810, .inl (fa0 24))) :: ((r0 28), .inl (ca 3, 810, .inl (fa0 25))) :: ((r0 29), .inl (ca 1, 810, .inr (.inl (fb0 2)))) :: ((r0 30), .inl (ca 0, 810, .inl (fa0 26))) :: ((r0 31), .inl (ca 0, 3, .inl (fa0 27))) :: ((r0 32), .inl (ca 0, 60, .inl (fa0 28))) :: ((r0 33), .inl (ca 0, 4, .inl g31)) :: rest) := hD
          refine lv_aload_n hx hb dX9_prices_55 rfl (lv_at hl 0 rfl) ?_
          refine va_get (D := D) (ci := 9) (v := .ref (r0 33)) (C := RX9) (T := TX9) (N := 44) hx hb hts inX9 hown hK hP 0 rfl rfl 43 (by decide) lk116 (fun _ h9 => h9) rfl dX9_prices_56 ?_
          refine lv_iconst (v := 1) hx hb dX9_prices_59 (by decide) ?_
          refine lv_iload_n hx hb dX9_prices_60 rfl (lv_at hl 2 rfl) ?_
          have hi32 : vp_in 1 4 := z_in (i := 1) (by decide) (by omega) (by omega)
          refine va_iast hx hb hK hP hD hS 33 0 rfl rfl hi32 dX9_prices_61 (fun H locs hP hD hS => ?_)
          generalize eg33 : upd g31 (1 : Int32).toNatClampNeg p2 = g33 at hP hD
          have hP : va_P D vwCl (((r0 0), .inr (9, [.ref (r0 1), .int (fi0 0), .int (fi0 1), .int (fi0 2), .int (fi0 3), .int (fi0 4), .int (fi0 5), .int (fi0 6), .int (fi0 7), .int (fi0 8), .ref (r0 2), .int (fi0 9), .ref (r0 3), .ref (r0 4), .ref (r0 5), .ref (r0 6), .ref (r0 7), .ref (r0 8), .ref (r0 9), .ref (r0 10), .ref (r0 11), .ref (r0 12), .ref (r0 13), .ref (r0 14), .ref (r0 15), .ref (r0 16), .ref (r0 17), .ref (r0 18), .ref (r0 19), .ref (r0 20), .ref (r0 21), .ref (r0 22), .ref (r0 23), .ref (r0 24), .ref (r0 25), .ref (r0 26), .ref (r0 27), .ref (r0 28), .ref (r0 29), .ref (r0 30), .ref (r0 31), .ref (r0 32), .int (fi0 10), .ref (r0 33)])) :: ((r0 1), .inl (ca 2, 600, .inl (fa0 0))) :: ((r0 2), .inl (ca 0, 48, .inl (fa0 1))) :: ((r0 3), .inl (ca 0, 60, .inl (fa0 2))) :: ((r0 4), .inl (ca 0, 60, .inl (fa0 3))) :: ((r0 5), .inl (ca 0, 60, .inl (fa0 4))) :: ((r0 6), .inl (ca 0, 60, .inl (fa0 5))) :: ((r0 7), .inl (ca 0, 60, .inl (fa0 6))) :: ((r0 8), .inl (ca 0, 60, .inl (fa0 7))) :: ((r0 9), .inl (ca 0, 180, .inl (fa0 8))) :: ((r0 10), .inl (ca 0, 60, .inl (fa0 9))) :: ((r0 11), .inl (ca 0, 180, .inl (fa0 10))) :: ((r0 12), .inl (ca 0, 180, .inl (fa0 11))) :: ((r0 13), .inl (ca 0, 180, .inl (fa0 12))) :: ((r0 14), .inl (ca 0, 180, .inl (fa0 13))) :: ((r0 15), .inl (ca 0, 180, .inl (fa0 14))) :: ((r0 16), .inl (ca 0, 180, .inl (fa0 15))) :: ((r0 17), .inl (ca 0, 180, .inl (fa0 16))) :: ((r0 18), .inl (ca 0, 180, .inl (fa0 17))) :: ((r0 19), .inl (ca 0, 180, .inl (fa0 18))) :: ((r0 20), .inl (ca 0, 180, .inl (fa0 19))) :: ((r0 21), .inl (ca 0, 3, .inl (fa0 20))) :: ((r0 22), .inl (ca 1, 3, .inr (.inl (fb0 0)))) :: ((r0 23), .inl (ca 1, 3, .inr (.inl (fb0 1)))) :: ((r0 24), .inl (ca 3, 3, .inl (fa0 21))) :: ((r0 25), .inl (ca 0, 3, .inl (fa0 22))) :: ((r0 26), .inl (ca 0, 3, .inl (fa0 23))) :: ((r0 27), .inl (ca 0, 810, .inl (fa0 24))) :: ((r0 28), .inl (ca 3, 810, .inl (fa0 25))) :: ((r0 29), .inl (ca 1, 810, .inr (.inl (fb0 2)))) :: ((r0 30), .inl (ca 0, 810, .inl (fa0 26))) :: ((r0 31), .inl (ca 0, 3, .inl (fa0 27))) :: ((r0 32), .inl (ca 0, 60, .inl (fa0 28))) :: ((r0 33), .inl (ca 0, 4, .inl g33)) :: rest) H := hP
          have hD : va_D A (((r0 0), .inr (9, [.ref (r0 1), .int (fi0 0), .int (fi0 1), .int (fi0 2), .int (fi0 3), .int (fi0 4), .int (fi0 5), .int (fi0 6), .int (fi0 7), .int (fi0 8), .ref (r0 2), .int (fi0 9), .ref (r0 3), .ref (r0 4), .ref (r0 5), .ref (r0 6), .ref (r0 7), .ref (r0 8), .ref (r0 9), .ref (r0 10), .ref (r0 11), .ref (r0 12), .ref (r0 13), .ref (r0 14), .ref (r0 15), .ref (r0 16), .ref (r0 17), .ref (r0 18), .ref (r0 19), .ref (r0 20), .ref (r0 21), .ref (r0 22), .ref (r0 23), .ref (r0 24), .ref (r0 25), .ref (r0 26), .ref (r0 27), .ref (r0 28), .ref (r0 29), .ref (r0 30), .ref (r0 31), .ref (r0 32), .int (fi0 10), .ref (r0 33)])) :: ((r0 1), .inl (ca 2, 600, .inl (fa0 0))) :: ((r0 2), .inl (ca 0, 48, .inl (fa0 1))) :: ((r0 3), .inl (ca 0, 60, .inl (fa0 2))) :: ((r0 4), .inl (ca 0, 60, .inl (fa0 3))) :: ((r0 5), .inl (ca 0, 60, .inl (fa0 4))) :: ((r0 6), .inl (ca 0, 60, .inl (fa0 5))) :: ((r0 7), .inl (ca 0, 60, .inl (fa0 6))) :: ((r0 8), .inl (ca 0, 60, .inl (fa0 7))) :: ((r0 9), .inl (ca 0, 180, .inl (fa0 8))) :: ((r0 10), .inl (ca 0, 60, .inl (fa0 9))) :: ((r0 11), .inl (ca 0, 180, .inl (fa0 10))) :: ((r0 12), .inl (ca 0, 180, .inl (fa0 11))) :: ((r0 13), .inl (ca 0, 180, .inl (fa0 12))) :: ((r0 14), .inl (ca 0, 180, .inl (fa0 13))) :: ((r0 15), .inl (ca 0, 180, .inl (fa0 14))) :: ((r0 16), .inl (ca 0, 180, .inl (fa0 15))) :: ((r0 17), .inl (ca 0, 180, .inl (fa0 16))) :: ((r0 18), .inl (ca 0, 180, .inl (fa0 17))) :: ((r0 19), .inl (ca 0, 180, .inl (fa0 18))) :: ((r0 20), .inl (ca 0, 180, .inl (fa0 19))) :: ((r0 21), .inl (ca 0, 3, .inl (fa0 20))) :: ((r0 22), .inl (ca 1, 3, .inr (.inl (fb0 0)))) :: ((r0 23), .inl (ca 1, 3, .inr (.inl (fb0 1)))) :: ((r0 24), .inl (ca 3, 3, .inl (fa0 21))) :: ((r0 25), .inl (ca 0, 3, .inl (fa0 22))) :: ((r0 26), .inl (ca 0, 3, .inl (fa0 23))) :: ((r0 27), .inl (ca 0, 810, .inl (fa0 24))) :: ((r0 28), .inl (ca 3, 810, .inl (fa0 25))) :: ((r0 29), .inl (ca 1, 810, .inr (.inl (fb0 2)))) :: ((r0 30), .inl (ca 0, 810, .inl (fa0 26))) :: ((r0 31), .inl (ca 0, 3, .inl (fa0 27))) :: ((r0 32), .inl (ca 0, 60, .inl (fa0 28))) :: ((r0 33), .inl (ca 0, 4, .inl g33)) :: rest) := hD
          refine lv_aload_n hx hb dX9_prices_62 rfl (lv_at hl 0 rfl) ?_
          refine va_get (D := D) (ci := 9) (v := .ref (r0 33)) (C := RX9) (T := TX9) (N := 44) hx hb hts inX9 hown hK hP 0 rfl rfl 43 (by decide) lk116 (fun _ h9 => h9) rfl dX9_prices_63 ?_
          refine lv_iconst (v := 2) hx hb dX9_prices_66 (by decide) ?_
          refine lv_iload_n hx hb dX9_prices_67 rfl (lv_at hl 3 rfl) ?_
          have hi34 : vp_in 2 4 := z_in (i := 2) (by decide) (by omega) (by omega)
          refine va_iast hx hb hK hP hD hS 33 0 rfl rfl hi34 dX9_prices_68 (fun H locs hP hD hS => ?_)
          generalize eg35 : upd g33 (2 : Int32).toNatClampNeg p3 = g35 at hP hD
          have hP : va_P D vwCl (((r0 0), .inr (9, [.ref (r0 1), .int (fi0 0), .int (fi0 1), .int (fi0 2), .int (fi0 3), .int (fi0 4), .int (fi0 5), .int (fi0 6), .int (fi0 7), .int (fi0 8), .ref (r0 2), .int (fi0 9), .ref (r0 3), .ref (r0 4), .ref (r0 5), .ref (r0 6), .ref (r0 7), .ref (r0 8), .ref (r0 9), .ref (r0 10), .ref (r0 11), .ref (r0 12), .ref (r0 13), .ref (r0 14), .ref (r0 15), .ref (r0 16), .ref (r0 17), .ref (r0 18), .ref (r0 19), .ref (r0 20), .ref (r0 21), .ref (r0 22), .ref (r0 23), .ref (r0 24), .ref (r0 25), .ref (r0 26), .ref (r0 27), .ref (r0 28), .ref (r0 29), .ref (r0 30), .ref (r0 31), .ref (r0 32), .int (fi0 10), .ref (r0 33)])) :: ((r0 1), .inl (ca 2, 600, .inl (fa0 0))) :: ((r0 2), .inl (ca 0, 48, .inl (fa0 1))) :: ((r0 3), .inl (ca 0, 60, .inl (fa0 2))) :: ((r0 4), .inl (ca 0, 60, .inl (fa0 3))) :: ((r0 5), .inl (ca 0, 60, .inl (fa0 4))) :: ((r0 6), .inl (ca 0, 60, .inl (fa0 5))) :: ((r0 7), .inl (ca 0, 60, .inl (fa0 6))) :: ((r0 8), .inl (ca 0, 60, .inl (fa0 7))) :: ((r0 9), .inl (ca 0, 180, .inl (fa0 8))) :: ((r0 10), .inl (ca 0, 60, .inl (fa0 9))) :: ((r0 11), .inl (ca 0, 180, .inl (fa0 10))) :: ((r0 12), .inl (ca 0, 180, .inl (fa0 11))) :: ((r0 13), .inl (ca 0, 180, .inl (fa0 12))) :: ((r0 14), .inl (ca 0, 180, .inl (fa0 13))) :: ((r0 15), .inl (ca 0, 180, .inl (fa0 14))) :: ((r0 16), .inl (ca 0, 180, .inl (fa0 15))) :: ((r0 17), .inl (ca 0, 180, .inl (fa0 16))) :: ((r0 18), .inl (ca 0, 180, .inl (fa0 17))) :: ((r0 19), .inl (ca 0, 180, .inl (fa0 18))) :: ((r0 20), .inl (ca 0, 180, .inl (fa0 19))) :: ((r0 21), .inl (ca 0, 3, .inl (fa0 20))) :: ((r0 22), .inl (ca 1, 3, .inr (.inl (fb0 0)))) :: ((r0 23), .inl (ca 1, 3, .inr (.inl (fb0 1)))) :: ((r0 24), .inl (ca 3, 3, .inl (fa0 21))) :: ((r0 25), .inl (ca 0, 3, .inl (fa0 22))) :: ((r0 26), .inl (ca 0, 3, .inl (fa0 23))) :: ((r0 27), .inl (ca 0, 810, .inl (fa0 24))) :: ((r0 28), .inl (ca 3, 810, .inl (fa0 25))) :: ((r0 29), .inl (ca 1, 810, .inr (.inl (fb0 2)))) :: ((r0 30), .inl (ca 0, 810, .inl (fa0 26))) :: ((r0 31), .inl (ca 0, 3, .inl (fa0 27))) :: ((r0 32), .inl (ca 0, 60, .inl (fa0 28))) :: ((r0 33), .inl (ca 0, 4, .inl g35)) :: rest) H := hP
          have hD : va_D A (((r0 0), .inr (9, [.ref (r0 1), .int (fi0 0), .int (fi0 1), .int (fi0 2), .int (fi0 3), .int (fi0 4), .int (fi0 5), .int (fi0 6), .int (fi0 7), .int (fi0 8), .ref (r0 2), .int (fi0 9), .ref (r0 3), .ref (r0 4), .ref (r0 5), .ref (r0 6), .ref (r0 7), .ref (r0 8), .ref (r0 9), .ref (r0 10), .ref (r0 11), .ref (r0 12), .ref (r0 13), .ref (r0 14), .ref (r0 15), .ref (r0 16), .ref (r0 17), .ref (r0 18), .ref (r0 19), .ref (r0 20), .ref (r0 21), .ref (r0 22), .ref (r0 23), .ref (r0 24), .ref (r0 25), .ref (r0 26), .ref (r0 27), .ref (r0 28), .ref (r0 29), .ref (r0 30), .ref (r0 31), .ref (r0 32), .int (fi0 10), .ref (r0 33)])) :: ((r0 1), .inl (ca 2, 600, .inl (fa0 0))) :: ((r0 2), .inl (ca 0, 48, .inl (fa0 1))) :: ((r0 3), .inl (ca 0, 60, .inl (fa0 2))) :: ((r0 4), .inl (ca 0, 60, .inl (fa0 3))) :: ((r0 5), .inl (ca 0, 60, .inl (fa0 4))) :: ((r0 6), .inl (ca 0, 60, .inl (fa0 5))) :: ((r0 7), .inl (ca 0, 60, .inl (fa0 6))) :: ((r0 8), .inl (ca 0, 60, .inl (fa0 7))) :: ((r0 9), .inl (ca 0, 180, .inl (fa0 8))) :: ((r0 10), .inl (ca 0, 60, .inl (fa0 9))) :: ((r0 11), .inl (ca 0, 180, .inl (fa0 10))) :: ((r0 12), .inl (ca 0, 180, .inl (fa0 11))) :: ((r0 13), .inl (ca 0, 180, .inl (fa0 12))) :: ((r0 14), .inl (ca 0, 180, .inl (fa0 13))) :: ((r0 15), .inl (ca 0, 180, .inl (fa0 14))) :: ((r0 16), .inl (ca 0, 180, .inl (fa0 15))) :: ((r0 17), .inl (ca 0, 180, .inl (fa0 16))) :: ((r0 18), .inl (ca 0, 180, .inl (fa0 17))) :: ((r0 19), .inl (ca 0, 180, .inl (fa0 18))) :: ((r0 20), .inl (ca 0, 180, .inl (fa0 19))) :: ((r0 21), .inl (ca 0, 3, .inl (fa0 20))) :: ((r0 22), .inl (ca 1, 3, .inr (.inl (fb0 0)))) :: ((r0 23), .inl (ca 1, 3, .inr (.inl (fb0 1)))) :: ((r0 24), .inl (ca 3, 3, .inl (fa0 21))) :: ((r0 25), .inl (ca 0, 3, .inl (fa0 22))) :: ((r0 26), .inl (ca 0, 3, .inl (fa0 23))) :: ((r0 27), .inl (ca 0, 810, .inl (fa0 24))) :: ((r0 28), .inl (ca 3, 810, .inl (fa0 25))) :: ((r0 29), .inl (ca 1, 810, .inr (.inl (fb0 2)))) :: ((r0 30), .inl (ca 0, 810, .inl (fa0 26))) :: ((r0 31), .inl (ca 0, 3, .inl (fa0 27))) :: ((r0 32), .inl (ca 0, 60, .inl (fa0 28))) :: ((r0 33), .inl (ca 0, 4, .inl g35)) :: rest) := hD
          refine lv_aload_n hx hb dX9_prices_69 rfl (lv_at hl 0 rfl) ?_
          refine va_get (D := D) (ci := 9) (v := .ref (r0 33)) (C := RX9) (T := TX9) (N := 44) hx hb hts inX9 hown hK hP 0 rfl rfl 43 (by decide) lk116 (fun _ h9 => h9) rfl dX9_prices_70 ?_
          refine lv_iconst (v := 3) hx hb dX9_prices_73 (by decide) ?_
          refine lv_iload hx hb dX9_prices_74 (lv_at hl 4 rfl) ?_
          have hi36 : vp_in 3 4 := z_in (i := 3) (by decide) (by omega) (by omega)
          refine va_iast hx hb hK hP hD hS 33 0 rfl rfl hi36 dX9_prices_76 (fun H locs hP hD hS => ?_)
          generalize eg37 : upd g35 (3 : Int32).toNatClampNeg p4 = g37 at hP hD
          have hP : va_P D vwCl (((r0 0), .inr (9, [.ref (r0 1), .int (fi0 0), .int (fi0 1), .int (fi0 2), .int (fi0 3), .int (fi0 4), .int (fi0 5), .int (fi0 6), .int (fi0 7), .int (fi0 8), .ref (r0 2), .int (fi0 9), .ref (r0 3), .ref (r0 4), .ref (r0 5), .ref (r0 6), .ref (r0 7), .ref (r0 8), .ref (r0 9), .ref (r0 10), .ref (r0 11), .ref (r0 12), .ref (r0 13), .ref (r0 14), .ref (r0 15), .ref (r0 16), .ref (r0 17), .ref (r0 18), .ref (r0 19), .ref (r0 20), .ref (r0 21), .ref (r0 22), .ref (r0 23), .ref (r0 24), .ref (r0 25), .ref (r0 26), .ref (r0 27), .ref (r0 28), .ref (r0 29), .ref (r0 30), .ref (r0 31), .ref (r0 32), .int (fi0 10), .ref (r0 33)])) :: ((r0 1), .inl (ca 2, 600, .inl (fa0 0))) :: ((r0 2), .inl (ca 0, 48, .inl (fa0 1))) :: ((r0 3), .inl (ca 0, 60, .inl (fa0 2))) :: ((r0 4), .inl (ca 0, 60, .inl (fa0 3))) :: ((r0 5), .inl (ca 0, 60, .inl (fa0 4))) :: ((r0 6), .inl (ca 0, 60, .inl (fa0 5))) :: ((r0 7), .inl (ca 0, 60, .inl (fa0 6))) :: ((r0 8), .inl (ca 0, 60, .inl (fa0 7))) :: ((r0 9), .inl (ca 0, 180, .inl (fa0 8))) :: ((r0 10), .inl (ca 0, 60, .inl (fa0 9))) :: ((r0 11), .inl (ca 0, 180, .inl (fa0 10))) :: ((r0 12), .inl (ca 0, 180, .inl (fa0 11))) :: ((r0 13), .inl (ca 0, 180, .inl (fa0 12))) :: ((r0 14), .inl (ca 0, 180, .inl (fa0 13))) :: ((r0 15), .inl (ca 0, 180, .inl (fa0 14))) :: ((r0 16), .inl (ca 0, 180, .inl (fa0 15))) :: ((r0 17), .inl (ca 0, 180, .inl (fa0 16))) :: ((r0 18), .inl (ca 0, 180, .inl (fa0 17))) :: ((r0 19), .inl (ca 0, 180, .inl (fa0 18))) :: ((r0 20), .inl (ca 0, 180, .inl (fa0 19))) :: ((r0 21), .inl (ca 0, 3, .inl (fa0 20))) :: ((r0 22), .inl (ca 1, 3, .inr (.inl (fb0 0)))) :: ((r0 23), .inl (ca 1, 3, .inr (.inl (fb0 1)))) :: ((r0 24), .inl (ca 3, 3, .inl (fa0 21))) :: ((r0 25), .inl (ca 0, 3, .inl (fa0 22))) :: ((r0 26), .inl (ca 0, 3, .inl (fa0 23))) :: ((r0 27), .inl (ca 0, 810, .inl (fa0 24))) :: ((r0 28), .inl (ca 3, 810, .inl (fa0 25))) :: ((r0 29), .inl (ca 1, 810, .inr (.inl (fb0 2)))) :: ((r0 30), .inl (ca 0, 810, .inl (fa0 26))) :: ((r0 31), .inl (ca 0, 3, .inl (fa0 27))) :: ((r0 32), .inl (ca 0, 60, .inl (fa0 28))) :: ((r0 33), .inl (ca 0, 4, .inl g37)) :: rest) H := hP
          have hD : va_D A (((r0 0), .inr (9, [.ref (r0 1), .int (fi0 0), .int (fi0 1), .int (fi0 2), .int (fi0 3), .int (fi0 4), .int (fi0 5), .int (fi0 6), .int (fi0 7), .int (fi0 8), .ref (r0 2), .int (fi0 9), .ref (r0 3), .ref (r0 4), .ref (r0 5), .ref (r0 6), .ref (r0 7), .ref (r0 8), .ref (r0 9), .ref (r0 10), .ref (r0 11), .ref (r0 12), .ref (r0 13), .ref (r0 14), .ref (r0 15), .ref (r0 16), .ref (r0 17), .ref (r0 18), .ref (r0 19), .ref (r0 20), .ref (r0 21), .ref (r0 22), .ref (r0 23), .ref (r0 24), .ref (r0 25), .ref (r0 26), .ref (r0 27), .ref (r0 28), .ref (r0 29), .ref (r0 30), .ref (r0 31), .ref (r0 32), .int (fi0 10), .ref (r0 33)])) :: ((r0 1), .inl (ca 2, 600, .inl (fa0 0))) :: ((r0 2), .inl (ca 0, 48, .inl (fa0 1))) :: ((r0 3), .inl (ca 0, 60, .inl (fa0 2))) :: ((r0 4), .inl (ca 0, 60, .inl (fa0 3))) :: ((r0 5), .inl (ca 0, 60, .inl (fa0 4))) :: ((r0 6), .inl (ca 0, 60, .inl (fa0 5))) :: ((r0 7), .inl (ca 0, 60, .inl (fa0 6))) :: ((r0 8), .inl (ca 0, 60, .inl (fa0 7))) :: ((r0 9), .inl (ca 0, 180, .inl (fa0 8))) :: ((r0 10), .inl (ca 0, 60, .inl (fa0 9))) :: ((r0 11), .inl (ca 0, 180, .inl (fa0 10))) :: ((r0 12), .inl (ca 0, 180, .inl (fa0 11))) :: ((r0 13), .inl (ca 0, 180, .inl (fa0 12))) :: ((r0 14), .inl (ca 0, 180, .inl (fa0 13))) :: ((r0 15), .inl (ca 0, 180, .inl (fa0 14))) :: ((r0 16), .inl (ca 0, 180, .inl (fa0 15))) :: ((r0 17), .inl (ca 0, 180, .inl (fa0 16))) :: ((r0 18), .inl (ca 0, 180, .inl (fa0 17))) :: ((r0 19), .inl (ca 0, 180, .inl (fa0 18))) :: ((r0 20), .inl (ca 0, 180, .inl (fa0 19))) :: ((r0 21), .inl (ca 0, 3, .inl (fa0 20))) :: ((r0 22), .inl (ca 1, 3, .inr (.inl (fb0 0)))) :: ((r0 23), .inl (ca 1, 3, .inr (.inl (fb0 1)))) :: ((r0 24), .inl (ca 3, 3, .inl (fa0 21))) :: ((r0 25), .inl (ca 0, 3, .inl (fa0 22))) :: ((r0 26), .inl (ca 0, 3, .inl (fa0 23))) :: ((r0 27), .inl (ca 0, 810, .inl (fa0 24))) :: ((r0 28), .inl (ca 3, 810, .inl (fa0 25))) :: ((r0 29), .inl (ca 1, 810, .inr (.inl (fb0 2)))) :: ((r0 30), .inl (ca 0, 810, .inl (fa0 26))) :: ((r0 31), .inl (ca 0, 3, .inl (fa0 27))) :: ((r0 32), .inl (ca 0, 60, .inl (fa0 28))) :: ((r0 33), .inl (ca 0, 4, .inl g37)) :: rest) := hD
          refine lv_iconst (v := 1) hx hb dX9_prices_77 (by decide) ?_
          subst hQ9
          refine lv_topi (fun t38 et38 => ?_)
          have ht38 : t38.toInt = 1 := by rw [et38]; decide
          have ho39 : (0 ≤ (fi0 0).toInt ∧ (fi0 0).toInt ≤ 600) ∧ (0 ≤ (fi0 1).toInt ∧ (fi0 1).toInt ≤ 600) ∧ (0 ≤ (fi0 5).toInt ∧ (fi0 5).toInt ≤ 600) ∧ (0 ≤ (fi0 9).toInt ∧ (fi0 9).toInt ≤ 60) ∧ z_rng (-1) 59 (fa0 6) ∧ z_rng 0 59 (fa0 8) ∧ z_rng 0 3 (fa0 9) ∧ z_rng 0 269 (fa0 23) ∧ z_rng 0 5 (fa0 27) ∧ z_rng 0 59 (fa0 28) ∧ ((fi0 2).toInt = 1 → 0 ≤ (fi0 3).toInt) ∧ zOkR (fa0 1) (fa0 27) := ⟨⟨by omega, by omega⟩, ⟨by omega, by omega⟩, ⟨by omega, by omega⟩, ⟨by omega, by omega⟩, hv0a6, hv0a8, hv0a9, hv0a23, hv0a27, hv0a28, by omega, hv0y0⟩
          have hq40 : ((0 ≤ p1.toInt ∧ p1.toInt ≤ 1000 ∧ 0 ≤ p2.toInt ∧ p2.toInt ≤ 1000 ∧ 0 ≤ p3.toInt ∧ p3.toInt ≤ 1000 ∧ 0 ≤ p4.toInt ∧ p4.toInt ≤ 1000) ∧ t38.toInt = 1) ∨ (¬ (0 ≤ p1.toInt ∧ p1.toInt ≤ 1000 ∧ 0 ≤ p2.toInt ∧ p2.toInt ≤ 1000 ∧ 0 ≤ p3.toInt ∧ p3.toInt ≤ 1000 ∧ 0 ≤ p4.toInt ∧ p4.toInt ≤ 1000) ∧ t38.toInt = -2) := by omega
          exact W.iret (v := t38) hx hb hr (fun t ht hW => ⟨⟨t38, ((zl 0 [(fi0 0), (fi0 1), (fi0 2), (fi0 3), (fi0 4), (fi0 5), (fi0 6), (fi0 7), (fi0 8), (fi0 9), (fi0 10)]), (zl 0 []), (zl (fun _ => 0) [(fa0 0), (fa0 1), (fa0 2), (fa0 3), (fa0 4), (fa0 5), (fa0 6), (fa0 7), (fa0 8), (fa0 9), (fa0 10), (fa0 11), (fa0 12), (fa0 13), (fa0 14), (fa0 15), (fa0 16), (fa0 17), (fa0 18), (fa0 19), (fa0 20), (fa0 21), (fa0 22), (fa0 23), (fa0 24), (fa0 25), (fa0 26), (fa0 27), (fa0 28), g37]), (zl (fun _ => 0) [(fb0 0), (fb0 1), (fb0 2)])), rfl, ⟨ho39, hq40⟩, ⟨by rw [ht]; exact hP, hD⟩⟩, hS.F ht⟩) hS.2.2 dX9_prices_78
        ·
          have c29 := z_eq (i := t26.toInt) (j := 0) rfl (by decide) c29
          refine lv_bipush (v := (-2)) hx hb dX9_prices_45 (by decide) ?_
          subst hQ9
          refine lv_topi (fun t41 et41 => ?_)
          have ht41 : t41.toInt = (-2) := by rw [et41]; decide
          have ho42 : (0 ≤ (fi0 0).toInt ∧ (fi0 0).toInt ≤ 600) ∧ (0 ≤ (fi0 1).toInt ∧ (fi0 1).toInt ≤ 600) ∧ (0 ≤ (fi0 5).toInt ∧ (fi0 5).toInt ≤ 600) ∧ (0 ≤ (fi0 9).toInt ∧ (fi0 9).toInt ≤ 60) ∧ z_rng (-1) 59 (fa0 6) ∧ z_rng 0 59 (fa0 8) ∧ z_rng 0 3 (fa0 9) ∧ z_rng 0 269 (fa0 23) ∧ z_rng 0 5 (fa0 27) ∧ z_rng 0 59 (fa0 28) ∧ ((fi0 2).toInt = 1 → 0 ≤ (fi0 3).toInt) ∧ zOkR (fa0 1) (fa0 27) := ⟨⟨by omega, by omega⟩, ⟨by omega, by omega⟩, ⟨by omega, by omega⟩, ⟨by omega, by omega⟩, hv0a6, hv0a8, hv0a9, hv0a23, hv0a27, hv0a28, by omega, hv0y0⟩
          have hq43 : ((0 ≤ p1.toInt ∧ p1.toInt ≤ 1000 ∧ 0 ≤ p2.toInt ∧ p2.toInt ≤ 1000 ∧ 0 ≤ p3.toInt ∧ p3.toInt ≤ 1000 ∧ 0 ≤ p4.toInt ∧ p4.toInt ≤ 1000) ∧ t41.toInt = 1) ∨ (¬ (0 ≤ p1.toInt ∧ p1.toInt ≤ 1000 ∧ 0 ≤ p2.toInt ∧ p2.toInt ≤ 1000 ∧ 0 ≤ p3.toInt ∧ p3.toInt ≤ 1000 ∧ 0 ≤ p4.toInt ∧ p4.toInt ≤ 1000) ∧ t41.toInt = -2) := by omega
          exact W.iret (v := t41) hx hb hr (fun t ht hW => ⟨⟨t41, ((zl 0 [(fi0 0), (fi0 1), (fi0 2), (fi0 3), (fi0 4), (fi0 5), (fi0 6), (fi0 7), (fi0 8), (fi0 9), (fi0 10)]), (zl 0 []), (zl (fun _ => 0) [(fa0 0), (fa0 1), (fa0 2), (fa0 3), (fa0 4), (fa0 5), (fa0 6), (fa0 7), (fa0 8), (fa0 9), (fa0 10), (fa0 11), (fa0 12), (fa0 13), (fa0 14), (fa0 15), (fa0 16), (fa0 17), (fa0 18), (fa0 19), (fa0 20), (fa0 21), (fa0 22), (fa0 23), (fa0 24), (fa0 25), (fa0 26), (fa0 27), (fa0 28), (fa0 29)]), (zl (fun _ => 0) [(fb0 0), (fb0 1), (fb0 2)])), rfl, ⟨ho42, hq43⟩, ⟨by rw [ht]; exact hP, hD⟩⟩, hS.F ht⟩) hS.2.2 dX9_prices_47
