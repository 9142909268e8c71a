def zUs (i : Nat) : Int32 := ([20, 4, 2, 3, 0, 1, -1, 1] : List Int32).getD i 0
def zWn (n : Nat) (f : Nat → Int32) : Prop := ∀ j : Nat, j < n → f j = zUs (j % 8)
theorem zWn_c {w : Nat} {t : Int32} {f g : Nat → Int32} (h : zWn (8 * w) f) (ht : t.toNatClampNeg = 8 * w) (e : va_cpy (fun j => ([20, 4, 2, 3, 0, 1, -1, 1] : List Int32).getD j 0) f (0 : Int32).toNatClampNeg t.toNatClampNeg (8 : Int32).toNatClampNeg = g) : zWn (8 * (w + 1)) g := by
  intro j hj
  rw [← e, ht, show ((0 : Int32).toNatClampNeg) = 0 from by decide, show ((8 : Int32).toNatClampNeg) = 8 from by decide]
  unfold va_cpy
  by_cases c : 8 * w ≤ j ∧ j < 8 * w + 8
  · rw [if_pos c]
    unfold zUs
    rw [show 0 + (j - 8 * w) = j % 8 by omega]
  · rw [if_neg c]
    exact h j (by omega)
theorem zWn_s {n k : Nat} {x : Int32} {f g : Nat → Int32} (h : zWn n f) (e : upd f k x = g) (hk : k = n) (hx : x = zUs (n % 8)) : zWn (n + 1) g := by
  intro j hj
  rw [← e]
  unfold upd
  by_cases c : j = k
  · rw [if_pos c, hx, c, hk]
  · rw [if_neg c]
    exact h j (by omega)

set_option maxHeartbeats 8000000 in
set_option maxRecDepth 100000 in
theorem c_X9_plain_R (l : Launch) (D : va_G) (ca : Nat → ClassId) (sa : Nat → Nat) (A : Nat → Prop) (rest : va_W) (p0 : Int32) (hpre0 : 0 ≤ p0.toInt ∧ p0.toInt ≤ 7) : Met l yX9_plain wsX9_plain ({ frames := 0, cells := 0, slots := 0, locals := 0 }) (va_Pc [.int p0] (zPre D ca sa A (rest))) (va_Qi (fun (r : Int32) (u : Unit) => ((p0.toInt = 0 → 2 ≤ r.toInt ∧ r.toInt ≤ 100) ∧ (p0.toInt = 6 → r.toInt = -1)) ∧ (r = zUs p0.toNatClampNeg)) (fun u t => zPost D A (rest) t) A) 0 0 A := by
  refine Met.ofW (cc := cX9_plain) (maxL := 1) (ret := (some .int)) (by decide) rfl ?_
  intro p e s m args below meth c s₁ B hml hv9
  obtain ⟨rfl, hE, hP, hD⟩ := hv9
  have hx := B.exec
  have hb := B.bytes
  have hr := B.returns
  have hts := atoms_spec (ws := wsX9_plain) B.pre
  have hown : s.vm.findClass RX9 = some m.cls := findClass_of_methodNamed B.named
  have hlocks := B.notSynchronized
  have hK := hE.1
  have hF : CallFix p m c cX9_plain 1 s _ wsX9_plain RX9 := ⟨hx, hb, hml, hown, hts⟩
  have hS : va_S A s.heap s.heap [] := va_S.rf
  generalize hHe : s.heap = H at hP
  have hS : va_S A s.heap H [] := by rw [← hHe]; exact hS
  have hl := lv_entry ([.int p0]) (n := 1) (Nat.le_of_ble_eq_true rfl)
  rw [lg_entry_eq]
  generalize (lg_sl ([.int p0]) ++ List.replicate (1 - (lg_sl ([.int p0])).length) Slot.unset).toArray = ls at hl ⊢
  have hl : lv_has ls 1 [(0, .int p0)] := hl
  generalize hQ9 : MQ below _ _ s 0 0 A = Q9
  refine lv_iload_n hx hb dX9_plain_0 rfl (lv_at hl 0 rfl) ?_
  refine lv_if_ne (tgt := 9) hx hb dX9_plain_1 (by decide) (fun c1 => ?_) (fun c1 => ?_)
  ·
    have c1 := z_ne (i := p0.toInt) (j := 0) rfl (by decide) c1
    refine lv_iload_n hx hb dX9_plain_9 rfl (lv_at hl 0 rfl) ?_
    refine lv_iconst (v := 1) hx hb dX9_plain_10 (by decide) ?_
    refine lv_icmp_ne (tgt := 18) hx hb dX9_plain_11 (by decide) (fun c2 => ?_) (fun c2 => ?_)
    ·
      have c2 := z_ne (i := p0.toInt) (j := 1) rfl (by decide) c2
      refine lv_iload_n hx hb dX9_plain_18 rfl (lv_at hl 0 rfl) ?_
      refine lv_iconst (v := 2) hx hb dX9_plain_19 (by decide) ?_
      refine lv_icmp_ne (tgt := 27) hx hb dX9_plain_20 (by decide) (fun c3 => ?_) (fun c3 => ?_)
      ·
        have c3 := z_ne (i := p0.toInt) (j := 2) rfl (by decide) c3
        refine lv_iload_n hx hb dX9_plain_27 rfl (lv_at hl 0 rfl) ?_
        refine lv_iconst (v := 3) hx hb dX9_plain_28 (by decide) ?_
        refine lv_icmp_ne (tgt := 36) hx hb dX9_plain_29 (by decide) (fun c4 => ?_) (fun c4 => ?_)
        ·
          have c4 := z_ne (i := p0.toInt) (j := 3) rfl (by decide) c4
          refine lv_iload_n hx hb dX9_plain_36 rfl (lv_at hl 0 rfl) ?_
          refine lv_iconst (v := 4) hx hb dX9_plain_37 (by decide) ?_
          refine lv_icmp_ne (tgt := 45) hx hb dX9_plain_38 (by decide) (fun c5 => ?_) (fun c5 => ?_)
          ·
            have c5 := z_ne (i := p0.toInt) (j := 4) rfl (by decide) c5
            refine lv_iload_n hx hb dX9_plain_45 rfl (lv_at hl 0 rfl) ?_
            refine lv_iconst (v := 5) hx hb dX9_plain_46 (by decide) ?_
            refine lv_icmp_ne (tgt := 54) hx hb dX9_plain_47 (by decide) (fun c6 => ?_) (fun c6 => ?_)
            ·
              have c6 := z_ne (i := p0.toInt) (j := 5) rfl (by decide) c6
              refine lv_iload_n hx hb dX9_plain_54 rfl (lv_at hl 0 rfl) ?_
              refine lv_bipush (v := 6) hx hb dX9_plain_55 (by decide) ?_
              refine lv_icmp_ne (tgt := 64) hx hb dX9_plain_57 (by decide) (fun c7 => ?_) (fun c7 => ?_)
              ·
                have c7 := z_ne (i := p0.toInt) (j := 6) rfl (by decide) c7
                refine lv_iconst (v := 1) hx hb dX9_plain_64 (by decide) ?_
                rw [← hQ9]
                refine lv_topi (fun t8 et8 => ?_)
                have ht8 : t8.toInt = 1 := by rw [et8]; decide
                have hq9 : (p0.toInt = 0 → 2 ≤ t8.toInt ∧ t8.toInt ≤ 100) ∧ (p0.toInt = 6 → t8.toInt = -1) := by omega
                have hq10 : t8 = zUs p0.toNatClampNeg := by rw [et8, z_cl]; rcases (show p0.toInt = 0 ∨ p0.toInt = 1 ∨ p0.toInt = 2 ∨ p0.toInt = 3 ∨ p0.toInt = 4 ∨ p0.toInt = 5 ∨ p0.toInt = 6 ∨ p0.toInt = 7 by omega) with q9 | q9 | q9 | q9 | q9 | q9 | q9 | q9 <;> first | (exfalso; omega) | (rw [q9]; rfl)
                exact W.iret (v := t8) hx hb hr (fun t ht hW => ⟨⟨t8, (), rfl, ⟨hq9, hq10⟩, ⟨by rw [ht]; exact hP, hD⟩⟩, hS.F ht⟩) hS.2.2 dX9_plain_65
              ·
                have c7 := z_eq (i := p0.toInt) (j := 6) rfl (by decide) c7
                refine lv_iconst (v := (-1)) hx hb dX9_plain_60 (by decide) ?_
                refine lv_goto (tgt := 65) hx hb dX9_plain_61 (by decide) ?_
                rw [← hQ9]
                refine lv_topi (fun t11 et11 => ?_)
                have ht11 : t11.toInt = (-1) := by rw [et11]; decide
                have hq12 : (p0.toInt = 0 → 2 ≤ t11.toInt ∧ t11.toInt ≤ 100) ∧ (p0.toInt = 6 → t11.toInt = -1) := by omega
                have hq13 : t11 = zUs p0.toNatClampNeg := by rw [et11, z_cl]; rcases (show p0.toInt = 0 ∨ p0.toInt = 1 ∨ p0.toInt = 2 ∨ p0.toInt = 3 ∨ p0.toInt = 4 ∨ p0.toInt = 5 ∨ p0.toInt = 6 ∨ p0.toInt = 7 by omega) with q9 | q9 | q9 | q9 | q9 | q9 | q9 | q9 <;> first | (exfalso; omega) | (rw [q9]; rfl)
                exact W.iret (v := t11) hx hb hr (fun t ht hW => ⟨⟨t11, (), rfl, ⟨hq12, hq13⟩, ⟨by rw [ht]; exact hP, hD⟩⟩, hS.F ht⟩) hS.2.2 dX9_plain_65
            ·
              have c6 := z_eq (i := p0.toInt) (j := 5) rfl (by decide) c6
              refine lv_iconst (v := 1) hx hb dX9_plain_50 (by decide) ?_
              refine lv_goto (tgt := 65) hx hb dX9_plain_51 (by decide) ?_
              rw [← hQ9]
              refine lv_topi (fun t14 et14 => ?_)
              have ht14 : t14.toInt = 1 := by rw [et14]; decide
              have hq15 : (p0.toInt = 0 → 2 ≤ t14.toInt ∧ t14.toInt ≤ 100) ∧ (p0.toInt = 6 → t14.toInt = -1) := by omega
              have hq16 : t14 = zUs p0.toNatClampNeg := by rw [et14, z_cl]; rcases (show p0.toInt = 0 ∨ p0.toInt = 1 ∨ p0.toInt = 2 ∨ p0.toInt = 3 ∨ p0.toInt = 4 ∨ p0.toInt = 5 ∨ p0.toInt = 6 ∨ p0.toInt = 7 by omega) with q9 | q9 | q9 | q9 | q9 | q9 | q9 | q9 <;> first | (exfalso; omega) | (rw [q9]; rfl)
              exact W.iret (v := t14) hx hb hr (fun t ht hW => ⟨⟨t14, (), rfl, ⟨hq15, hq16⟩, ⟨by rw [ht]; exact hP, hD⟩⟩, hS.F ht⟩) hS.2.2 dX9_plain_65
          ·
            have c5 := z_eq (i := p0.toInt) (j := 4) rfl (by decide) c5
            refine lv_iconst (v := 0) hx hb dX9_plain_41 (by decide) ?_
            refine lv_goto (tgt := 65) hx hb dX9_plain_42 (by decide) ?_
            rw [← hQ9]
            refine lv_topi (fun t17 et17 => ?_)
            have ht17 : t17.toInt = 0 := by rw [et17]; decide
            have hq18 : (p0.toInt = 0 → 2 ≤ t17.toInt ∧ t17.toInt ≤ 100) ∧ (p0.toInt = 6 → t17.toInt = -1) := by omega
            have hq19 : t17 = zUs p0.toNatClampNeg := by rw [et17, z_cl]; rcases (show p0.toInt = 0 ∨ p0.toInt = 1 ∨ p0.toInt = 2 ∨ p0.toInt = 3 ∨ p0.toInt = 4 ∨ p0.toInt = 5 ∨ p0.toInt = 6 ∨ p0.toInt = 7 by omega) with q9 | q9 | q9 | q9 | q9 | q9 | q9 | q9 <;> first | (exfalso; omega) | (rw [q9]; rfl)
            exact W.iret (v := t17) hx hb hr (fun t ht hW => ⟨⟨t17, (), rfl, ⟨hq18, hq19⟩, ⟨by rw [ht]; exact hP, hD⟩⟩, hS.F ht⟩) hS.2.2 dX9_plain_65
        ·
          have c4 := z_eq (i := p0.toInt) (j := 3) rfl (by decide) c4
          refine lv_iconst (v := 3) hx hb dX9_plain_32 (by decide) ?_
          refine lv_goto (tgt := 65) hx hb dX9_plain_33 (by decide) ?_
          rw [← hQ9]
          refine lv_topi (fun t20 et20 => ?_)
          have ht20 : t20.toInt = 3 := by rw [et20]; decide
          have hq21 : (p0.toInt = 0 → 2 ≤ t20.toInt ∧ t20.toInt ≤ 100) ∧ (p0.toInt = 6 → t20.toInt = -1) := by omega
          have hq22 : t20 = zUs p0.toNatClampNeg := by rw [et20, z_cl]; rcases (show p0.toInt = 0 ∨ p0.toInt = 1 ∨ p0.toInt = 2 ∨ p0.toInt = 3 ∨ p0.toInt = 4 ∨ p0.toInt = 5 ∨ p0.toInt = 6 ∨ p0.toInt = 7 by omega) with q9 | q9 | q9 | q9 | q9 | q9 | q9 | q9 <;> first | (exfalso; omega) | (rw [q9]; rfl)
          exact W.iret (v := t20) hx hb hr (fun t ht hW => ⟨⟨t20, (), rfl, ⟨hq21, hq22⟩, ⟨by rw [ht]; exact hP, hD⟩⟩, hS.F ht⟩) hS.2.2 dX9_plain_65
      ·
        have c3 := z_eq (i := p0.toInt) (j := 2) rfl (by decide) c3
        refine lv_iconst (v := 2) hx hb dX9_plain_23 (by decide) ?_
        refine lv_goto (tgt := 65) hx hb dX9_plain_24 (by decide) ?_
        rw [← hQ9]
        refine lv_topi (fun t23 et23 => ?_)
        have ht23 : t23.toInt = 2 := by rw [et23]; decide
        have hq24 : (p0.toInt = 0 → 2 ≤ t23.toInt ∧ t23.toInt ≤ 100) ∧ (p0.toInt = 6 → t23.toInt = -1) := by omega
        have hq25 : t23 = zUs p0.toNatClampNeg := by rw [et23, z_cl]; rcases (show p0.toInt = 0 ∨ p0.toInt = 1 ∨ p0.toInt = 2 ∨ p0.toInt = 3 ∨ p0.toInt = 4 ∨ p0.toInt = 5 ∨ p0.toInt = 6 ∨ p0.toInt = 7 by omega) with q9 | q9 | q9 | q9 | q9 | q9 | q9 | q9 <;> first | (exfalso; omega) | (rw [q9]; rfl)
        exact W.iret (v := t23) hx hb hr (fun t ht hW => ⟨⟨t23, (), rfl, ⟨hq24, hq25⟩, ⟨by rw [ht]; exact hP, hD⟩⟩, hS.F ht⟩) hS.2.2 dX9_plain_65
    ·
      have c2 := z_eq (i := p0.toInt) (j := 1) rfl (by decide) c2
      refine lv_iconst (v := 4) hx hb dX9_plain_14 (by decide) ?_
      refine lv_goto (tgt := 65) hx hb dX9_plain_15 (by decide) ?_
      rw [← hQ9]
      refine lv_topi (fun t26 et26 => ?_)
      have ht26 : t26.toInt = 4 := by rw [et26]; decide
      have hq27 : (p0.toInt = 0 → 2 ≤ t26.toInt ∧ t26.toInt ≤ 100) ∧ (p0.toInt = 6 → t26.toInt = -1) := by omega
      have hq28 : t26 = zUs p0.toNatClampNeg := by rw [et26, z_cl]; rcases (show p0.toInt = 0 ∨ p0.toInt = 1 ∨ p0.toInt = 2 ∨ p0.toInt = 3 ∨ p0.toInt = 4 ∨ p0.toInt = 5 ∨ p0.toInt = 6 ∨ p0.toInt = 7 by omega) with q9 | q9 | q9 | q9 | q9 | q9 | q9 | q9 <;> first | (exfalso; omega) | (rw [q9]; rfl)
      exact W.iret (v := t26) hx hb hr (fun t ht hW => ⟨⟨t26, (), rfl, ⟨hq27, hq28⟩, ⟨by rw [ht]; exact hP, hD⟩⟩, hS.F ht⟩) hS.2.2 dX9_plain_65
  ·
    have c1 := z_eq (i := p0.toInt) (j := 0) rfl (by decide) c1
    refine lv_bipush (v := 20) hx hb dX9_plain_4 (by decide) ?_
    refine lv_goto (tgt := 65) hx hb dX9_plain_6 (by decide) ?_
    rw [← hQ9]
    refine lv_topi (fun t29 et29 => ?_)
    have ht29 : t29.toInt = 20 := by rw [et29]; decide
    have hq30 : (p0.toInt = 0 → 2 ≤ t29.toInt ∧ t29.toInt ≤ 100) ∧ (p0.toInt = 6 → t29.toInt = -1) := by omega
    have hq31 : t29 = zUs p0.toNatClampNeg := by rw [et29, z_cl]; rcases (show p0.toInt = 0 ∨ p0.toInt = 1 ∨ p0.toInt = 2 ∨ p0.toInt = 3 ∨ p0.toInt = 4 ∨ p0.toInt = 5 ∨ p0.toInt = 6 ∨ p0.toInt = 7 by omega) with q9 | q9 | q9 | q9 | q9 | q9 | q9 | q9 <;> first | (exfalso; omega) | (rw [q9]; rfl)
    exact W.iret (v := t29) hx hb hr (fun t ht hW => ⟨⟨t29, (), rfl, ⟨hq30, hq31⟩, ⟨by rw [ht]; exact hP, hD⟩⟩, hS.F ht⟩) hS.2.2 dX9_plain_65
