def w_TAPE (ca : Nat → ClassId) (r : Nat → Nat) (fi : Nat → Int32) (fl : Nat → Int64) (fa : Nat → Nat → Int32) (fb : Nat → Nat → Int64) (tl : va_W) : va_W := ((r 0), .inr (7, [.ref (r 1), .int (fi 0)])) :: ((r 1), .inl (ca 2, 600, .inl (fa 0))) :: tl
def Ok_TAPE (fi : Nat → Int32) (fa : Nat → Nat → Int32) : Prop := (0 ≤ (fi 0).toInt ∧ (fi 0).toInt ≤ 600)

def w_RDR (ca : Nat → ClassId) (r : Nat → Nat) (fi : Nat → Int32) (fl : Nat → Int64) (fa : Nat → Nat → Int32) (fb : Nat → Nat → Int64) (tl : va_W) : va_W := ((r 0), .inr (6, [.ref (r 1), .int (fi 0), .int (fi 1), .int (fi 2), .int (fi 3), .int (fi 4), .int (fi 5)])) :: ((r 1), .inl (ca 0, 8, .inl (fa 0))) :: tl
def Ok_RDR (fi : Nat → Int32) (fa : Nat → Nat → Int32) : Prop := (0 ≤ (fi 3).toInt ∧ (fi 3).toInt ≤ 7) ∧ ((fi 2).toInt = 1 → (fi 3).toInt ≤ 6)

def w_PRC (ca : Nat → ClassId) (r : Nat → Nat) (fi : Nat → Int32) (fl : Nat → Int64) (fa : Nat → Nat → Int32) (fb : Nat → Nat → Int64) (tl : va_W) : va_W := ((r 0), .inr (5, [.int (fi 0), .int (fi 1), .int (fi 2), .int (fi 3)])) :: tl
def Ok_PRC (fi : Nat → Int32) (fa : Nat → Nat → Int32) : Prop := True

def w_BP (ca : Nat → ClassId) (r : Nat → Nat) (x0 : Nat) (x1 : Nat) (x2 : Nat) (x3 : Nat) (x4 : Nat) (x5 : Nat) (x6 : Nat) (x7 : Nat) (fi : Nat → Int32) (fl : Nat → Int64) (fa : Nat → Nat → Int32) (fb : Nat → Nat → Int64) (tl : va_W) : va_W := ((r 0), .inr (8, [.ref x0, .ref x1, .ref x2, .ref x3, .ref x4, .ref x5, .ref x6, .ref x7, .int (fi 0)])) :: tl
def Ok_BP (fi : Nat → Int32) (fa : Nat → Nat → Int32) : Prop := True

set_option maxHeartbeats 8000000 in
set_option maxRecDepth 100000 in
theorem c_X1_isNumber (l : Launch) (D : va_G) (ca : Nat → ClassId) (sa : Nat → Nat) (A : Nat → Prop) (rest : va_W) (r0 : Nat → Nat) (fi0 : Nat → Int32) (fl0 : Nat → Int64) (fa0 : Nat → Nat → Int32) (fb0 : Nat → Nat → Int64) (hv0 : Ok_CHG fi0 fa0) (p1 : Int32) : Met l yX1_isNumber wsX1_isNumber ({ frames := 0, cells := 0, slots := 0, locals := 0 }) (va_Pc [.ref (r0 0), .int p1] (zPre D ca sa A (w_CHG ca r0 fi0 fl0 fa0 fb0 (rest)))) (va_Qi (fun (r : Int32) (u : Unit) => ((r.toInt = 1 ∧ 0 ≤ p1.toInt ∧ p1.toInt < (fi0 0).toInt) ∨ (r.toInt = 0 ∧ (p1.toInt < 0 ∨ (fi0 0).toInt ≤ p1.toInt)))) (fun u t => zPost D A (w_CHG ca r0 fi0 fl0 fa0 fb0 (rest)) t) A) 0 0 A := by
  refine Met.ofW (cc := cX1_isNumber) (maxL := 2) (ret := (some .boolean)) (by decide) rfl ?_
  intro p e s m args below meth c s₁ B hml hv9
  obtain ⟨rfl, hE, hP, hD⟩ := hv9
  have hx := B.exec
  have hb := B.bytes
  have hr := B.returns
  have hts := atoms_spec (ws := wsX1_isNumber) B.pre
  have hown : s.vm.findClass RX1 = some m.cls := findClass_of_methodNamed B.named
  have hlocks := B.notSynchronized
  have hK := hE.1
  have hF : CallFix p m c cX1_isNumber 2 s _ wsX1_isNumber RX1 := ⟨hx, hb, hml, hown, hts⟩
  have hS : va_S A s.heap s.heap [] := va_S.rf
  have lk9 := hts (.fieldLink RX1 9 "BranchPlay$Changes" "count" "I") (by decide +kernel)
  have inX1 : ∀ w ∈ wsX10, w ∈ wsX1_isNumber := by decide +kernel
  obtain ⟨⟨hv0i0, hv0j0⟩, hv0a6⟩ := hv0
  generalize hHe : s.heap = H at hP
  have hS : va_S A s.heap H [] := by rw [← hHe]; exact hS
  have hP : va_P D vwCl (((r0 0), .inr (1, [.int (fi0 0), .ref (r0 1), .ref (r0 2), .ref (r0 3), .ref (r0 4), .ref (r0 5), .ref (r0 6), .ref (r0 7), .ref (r0 8), .ref (r0 9), .long (fl0 0), .ref (r0 10)])) :: ((r0 1), .inl (ca 0, 60, .inl (fa0 0))) :: ((r0 2), .inl (ca 0, 60, .inl (fa0 1))) :: ((r0 3), .inl (ca 0, 60, .inl (fa0 2))) :: ((r0 4), .inl (ca 0, 60, .inl (fa0 3))) :: ((r0 5), .inl (ca 0, 60, .inl (fa0 4))) :: ((r0 6), .inl (ca 0, 60, .inl (fa0 5))) :: ((r0 7), .inl (ca 0, 60, .inl (fa0 6))) :: ((r0 8), .inl (ca 0, 180, .inl (fa0 7))) :: ((r0 9), .inl (ca 1, 60, .inr (.inl (fb0 0)))) :: ((r0 10), .inr (0, [.ref (r0 11)])) :: ((r0 11), .inl (ca 1, 400, .inr (.inl (fb0 1)))) :: rest) H := hP
  have hD : va_D A (((r0 0), .inr (1, [.int (fi0 0), .ref (r0 1), .ref (r0 2), .ref (r0 3), .ref (r0 4), .ref (r0 5), .ref (r0 6), .ref (r0 7), .ref (r0 8), .ref (r0 9), .long (fl0 0), .ref (r0 10)])) :: ((r0 1), .inl (ca 0, 60, .inl (fa0 0))) :: ((r0 2), .inl (ca 0, 60, .inl (fa0 1))) :: ((r0 3), .inl (ca 0, 60, .inl (fa0 2))) :: ((r0 4), .inl (ca 0, 60, .inl (fa0 3))) :: ((r0 5), .inl (ca 0, 60, .inl (fa0 4))) :: ((r0 6), .inl (ca 0, 60, .inl (fa0 5))) :: ((r0 7), .inl (ca 0, 60, .inl (fa0 6))) :: ((r0 8), .inl (ca 0, 180, .inl (fa0 7))) :: ((r0 9), .inl (ca 1, 60, .inr (.inl (fb0 0)))) :: ((r0 10), .inr (0, [.ref (r0 11)])) :: ((r0 11), .inl (ca 1, 400, .inr (.inl (fb0 1)))) :: rest) := hD
  have hl := lv_entry ([.ref (r0 0), .int p1]) (n := 2) (Nat.le_of_ble_eq_true rfl)
  rw [lg_entry_eq]
  generalize (lg_sl ([.ref (r0 0), .int p1]) ++ List.replicate (2 - (lg_sl ([.ref (r0 0), .int p1])).length) Slot.unset).toArray = ls at hl ⊢
  have hl : lv_has ls 2 [(0, .ref (r0 0)), (1, .int p1)] := hl
  generalize hQ9 : MQ below _ _ s 0 0 A = Q9
  refine lv_iload_n hx hb dX1_isNumber_0 rfl (lv_at hl 1 rfl) ?_
  refine lv_if_lt (tgt := 16) hx hb dX1_isNumber_1 (by decide) (fun c1 => ?_) (fun c1 => ?_)
  ·
    have c1 := z_lt (i := p1.toInt) (j := 0) rfl (by decide) c1
    refine lv_iconst (v := 0) hx hb dX1_isNumber_16 (by decide) ?_
    subst hQ9
    refine lv_topi (fun t2 et2 => ?_)
    have ht2 : t2.toInt = 0 := by rw [et2]; decide
    have hq3 : (t2.toInt = 1 ∧ 0 ≤ p1.toInt ∧ p1.toInt < (fi0 0).toInt) ∨ (t2.toInt = 0 ∧ (p1.toInt < 0 ∨ (fi0 0).toInt ≤ p1.toInt)) := by omega
    have hz4 : narrow .boolean (.int t2) = .int t2 := z_nz (by constructor <;> omega)
    exact W.zret (v := t2) hx hb hr hz4 (fun t ht hW => ⟨⟨t2, (), rfl, hq3, ⟨by rw [ht]; exact hP, hD⟩⟩, hS.F ht⟩) hS.2.2 dX1_isNumber_17
  ·
    have c1 := z_nlt (i := p1.toInt) (j := 0) rfl (by decide) c1
    refine lv_iload_n hx hb dX1_isNumber_4 rfl (lv_at hl 1 rfl) ?_
    refine lv_aload_n hx hb dX1_isNumber_5 rfl (lv_at hl 0 rfl) ?_
    refine va_get (D := D) (ci := 1) (v := .int (fi0 0)) (C := RX1) (T := TX1) (N := 12) hx hb hts inX1 hown hK hP 0 rfl rfl 0 (by decide) lk9 (fun _ h9 => h9) rfl dX1_isNumber_6 ?_
    refine lv_icmp_ge (tgt := 16) hx hb dX1_isNumber_9 (by decide) (fun c5 => ?_) (fun c5 => ?_)
    ·
      have c5 := z_le (i := (fi0 0).toInt) (j := p1.toInt) rfl rfl c5
      refine lv_iconst (v := 0) hx hb dX1_isNumber_16 (by decide) ?_
      subst hQ9
      refine lv_topi (fun t6 et6 => ?_)
      have ht6 : t6.toInt = 0 := by rw [et6]; decide
      have hq7 : (t6.toInt = 1 ∧ 0 ≤ p1.toInt ∧ p1.toInt < (fi0 0).toInt) ∨ (t6.toInt = 0 ∧ (p1.toInt < 0 ∨ (fi0 0).toInt ≤ p1.toInt)) := by omega
      have hz8 : narrow .boolean (.int t6) = .int t6 := z_nz (by constructor <;> omega)
      exact W.zret (v := t6) hx hb hr hz8 (fun t ht hW => ⟨⟨t6, (), rfl, hq7, ⟨by rw [ht]; exact hP, hD⟩⟩, hS.F ht⟩) hS.2.2 dX1_isNumber_17
    ·
      have c5 := z_nle (i := (fi0 0).toInt) (j := p1.toInt) rfl rfl c5
      refine lv_iconst (v := 1) hx hb dX1_isNumber_12 (by decide) ?_
      refine lv_goto (tgt := 17) hx hb dX1_isNumber_13 (by decide) ?_
      subst hQ9
      refine lv_topi (fun t9 et9 => ?_)
      have ht9 : t9.toInt = 1 := by rw [et9]; decide
      have hq10 : (t9.toInt = 1 ∧ 0 ≤ p1.toInt ∧ p1.toInt < (fi0 0).toInt) ∨ (t9.toInt = 0 ∧ (p1.toInt < 0 ∨ (fi0 0).toInt ≤ p1.toInt)) := by omega
      have hz11 : narrow .boolean (.int t9) = .int t9 := z_nz (by constructor <;> omega)
      exact W.zret (v := t9) hx hb hr hz11 (fun t ht hW => ⟨⟨t9, (), rfl, hq10, ⟨by rw [ht]; exact hP, hD⟩⟩, hS.F ht⟩) hS.2.2 dX1_isNumber_17

set_option maxHeartbeats 8000000 in
set_option maxRecDepth 100000 in
theorem c_X1_isLesser (l : Launch) (D : va_G) (ca : Nat → ClassId) (sa : Nat → Nat) (A : Nat → Prop) (rest : va_W) (r0 : Nat → Nat) (fi0 : Nat → Int32) (fl0 : Nat → Int64) (fa0 : Nat → Nat → Int32) (fb0 : Nat → Nat → Int64) (hv0 : Ok_CHG fi0 fa0) (p1 : Int32) (p2 : Int32) : Met l yX1_isLesser wsX1_isLesser ({ frames := 1, cells := 0, slots := 0, locals := 21 }) (va_Pc [.ref (r0 0), .int p1, .int p2] (zPre D ca sa A (w_CHG ca r0 fi0 fl0 fa0 fb0 (rest)))) (va_Qi (fun (r : Int32) (u : Unit) => ((r.toInt = 1 ∧ 0 ≤ p1.toInt ∧ p1.toInt < p2.toInt ∧ p2.toInt < (fi0 0).toInt) ∨ (r.toInt = 0 ∧ (p1.toInt < 0 ∨ p2.toInt ≤ p1.toInt ∨ p2.toInt < 0 ∨ (fi0 0).toInt ≤ p2.toInt)))) (fun u t => zPost D A (w_CHG ca r0 fi0 fl0 fa0 fb0 (rest)) t) A) 0 0 A := by
  refine Met.ofW (cc := cX1_isLesser) (maxL := 3) (ret := (some .boolean)) (by decide) rfl ?_
  intro p e s m args below meth c s₁ B hml hv9
  obtain ⟨rfl, hE, hP, hD⟩ := hv9
  have hx := B.exec
  have hb := B.bytes
  have hr := B.returns
  have hts := atoms_spec (ws := wsX1_isLesser) B.pre
  have hown : s.vm.findClass RX1 = some m.cls := findClass_of_methodNamed B.named
  have hlocks := B.notSynchronized
  have hK := hE.1
  have hF : CallFix p m c cX1_isLesser 3 s _ wsX1_isLesser RX1 := ⟨hx, hb, hml, hown, hts⟩
  have hS : va_S A s.heap s.heap [] := va_S.rf
  obtain ⟨⟨hv0i0, hv0j0⟩, hv0a6⟩ := hv0
  generalize hHe : s.heap = H at hP
  have hS : va_S A s.heap H [] := by rw [← hHe]; exact hS
  have hP : va_P D vwCl (((r0 0), .inr (1, [.int (fi0 0), .ref (r0 1), .ref (r0 2), .ref (r0 3), .ref (r0 4), .ref (r0 5), .ref (r0 6), .ref (r0 7), .ref (r0 8), .ref (r0 9), .long (fl0 0), .ref (r0 10)])) :: ((r0 1), .inl (ca 0, 60, .inl (fa0 0))) :: ((r0 2), .inl (ca 0, 60, .inl (fa0 1))) :: ((r0 3), .inl (ca 0, 60, .inl (fa0 2))) :: ((r0 4), .inl (ca 0, 60, .inl (fa0 3))) :: ((r0 5), .inl (ca 0, 60, .inl (fa0 4))) :: ((r0 6), .inl (ca 0, 60, .inl (fa0 5))) :: ((r0 7), .inl (ca 0, 60, .inl (fa0 6))) :: ((r0 8), .inl (ca 0, 180, .inl (fa0 7))) :: ((r0 9), .inl (ca 1, 60, .inr (.inl (fb0 0)))) :: ((r0 10), .inr (0, [.ref (r0 11)])) :: ((r0 11), .inl (ca 1, 400, .inr (.inl (fb0 1)))) :: rest) H := hP
  have hD : va_D A (((r0 0), .inr (1, [.int (fi0 0), .ref (r0 1), .ref (r0 2), .ref (r0 3), .ref (r0 4), .ref (r0 5), .ref (r0 6), .ref (r0 7), .ref (r0 8), .ref (r0 9), .long (fl0 0), .ref (r0 10)])) :: ((r0 1), .inl (ca 0, 60, .inl (fa0 0))) :: ((r0 2), .inl (ca 0, 60, .inl (fa0 1))) :: ((r0 3), .inl (ca 0, 60, .inl (fa0 2))) :: ((r0 4), .inl (ca 0, 60, .inl (fa0 3))) :: ((r0 5), .inl (ca 0, 60, .inl (fa0 4))) :: ((r0 6), .inl (ca 0, 60, .inl (fa0 5))) :: ((r0 7), .inl (ca 0, 60, .inl (fa0 6))) :: ((r0 8), .inl (ca 0, 180, .inl (fa0 7))) :: ((r0 9), .inl (ca 1, 60, .inr (.inl (fb0 0)))) :: ((r0 10), .inr (0, [.ref (r0 11)])) :: ((r0 11), .inl (ca 1, 400, .inr (.inl (fb0 1)))) :: rest) := hD
  have hl := lv_entry ([.ref (r0 0), .int p1, .int p2]) (n := 3) (Nat.le_of_ble_eq_true rfl)
  rw [lg_entry_eq]
  generalize (lg_sl ([.ref (r0 0), .int p1, .int p2]) ++ List.replicate (3 - (lg_sl ([.ref (r0 0), .int p1, .int p2])).length) Slot.unset).toArray = ls at hl ⊢
  have hl : lv_has ls 3 [(0, .ref (r0 0)), (1, .int p1), (2, .int p2)] := hl
  generalize hQ9 : MQ below _ _ s 0 0 A = Q9
  refine lv_aload_n hx hb dX1_isLesser_0 rfl (lv_at hl 0 rfl) ?_
  refine lv_iload_n hx hb dX1_isLesser_1 rfl (lv_at hl 2 rfl) ?_
  have ho1 : (0 ≤ (fi0 0).toInt ∧ (fi0 0).toInt ≤ 60) ∧ z_rng 0 3 (fa0 6) := ⟨⟨by omega, by omega⟩, hv0a6⟩
  refine z_iV (As := [.int p2]) (rest := []) hF (c_X1_isNumber l D ca sa A rest (zl 0 [(r0 0), (r0 1), (r0 2), (r0 3), (r0 4), (r0 5), (r0 6), (r0 7), (r0 8), (r0 9), (r0 10), (r0 11)]) (zl 0 [(fi0 0)]) (zl 0 [(fl0 0)]) (zl (fun _ => 0) [(fa0 0), (fa0 1), (fa0 2), (fa0 3), (fa0 4), (fa0 5), (fa0 6), (fa0 7)]) (zl (fun _ => 0) [(fb0 0), (fb0 1)]) ho1 p2) (cwV 1 hts gX1_isLesser_X1_isNumber rfl rfl rfl (by decide +kernel) ⟨Nat.le_of_ble_eq_true rfl, Nat.le_of_ble_eq_true rfl⟩) hE hP hD hS 1 0 rfl rfl rfl hl.1 rfl (Nat.le_of_ble_eq_true rfl) dX1_isLesser_2 ⟨Nat.zero_le _, Nat.zero_le _⟩ (fun t3 u2 H locs hw4 hP hD hS => ?_)
  have hw4 : ((t3.toInt = 1 ∧ 0 ≤ p2.toInt ∧ p2.toInt < (fi0 0).toInt) ∨ (t3.toInt = 0 ∧ (p2.toInt < 0 ∨ (fi0 0).toInt ≤ p2.toInt))) := hw4
  obtain hq5 := hw4
  have hP : va_P D vwCl (((r0 0), .inr (1, [.int (fi0 0), .ref (r0 1), .ref (r0 2), .ref (r0 3), .ref (r0 4), .ref (r0 5), .ref (r0 6), .ref (r0 7), .ref (r0 8), .ref (r0 9), .long (fl0 0), .ref (r0 10)])) :: ((r0 1), .inl (ca 0, 60, .inl (fa0 0))) :: ((r0 2), .inl (ca 0, 60, .inl (fa0 1))) :: ((r0 3), .inl (ca 0, 60, .inl (fa0 2))) :: ((r0 4), .inl (ca 0, 60, .inl (fa0 3))) :: ((r0 5), .inl (ca 0, 60, .inl (fa0 4))) :: ((r0 6), .inl (ca 0, 60, .inl (fa0 5))) :: ((r0 7), .inl (ca 0, 60, .inl (fa0 6))) :: ((r0 8), .inl (ca 0, 180, .inl (fa0 7))) :: ((r0 9), .inl (ca 1, 60, .inr (.inl (fb0 0)))) :: ((r0 10), .inr (0, [.ref (r0 11)])) :: ((r0 11), .inl (ca 1, 400, .inr (.inl (fb0 1)))) :: rest) H := hP
  have hD : va_D A (((r0 0), .inr (1, [.int (fi0 0), .ref (r0 1), .ref (r0 2), .ref (r0 3), .ref (r0 4), .ref (r0 5), .ref (r0 6), .ref (r0 7), .ref (r0 8), .ref (r0 9), .long (fl0 0), .ref (r0 10)])) :: ((r0 1), .inl (ca 0, 60, .inl (fa0 0))) :: ((r0 2), .inl (ca 0, 60, .inl (fa0 1))) :: ((r0 3), .inl (ca 0, 60, .inl (fa0 2))) :: ((r0 4), .inl (ca 0, 60, .inl (fa0 3))) :: ((r0 5), .inl (ca 0, 60, .inl (fa0 4))) :: ((r0 6), .inl (ca 0, 60, .inl (fa0 5))) :: ((r0 7), .inl (ca 0, 60, .inl (fa0 6))) :: ((r0 8), .inl (ca 0, 180, .inl (fa0 7))) :: ((r0 9), .inl (ca 1, 60, .inr (.inl (fb0 0)))) :: ((r0 10), .inr (0, [.ref (r0 11)])) :: ((r0 11), .inl (ca 1, 400, .inr (.inl (fb0 1)))) :: rest) := hD
  refine lv_if_eq (tgt := 21) hx hb dX1_isLesser_5 (by decide) (fun c6 => ?_) (fun c6 => ?_)
  ·
    have c6 := z_eq (i := t3.toInt) (j := 0) rfl (by decide) c6
    refine lv_iconst (v := 0) hx hb dX1_isLesser_21 (by decide) ?_
    subst hQ9
    refine lv_topi (fun t7 et7 => ?_)
    have ht7 : t7.toInt = 0 := by rw [et7]; decide
    have hq8 : (t7.toInt = 1 ∧ 0 ≤ p1.toInt ∧ p1.toInt < p2.toInt ∧ p2.toInt < (fi0 0).toInt) ∨ (t7.toInt = 0 ∧ (p1.toInt < 0 ∨ p2.toInt ≤ p1.toInt ∨ p2.toInt < 0 ∨ (fi0 0).toInt ≤ p2.toInt)) := by omega
    have hz9 : narrow .boolean (.int t7) = .int t7 := z_nz (by constructor <;> omega)
    exact W.zret (v := t7) hx hb hr hz9 (fun t ht hW => ⟨⟨t7, (), rfl, hq8, ⟨by rw [ht]; exact hP, hD⟩⟩, hS.F ht⟩) hS.2.2 dX1_isLesser_22
  ·
    have c6 := z_ne (i := t3.toInt) (j := 0) rfl (by decide) c6
    refine lv_iload_n hx hb dX1_isLesser_8 rfl (lv_at hl 1 rfl) ?_
    refine lv_if_lt (tgt := 21) hx hb dX1_isLesser_9 (by decide) (fun c10 => ?_) (fun c10 => ?_)
    ·
      have c10 := z_lt (i := p1.toInt) (j := 0) rfl (by decide) c10
      refine lv_iconst (v := 0) hx hb dX1_isLesser_21 (by decide) ?_
      subst hQ9
      refine lv_topi (fun t11 et11 => ?_)
      have ht11 : t11.toInt = 0 := by rw [et11]; decide
      have hq12 : (t11.toInt = 1 ∧ 0 ≤ p1.toInt ∧ p1.toInt < p2.toInt ∧ p2.toInt < (fi0 0).toInt) ∨ (t11.toInt = 0 ∧ (p1.toInt < 0 ∨ p2.toInt ≤ p1.toInt ∨ p2.toInt < 0 ∨ (fi0 0).toInt ≤ p2.toInt)) := by omega
      have hz13 : narrow .boolean (.int t11) = .int t11 := z_nz (by constructor <;> omega)
      exact W.zret (v := t11) hx hb hr hz13 (fun t ht hW => ⟨⟨t11, (), rfl, hq12, ⟨by rw [ht]; exact hP, hD⟩⟩, hS.F ht⟩) hS.2.2 dX1_isLesser_22
    ·
      have c10 := z_nlt (i := p1.toInt) (j := 0) rfl (by decide) c10
      refine lv_iload_n hx hb dX1_isLesser_12 rfl (lv_at hl 1 rfl) ?_
      refine lv_iload_n hx hb dX1_isLesser_13 rfl (lv_at hl 2 rfl) ?_
      refine lv_icmp_ge (tgt := 21) hx hb dX1_isLesser_14 (by decide) (fun c14 => ?_) (fun c14 => ?_)
      ·
        have c14 := z_le (i := p2.toInt) (j := p1.toInt) rfl rfl c14
        refine lv_iconst (v := 0) hx hb dX1_isLesser_21 (by decide) ?_
        subst hQ9
        refine lv_topi (fun t15 et15 => ?_)
        have ht15 : t15.toInt = 0 := by rw [et15]; decide
        have hq16 : (t15.toInt = 1 ∧ 0 ≤ p1.toInt ∧ p1.toInt < p2.toInt ∧ p2.toInt < (fi0 0).toInt) ∨ (t15.toInt = 0 ∧ (p1.toInt < 0 ∨ p2.toInt ≤ p1.toInt ∨ p2.toInt < 0 ∨ (fi0 0).toInt ≤ p2.toInt)) := by omega
        have hz17 : narrow .boolean (.int t15) = .int t15 := z_nz (by constructor <;> omega)
        exact W.zret (v := t15) hx hb hr hz17 (fun t ht hW => ⟨⟨t15, (), rfl, hq16, ⟨by rw [ht]; exact hP, hD⟩⟩, hS.F ht⟩) hS.2.2 dX1_isLesser_22
      ·
        have c14 := z_nle (i := p2.toInt) (j := p1.toInt) rfl rfl c14
        refine lv_iconst (v := 1) hx hb dX1_isLesser_17 (by decide) ?_
        refine lv_goto (tgt := 22) hx hb dX1_isLesser_18 (by decide) ?_
        subst hQ9
        refine lv_topi (fun t18 et18 => ?_)
        have ht18 : t18.toInt = 1 := by rw [et18]; decide
        have hq19 : (t18.toInt = 1 ∧ 0 ≤ p1.toInt ∧ p1.toInt < p2.toInt ∧ p2.toInt < (fi0 0).toInt) ∨ (t18.toInt = 0 ∧ (p1.toInt < 0 ∨ p2.toInt ≤ p1.toInt ∨ p2.toInt < 0 ∨ (fi0 0).toInt ≤ p2.toInt)) := by omega
        have hz20 : narrow .boolean (.int t18) = .int t18 := z_nz (by constructor <;> omega)
        exact W.zret (v := t18) hx hb hr hz20 (fun t ht hW => ⟨⟨t18, (), rfl, hq19, ⟨by rw [ht]; exact hP, hD⟩⟩, hS.F ht⟩) hS.2.2 dX1_isLesser_22

theorem z_least (j : Nat) : 0 ≤ (([2, 1, 0, 1, 0, 0, 1] : List Int32).getD j 0).toInt ∧ (([2, 1, 0, 1, 0, 0, 1] : List Int32).getD j 0).toInt ≤ 2 := by
  rcases (show j < 7 ∨ 7 ≤ j by omega) with h | h
  · rcases (show j = 0 ∨ j = 1 ∨ j = 2 ∨ j = 3 ∨ j = 4 ∨ j = 5 ∨ j = 6 by omega) with rfl | rfl | rfl | rfl | rfl | rfl | rfl <;> decide
  · rw [List.getD_eq_getElem?_getD, List.getElem?_eq_none (by simpa using h)]; decide
theorem z_most (j : Nat) : 0 ≤ (([100, 50, 50, 9, 50, 9, 50] : List Int32).getD j 0).toInt ∧ (([100, 50, 50, 9, 50, 9, 50] : List Int32).getD j 0).toInt ≤ 100 := by
  rcases (show j < 7 ∨ 7 ≤ j by omega) with h | h
  · rcases (show j = 0 ∨ j = 1 ∨ j = 2 ∨ j = 3 ∨ j = 4 ∨ j = 5 ∨ j = 6 by omega) with rfl | rfl | rfl | rfl | rfl | rfl | rfl <;> decide
  · rw [List.getD_eq_getElem?_getD, List.getElem?_eq_none (by simpa using h)]; decide

set_option maxHeartbeats 8000000 in
set_option maxRecDepth 100000 in
theorem c_X8_isWithinBounds (l : Launch) (D : va_G) (ca : Nat → ClassId) (sa : Nat → Nat) (A : Nat → Prop) (rest : va_W) (p0 : Int32) (p1 : Int32) (hpre0 : 0 ≤ p0.toInt ∧ p0.toInt ≤ 6) : Met l yX8_isWithinBounds wsX8_isWithinBounds ({ frames := 0, cells := 0, slots := 0, locals := 0 }) (va_Pc [.int p0, .int p1] (zPre D ca sa A (rest))) (va_Qi (fun (r : Int32) (u : Unit) => ((r.toInt = 1 ∧ 0 ≤ p1.toInt ∧ p1.toInt ≤ 100) ∨ r.toInt = 0)) (fun u t => zPost D A (rest) t) A) 0 0 A := by
  refine Met.ofW (cc := cX8_isWithinBounds) (maxL := 2) (ret := (some .boolean)) (by decide) rfl ?_
  intro p e s m args below meth c s₁ B hml hv9
  obtain ⟨rfl, hE, hP, hD⟩ := hv9
  have hx := B.exec
  have hb := B.bytes
  have hr := B.returns
  have hts := atoms_spec (ws := wsX8_isWithinBounds) B.pre
  have hown : s.vm.findClass RX8 = some m.cls := findClass_of_methodNamed B.named
  have hlocks := B.notSynchronized
  have hK := hE.1
  have hF : CallFix p m c cX8_isWithinBounds 2 s _ wsX8_isWithinBounds RX8 := ⟨hx, hb, hml, hown, hts⟩
  have hS : va_S A s.heap s.heap [] := va_S.rf
  have lk194 := hts (.fieldLink RX8 194 "BranchPlay" "LEAST" "[I") (by decide +kernel)
  have lk197 := hts (.fieldLink RX8 197 "BranchPlay" "MOST" "[I") (by decide +kernel)
  generalize hHe : s.heap = H at hP
  have hS : va_S A s.heap H [] := by rw [← hHe]; exact hS
  have hl := lv_entry ([.int p0, .int p1]) (n := 2) (Nat.le_of_ble_eq_true rfl)
  rw [lg_entry_eq]
  generalize (lg_sl ([.int p0, .int p1]) ++ List.replicate (2 - (lg_sl ([.int p0, .int p1])).length) Slot.unset).toArray = ls at hl ⊢
  have hl : lv_has ls 2 [(0, .int p0), (1, .int p1)] := hl
  generalize hQ9 : MQ below _ _ s 0 0 A = Q9
  refine lv_iload_n hx hb dX8_isWithinBounds_0 rfl (lv_at hl 1 rfl) ?_
  refine va_gets hx hb hE.2.2.1.2.1.1 hS hown lk194 (fun _ h9 => h9) dX8_isWithinBounds_1 ?_
  refine lv_iload_n hx hb dX8_isWithinBounds_4 rfl (lv_at hl 0 rfl) ?_
  have hi1 : vp_in p0 7 := z_in (i := p0.toInt) rfl (by omega) (by omega)
  refine va_ti hx hb hE.2.2.1.2.1.2 hS hi1 rfl dX8_isWithinBounds_5 ?_
  refine lv_topi (fun t2 et2 => ?_)
  have ht2 := z_least p0.toNatClampNeg
  rw [← et2] at ht2
  refine lv_icmp_lt (tgt := 22) hx hb dX8_isWithinBounds_6 (by decide) (fun c3 => ?_) (fun c3 => ?_)
  ·
    have c3 := z_lt (i := p1.toInt) (j := t2.toInt) rfl rfl c3
    refine lv_iconst (v := 0) hx hb dX8_isWithinBounds_22 (by decide) ?_
    subst hQ9
    refine lv_topi (fun t4 et4 => ?_)
    have ht4 : t4.toInt = 0 := by rw [et4]; decide
    have hq5 : (t4.toInt = 1 ∧ 0 ≤ p1.toInt ∧ p1.toInt ≤ 100) ∨ t4.toInt = 0 := by omega
    have hz6 : narrow .boolean (.int t4) = .int t4 := z_nz (by constructor <;> omega)
    exact W.zret (v := t4) hx hb hr hz6 (fun t ht hW => ⟨⟨t4, (), rfl, hq5, ⟨by rw [ht]; exact hP, hD⟩⟩, hS.F ht⟩) hS.2.2 dX8_isWithinBounds_23
  ·
    have c3 := z_nlt (i := p1.toInt) (j := t2.toInt) rfl rfl c3
    refine lv_iload_n hx hb dX8_isWithinBounds_9 rfl (lv_at hl 1 rfl) ?_
    refine va_gets hx hb hE.2.2.1.2.2.1.1 hS hown lk197 (fun _ h9 => h9) dX8_isWithinBounds_10 ?_
    refine lv_iload_n hx hb dX8_isWithinBounds_13 rfl (lv_at hl 0 rfl) ?_
    have hi7 : vp_in p0 7 := z_in (i := p0.toInt) rfl (by omega) (by omega)
    refine va_ti hx hb hE.2.2.1.2.2.1.2 hS hi7 rfl dX8_isWithinBounds_14 ?_
    refine lv_topi (fun t8 et8 => ?_)
    have ht8 := z_most p0.toNatClampNeg
    rw [← et8] at ht8
    refine lv_icmp_gt (tgt := 22) hx hb dX8_isWithinBounds_15 (by decide) (fun c9 => ?_) (fun c9 => ?_)
    ·
      have c9 := z_lt (i := t8.toInt) (j := p1.toInt) rfl rfl c9
      refine lv_iconst (v := 0) hx hb dX8_isWithinBounds_22 (by decide) ?_
      subst hQ9
      refine lv_topi (fun t10 et10 => ?_)
      have ht10 : t10.toInt = 0 := by rw [et10]; decide
      have hq11 : (t10.toInt = 1 ∧ 0 ≤ p1.toInt ∧ p1.toInt ≤ 100) ∨ t10.toInt = 0 := by omega
      have hz12 : narrow .boolean (.int t10) = .int t10 := z_nz (by constructor <;> omega)
      exact W.zret (v := t10) hx hb hr hz12 (fun t ht hW => ⟨⟨t10, (), rfl, hq11, ⟨by rw [ht]; exact hP, hD⟩⟩, hS.F ht⟩) hS.2.2 dX8_isWithinBounds_23
    ·
      have c9 := z_nlt (i := t8.toInt) (j := p1.toInt) rfl rfl c9
      refine lv_iconst (v := 1) hx hb dX8_isWithinBounds_18 (by decide) ?_
      refine lv_goto (tgt := 23) hx hb dX8_isWithinBounds_19 (by decide) ?_
      subst hQ9
      refine lv_topi (fun t13 et13 => ?_)
      have ht13 : t13.toInt = 1 := by rw [et13]; decide
      have hq14 : (t13.toInt = 1 ∧ 0 ≤ p1.toInt ∧ p1.toInt ≤ 100) ∨ t13.toInt = 0 := by omega
      have hz15 : narrow .boolean (.int t13) = .int t13 := z_nz (by constructor <;> omega)
      exact W.zret (v := t13) hx hb hr hz15 (fun t ht hW => ⟨⟨t13, (), rfl, hq14, ⟨by rw [ht]; exact hP, hD⟩⟩, hS.F ht⟩) hS.2.2 dX8_isWithinBounds_23
