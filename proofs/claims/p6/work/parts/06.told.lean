def w_TAPE (ca : Nat → ClassId) (r : Nat → Nat) (fi : Nat → Int32) (fl : Nat → Int64) (fa : Nat → Nat → Int32) (fb : Nat → Nat → Int64) (tl : va_W) : va_W := ((r 0), .inr (7, [.ref (r 1), .int (fi 0)])) :: ((r 1), .inl (ca 2, 600, .inl (fa 0))) :: tl
def Ok_TAPE (fi : Nat → Int32) (fa : Nat → Nat → Int32) : Prop := (0 ≤ (fi 0).toInt ∧ (fi 0).toInt ≤ 600)

def w_RDR (ca : Nat → ClassId) (r : Nat → Nat) (fi : Nat → Int32) (fl : Nat → Int64) (fa : Nat → Nat → Int32) (fb : Nat → Nat → Int64) (tl : va_W) : va_W := ((r 0), .inr (6, [.ref (r 1), .int (fi 0), .int (fi 1), .int (fi 2), .int (fi 3), .int (fi 4), .int (fi 5)])) :: ((r 1), .inl (ca 0, 8, .inl (fa 0))) :: tl
def Ok_RDR (fi : Nat → Int32) (fa : Nat → Nat → Int32) : Prop := (0 ≤ (fi 3).toInt ∧ (fi 3).toInt ≤ 7) ∧ ((fi 2).toInt = 1 → (fi 3).toInt ≤ 6)

def w_PRC (ca : Nat → ClassId) (r : Nat → Nat) (fi : Nat → Int32) (fl : Nat → Int64) (fa : Nat → Nat → Int32) (fb : Nat → Nat → Int64) (tl : va_W) : va_W := ((r 0), .inr (5, [.int (fi 0), .int (fi 1), .int (fi 2), .int (fi 3)])) :: tl
def Ok_PRC (fi : Nat → Int32) (fa : Nat → Nat → Int32) : Prop := True

def w_BP (ca : Nat → ClassId) (r : Nat → Nat) (x0 : Nat) (x1 : Nat) (x2 : Nat) (x3 : Nat) (x4 : Nat) (x5 : Nat) (x6 : Nat) (x7 : Nat) (fi : Nat → Int32) (fl : Nat → Int64) (fa : Nat → Nat → Int32) (fb : Nat → Nat → Int64) (tl : va_W) : va_W := ((r 0), .inr (8, [.ref x0, .ref x1, .ref x2, .ref x3, .ref x4, .ref x5, .ref x6, .ref x7, .int (fi 0)])) :: tl
def Ok_BP (fi : Nat → Int32) (fa : Nat → Nat → Int32) : Prop := True

set_option maxHeartbeats 8000000 in
set_option maxRecDepth 100000 in
theorem c_X1_isNumber (l : Launch) (D : va_G) (ca : Nat → ClassId) (sa : Nat → Nat) (A : Nat → Prop) (rest : va_W) (r0 : Nat → Nat) (fi0 : Nat → Int32) (fl0 : Nat → Int64) (fa0 : Nat → Nat → Int32) (fb0 : Nat → Nat → Int64) (hv0 : Ok_CHG fi0 fa0) (p1 : Int32) : Met l yX1_isNumber wsX1_isNumber ({ frames := 0, cells := 0, slots := 0, locals := 0 }) (va_Pc [.ref (r0 0), .int p1] (zPre D ca sa A (w_CHG ca r0 fi0 fl0 fa0 fb0 (rest)))) (va_Qi (fun (r : Int32) (u : Unit) => ((r.toInt = 1 ∧ 0 ≤ p1.toInt ∧ p1.toInt < (fi0 0).toInt) ∨ (r.toInt = 0 ∧ (p1.toInt < 0 ∨ (fi0 0).toInt ≤ p1.toInt)))) (fun u t => zPost D A (w_CHG ca r0 fi0 fl0 fa0 fb0 (rest)) t) A) 0 0 A := by
  refine Met.ofW (cc := cX1_isNumber) (maxL := 2) (ret := (some .boolean)) (by decide) rfl ?_
  intro p e s m args below meth c s₁ B hml hv9
  obtain ⟨rfl, hE, hP, hD⟩ := hv9
  have hx := B.exec
  have hb := B.bytes
  have hr := B.returns
  have hts := atoms_spec (ws := wsX1_isNumber) B.pre
  have hown : s.vm.findClass RX1 = some m.cls := findClass_of_methodNamed B.named
  have hlocks := B.notSynchronized
  have hK := hE.1
  have hF : CallFix p m c cX1_isNumber 2 s _ wsX1_isNumber RX1 := ⟨hx, hb, hml, hown, hts⟩
  have hS : va_S A s.heap s.heap [] := va_S.rf
  have lk9 := hts (.fieldLink RX1 9 "BranchPlay$Changes" "count" "I") (by decide +kernel)
  have inX1 : ∀ w ∈ wsX10, w ∈ wsX1_isNumber := by decide +kernel
  obtain ⟨⟨hv0i0, hv0j0⟩, hv0a6⟩ := hv0
  generalize hHe : s.heap = H at hP
  have hS : va_S A s.heap H [] := by rw [← hHe]; exact hS
  have hP : va_P D vwCl (((r0 0), .inr (1, [.int (fi0 0), .ref (r0 1), .ref (r0 2), .ref (r0 3), .ref (r0 4), .ref (r0 5), .ref (r0 6), .ref (r0 7), .ref (r0 8), .ref (r0 9), .long (fl0 0), .ref (r0 10)])) :: ((r0 1), .inl (ca 0, 60, .inl (fa0 0))) :: ((r0 2), .inl (ca 0, 60, .inl (fa0 1))) :: ((r0 3), .inl (ca 0, 60, .inl (fa0 2))) :: ((r0 4), .inl (ca 0, 60, .inl (fa0 3))) :: ((r0 5), .inl (ca 0, 60, .inl (fa0 4))) :: ((r0 6), .inl (ca 0, 60, .inl (fa0 5))) :: ((r0 7), .inl (ca 0, 60, .inl (fa0 6))) :: ((r0 8), .inl (ca 0, 180, .inl (fa0 7))) :: ((r0 9), .inl (ca 1, 60, .inr (.inl (fb0 0)))) :: ((r0 10), .inr (0, [.ref (r0 11)])) :: ((r0 11), .inl (ca 1, 400, .inr (.inl (fb0 1)))) :: rest) H := hP
  have hD : va_D A (((r0 0), .inr (1, [.int (fi0 0), .ref (r0 1), .ref (r0 2), .ref (r0 3), .ref (r0 4), .ref (r0 5), .ref (r0 6), .ref (r0 7), .ref (r0 8), .ref (r0 9), .long (fl0 0), .ref (r0 10)])) :: ((r0 1), .inl (ca 0, 60, .inl (fa0 0))) :: ((r0 2), .inl (ca 0, 60, .inl (fa0 1))) :: ((r0 3), .inl (ca 0, 60, .inl (fa0 2))) :: ((r0 4), .inl (ca 0, 60, .inl (fa0 3))) :: ((r0 5), .inl (ca 0, 60, .inl (fa0 4))) :: ((r0 6), .inl (ca 0, 60, .inl (fa0 5))) :: ((r0 7), .inl (ca 0, 60, .inl (fa0 6))) :: ((r0 8), .inl (ca 0, 180, .inl (fa0 7))) :: ((r0 9), .inl (ca 1, 60, .inr (.inl (fb0 0)))) :: ((r0 10), .inr (0, [.ref (r0 11)])) :: ((r0 11), .inl (ca 1, 400, .inr (.inl (fb0 1)))) :: rest) := hD
  have hl := lv_entry ([.ref (r0 0), .int p1]) (n := 2) (Nat.le_of_ble_eq_true rfl)
  rw [lg_entry_eq]
  generalize (lg_sl ([.ref (r0 0), .int p1]) ++ List.replicate (2 - (lg_sl ([.ref (r0 0), .int p1])).length) Slot.unset).toArray = ls at hl ⊢
  have hl : lv_has ls 2 [(0, .ref (r0 0)), (1, .int p1)] := hl
  generalize hQ9 : MQ below _ _ s 0 0 A = Q9
  refine lv_iload_n hx hb dX1_isNumber_0 rfl (lv_at hl 1 rfl) ?_
  refine lv_if_lt (tgt := 16) hx hb dX1_isNumber_1 (by decide) (fun c1 => ?_) (fun c1 => ?_)
  ·
    have c1 := z_lt (i := p1.toInt) (j := 0) rfl (by decide) c1
    refine lv_iconst (v := 0) hx hb dX1_isNumber_16 (by decide) ?_
    subst hQ9
    refine lv_topi (fun t2 et2 => ?_)
    have ht2 : t2.toInt = 0 := by rw [et2]; decide
    have hq3 : (t2.toInt = 1 ∧ 0 ≤ p1.toInt ∧ p1.toInt < (fi0 0).toInt) ∨ (t2.toInt = 0 ∧ (p1.toInt < 0 ∨ (fi0 0).toInt ≤ p1.toInt)) := by omega
    have hz4 : narrow .boolean (.int t2) = .int t2 := z_nz (by constructor <;> omega)
    exact W.zret (v := t2) hx hb hr hz4 (fun t ht hW => ⟨⟨t2, (), rfl, hq3, ⟨by rw [ht]; exact hP, hD⟩⟩, hS.F ht⟩) hS.2.2 dX1_isNumber_17
  ·
    have c1 := z_nlt (i := p1.toInt) (j := 0) rfl (by decide) c1
    refine lv_iload_n hx hb dX1_isNumber_4 rfl (lv_at hl 1 rfl) ?_
    refine lv_aload_n hx hb dX1_isNumber_5 rfl (lv_at hl 0 rfl) ?_
    refine va_get (D := D) (ci := 1) (v := .int (fi0 0)) (C := RX1) (T := TX1) (N := 12) hx hb hts inX1 hown hK hP 0 rfl rfl 0 (by decide) lk9 (fun _ h9 => h9) rfl dX1_isNumber_6 ?_
    refine lv_icmp_ge (tgt := 16) hx hb dX1_isNumber_9 (by decide) (fun c5 => ?_) (fun c5 => ?_)
    ·
      have c5 := z_le (i := (fi0 0).toInt) (j := p1.toInt) rfl rfl c5
      refine lv_iconst (v := 0) hx hb dX1_isNumber_16 (by decide) ?_
      subst hQ9
      refine lv_topi (fun t6 et6 => ?_)
      have ht6 : t6.toInt = 0 := by rw [et6]; decide
      have hq7 : (t6.toInt = 1 ∧ 0 ≤ p1.toInt ∧ p1.toInt < (fi0 0).toInt) ∨ (t6.toInt = 0 ∧ (p1.toInt < 0 ∨ (fi0 0).toInt ≤ p1.toInt)) := by omega
      have hz8 : narrow .boolean (.int t6) = .int t6 := z_nz (by constructor <;> omega)
      exact W.zret (v := t6) hx hb hr hz8 (fun t ht hW => ⟨⟨t6, (), rfl, hq7, ⟨by rw [ht]; exact hP, hD⟩⟩, hS.F ht⟩) hS.2.2 dX1_isNumber_17
    ·
      have c5 := z_nle (i := (fi0 0).toInt) (j := p1.toInt) rfl rfl c5
      refine lv_iconst (v := 1) hx hb dX1_isNumber_12 (by decide) ?_
      refine lv_goto (tgt := 17) hx hb dX1_isNumber_13 (by decide) ?_
      subst hQ9
      refine lv_topi (fun t9 et9 => ?_)
      have ht9 : t9.toInt = 1 := by rw [et9]; decide
      have hq10 : (t9.toInt = 1 ∧ 0 ≤ p1.toInt ∧ p1.toInt < (fi0 0).toInt) ∨ (t9.toInt = 0 ∧ (p1.toInt < 0 ∨ (fi0 0).toInt ≤ p1.toInt)) := by omega
      have hz11 : narrow .boolean (.int t9) = .int t9 := z_nz (by constructor <;> omega)
      exact W.zret (v := t9) hx hb hr hz11 (fun t ht hW => ⟨⟨t9, (), rfl, hq10, ⟨by rw [ht]; exact hP, hD⟩⟩, hS.F ht⟩) hS.2.2 dX1_isNumber_17

set_option maxHeartbeats 8000000 in
set_option maxRecDepth 100000 in
theorem c_X1_isLesser (l : Launch) (D : va_G) (ca : Nat → ClassId) (sa : Nat → Nat) (A : Nat → Prop) (rest : va_W) (r0 : Nat → Nat) (fi0 : Nat → Int32) (fl0 : Nat → Int64) (fa0 : Nat → Nat → Int32) (fb0 : Nat → Nat → Int64) (hv0 : Ok_CHG fi0 fa0) (p1 : Int32) (p2 : Int32) : Met l yX1_isLesser wsX1_isLesser ({ frames := 1, cells := 0, slots := 0, locals := 21 }) (va_Pc [.ref (r0 0), .int p1, .int p2] (zPre D ca sa A (w_CHG ca r0 fi0 fl0 fa0 fb0 (rest)))) (va_Qi (fun (r : Int32) (u : Unit) => ((r.toInt = 1 ∧ 0 ≤ p1.toInt ∧ p1.toInt < p2.toInt ∧ p2.toInt < (fi0 0).toInt) ∨ (r.toInt = 0 ∧ (p1.toInt < 0 ∨ p2.toInt ≤ p1.toInt ∨ p2.toInt < 0 ∨ (fi0 0).toInt ≤ p2.toInt)))) (fun u t => zPost D A (w_CHG ca r0 fi0 fl0 fa0 fb0 (rest)) t) A) 0 0 A := by
  refine Met.ofW (cc := cX1_isLesser) (maxL := 3) (ret := (some .boolean)) (by decide) rfl ?_
  intro p e s m args below meth c s₁ B hml hv9
  obtain ⟨rfl, hE, hP, hD⟩ := hv9
  have hx := B.exec
  have hb := B.bytes
  have hr := B.returns
  have hts := atoms_spec (ws := wsX1_isLesser) B.pre
  have hown : s.vm.findClass RX1 = some m.cls := findClass_of_methodNamed B.named
  have hlocks := B.notSynchronized
  have hK := hE.1
  have hF : CallFix p m c cX1_isLesser 3 s _ wsX1_isLesser RX1 := ⟨hx, hb, hml, hown, hts⟩
  have hS : va_S A s.heap s.heap [] := va_S.rf
  obtain ⟨⟨hv0i0, hv0j0⟩, hv0a6⟩ := hv0
  generalize hHe : s.heap = H at hP
  have hS : va_S A s.heap H [] := by rw [← hHe]; exact hS
  have hP : va_P D vwCl (((r0 0), .inr (1, [.int (fi0 0), .ref (r0 1), .ref (r0 2), .ref (r0 3), .ref (r0 4), .ref (r0 5), .ref (r0 6), .ref (r0 7), .ref (r0 8), .ref (r0 9), .long (fl0 0), .ref (r0 10)])) :: ((r0 1), .inl (ca 0, 60, .inl (fa0 0))) :: ((r0 2), .inl (ca 0, 60, .inl (fa0 1))) :: ((r0 3), .inl (ca 0, 60, .inl (fa0 2))) :: ((r0 4), .inl (ca 0, 60, .inl (fa0 3))) :: ((r0 5), .inl (ca 0, 60, .inl (fa0 4))) :: ((r0 6), .inl (ca 0, 60, .inl (fa0 5))) :: ((r0 7), .inl (ca 0, 60, .inl (fa0 6))) :: ((r0 8), .inl (ca 0, 180, .inl (fa0 7))) :: ((r0 9), .inl (ca 1, 60, .inr (.inl (fb0 0)))) :: ((r0 10), .inr (0, [.ref (r0 11)])) :: ((r0 11), .inl (ca 1, 400, .inr (.inl (fb0 1)))) :: rest) H := hP
  have hD : va_D A (((r0 0), .inr (1, [.int (fi0 0), .ref (r0 1), .ref (r0 2), .ref (r0 3), .ref (r0 4), .ref (r0 5), .ref (r0 6), .ref (r0 7), .ref (r0 8), .ref (r0 9), .long (fl0 0), .ref (r0 10)])) :: ((r0 1), .inl (ca 0, 60, .inl (fa0 0))) :: ((r0 2), .inl (ca 0, 60, .inl (fa0 1))) :: ((r0 3), .inl (ca 0, 60, .inl (fa0 2))) :: ((r0 4), .inl (ca 0, 60, .inl (fa0 3))) :: ((r0 5), .inl (ca 0, 60, .inl (fa0 4))) :: ((r0 6), .inl (ca 0, 60, .inl (fa0 5))) :: ((r0 7), .inl (ca 0, 60, .inl (fa0 6))) :: ((r0 8), .inl (ca 0, 180, .inl (fa0 7))) :: ((r0 9), .inl (ca 1, 60, .inr (.inl (fb0 0)))) :: ((r0 10), .inr (0, [.ref (r0 11)])) :: ((r0 11), .inl (ca 1, 400, .inr (.inl (fb0 1)))) :: rest) := hD
  have hl := lv_entry ([.ref (r0 0), .int p1, .int p2]) (n := 3) (Nat.le_of_ble_eq_true rfl)
  rw [lg_entry_eq]
  generalize (lg_sl ([.ref (r0 0), .int p1, .int p2]) ++ List.replicate (3 - (lg_sl ([.ref (r0 0), .int p1, .int p2])).length) Slot.unset).toArray = ls at hl ⊢
  have hl : lv_has ls 3 [(0, .ref (r0 0)), (1, .int p1), (2, .int p2)] := hl
  generalize hQ9 : MQ below _ _ s 0 0 A = Q9
  refine lv_aload_n hx hb dX1_isLesser_0 rfl (lv_at hl 0 rfl) ?_
  refine lv_iload_n hx hb dX1_isLesser_1 rfl (lv_at hl 2 rfl) ?_
  have ho1 : (0 ≤ (fi0 0).toInt ∧ (fi0 0).toInt ≤ 60) ∧ z_rng 0 3 (fa0 6) := ⟨⟨by omega, by omega⟩, hv0a6⟩
  refine z_iV (As := [.int p2]) (rest := []) hF (c_X1_isNumber l D ca sa A rest (zl 0 [(r0 0), (r0 1), (r0 2), (r0 3), (r0 4), (r0 5), (r0 6), (r0 7), (r0 8), (r0 9), (r0 10), (r0 11)]) (zl 0 [(fi0 0)]) (zl 0 [(fl0 0)]) (zl (fun _ => 0) [(fa0 0), (fa0 1), (fa0 2), (fa0 3), (fa0 4), (fa0 5), (fa0 6), (fa0 7)]) (zl (fun _ => 0) [(fb0 0), (fb0 1)]) ho1 p2) (cwV 1 hts gX1_isLesser_X1_isNumber rfl rfl rfl (by decide +kernel) ⟨Nat.le_of_ble_eq_true rfl, Nat.le_of_ble_eq_true rfl⟩) hE hP hD hS 1 0 rfl rfl rfl hl.1 rfl (Nat.le_of_ble_eq_true rfl) dX1_isLesser_2 ⟨Nat.zero_le _, Nat.zero_le _⟩ (fun t3 u2 H locs hw4 hP hD hS => ?_)
  have hw4 : ((t3.toInt = 1 ∧ 0 ≤ p2.toInt ∧ p2.toInt < (fi0 0).toInt) ∨ (t3.toInt = 0 ∧ (p2.toInt < 0 ∨ (fi0 0).toInt ≤ p2.toInt))) := hw4
  obtain hq5 := hw4
  have hP : va_P D vwCl (((r0 0), .inr (1, [.int (fi0 0), .ref (r0 1), .ref (r0 2), .ref (r0 3), .ref (r0 4), .ref (r0 5), .ref (r0 6), .ref (r0 7), .ref (r0 8), .ref (r0 9), .long (fl0 0), .ref (r0 10)])) :: ((r0 1), .inl (ca 0, 60, .inl (fa0 0))) :: ((r0 2), .inl (ca 0, 60, .inl (fa0 1))) :: ((r0 3), .inl (ca 0, 60, .inl (fa0 2))) :: ((r0 4), .inl (ca 0, 60, .inl (fa0 3))) :: ((r0 5), .inl (ca 0, 60, .inl (fa0 4))) :: ((r0 6), .inl (ca 0, 60, .inl (fa0 5))) :: ((r0 7), .inl (ca 0, 60, .inl (fa0 6))) :: ((r0 8), .inl (ca 0, 180, .inl (fa0 7))) :: ((r0 9), .inl (ca 1, 60, .inr (.inl (fb0 0)))) :: ((r0 10), .inr (0, [.ref (r0 11)])) :: ((r0 11), .inl (ca 1, 400, .inr (.inl (fb0 1)))) :: rest) H := hP
  have hD : va_D A (((r0 0), .inr (1, [.int (fi0 0), .ref (r0 1), .ref (r0 2), .ref (r0 3), .ref (r0 4), .ref (r0 5), .ref (r0 6), .ref (r0 7), .ref (r0 8), .ref (r0 9), .long (fl0 0), .ref (r0 10)])) :: ((r0 1), .inl (ca 0, 60, .inl (fa0 0))) :: ((r0 2), .inl (ca 0, 60, .inl (fa0 1))) :: ((r0 3), .inl (ca 0, 60, .inl (fa0 2))) :: ((r0 4), .inl (ca 0, 60, .inl (fa0 3))) :: ((r0 5), .inl (ca 0, 60, .inl (fa0 4))) :: ((r0 6), .inl (ca 0, 60, .inl (fa0 5))) :: ((r0 7), .inl (ca 0, 60, .inl (fa0 6))) :: ((r0 8), .inl (ca 0, 180, .inl (fa0 7))) :: ((r0 9), .inl (ca 1, 60, .inr (.inl (fb0 0)))) :: ((r0 10), .inr (0, [.ref (r0 11)])) :: ((r0 11), .inl (ca 1, 400, .inr (.inl (fb0 1)))) :: rest) := hD
  refine lv_if_eq (tgt := 21) hx hb dX1_isLesser_5 (by decide) (fun c6 => ?_) (fun c6 => ?_)
  ·
    have c6 := z_eq (i := t3.toInt) (j := 0) rfl (by decide) c6
    refine lv_iconst (v := 0) hx hb dX1_isLesser_21 (by decide) ?_
    subst hQ9
    refine lv_topi (fun t7 et7 => ?_)
    have ht7 : t7.toInt = 0 := by rw [et7]; decide
    have hq8 : (t7.toInt = 1 ∧ 0 ≤ p1.toInt ∧ p1.toInt < p2.toInt ∧ p2.toInt < (fi0 0).toInt) ∨ (t7.toInt = 0 ∧ (p1.toInt < 0 ∨ p2.toInt ≤ p1.toInt ∨ p2.toInt < 0 ∨ (fi0 0).toInt ≤ p2.toInt)) := by omega
    have hz9 : narrow .boolean (.int t7) = .int t7 := z_nz (by constructor <;> omega)
    exact W.zret (v := t7) hx hb hr hz9 (fun t ht hW => ⟨⟨t7, (), rfl, hq8, ⟨by rw [ht]; exact hP, hD⟩⟩, hS.F ht⟩) hS.2.2 dX1_isLesser_22
  ·
    have c6 := z_ne (i := t3.toInt) (j := 0) rfl (by decide) c6
    refine lv_iload_n hx hb dX1_isLesser_8 rfl (lv_at hl 1 rfl) ?_
    refine lv_if_lt (tgt := 21) hx hb dX1_isLesser_9 (by decide) (fun c10 => ?_) (fun c10 => ?_)
    ·
      have c10 := z_lt (i := p1.toInt) (j := 0) rfl (by decide) c10
      refine lv_iconst (v := 0) hx hb dX1_isLesser_21 (by decide) ?_
      subst hQ9
      refine lv_topi (fun t11 et11 => ?_)
      have ht11 : t11.toInt = 0 := by rw [et11]; decide
      have hq12 : (t11.toInt = 1 ∧ 0 ≤ p1.toInt ∧ p1.toInt < p2.toInt ∧ p2.toInt < (fi0 0).toInt) ∨ (t11.toInt = 0 ∧ (p1.toInt < 0 ∨ p2.toInt ≤ p1.toInt ∨ p2.toInt < 0 ∨ (fi0 0).toInt ≤ p2.toInt)) := by omega
      have hz13 : narrow .boolean (.int t11) = .int t11 := z_nz (by constructor <;> omega)
      exact W.zret (v := t11) hx hb hr hz13 (fun t ht hW => ⟨⟨t11, (), rfl, hq12, ⟨by rw [ht]; exact hP, hD⟩⟩, hS.F ht⟩) hS.2.2 dX1_isLesser_22
    ·
      have c10 := z_nlt (i := p1.toInt) (j := 0) rfl (by decide) c10
      refine lv_iload_n hx hb dX1_isLesser_12 rfl (lv_at hl 1 rfl) ?_
      refine lv_iload_n hx hb dX1_isLesser_13 rfl (lv_at hl 2 rfl) ?_
      refine lv_icmp_ge (tgt := 21) hx hb dX1_isLesser_14 (by decide) (fun c14 => ?_) (fun c14 => ?_)
      ·
        have c14 := z_le (i := p2.toInt) (j := p1.toInt) rfl rfl c14
        refine lv_iconst (v := 0) hx hb dX1_isLesser_21 (by decide) ?_
        subst hQ9
        refine lv_topi (fun t15 et15 => ?_)
        have ht15 : t15.toInt = 0 := by rw [et15]; decide
        have hq16 : (t15.toInt = 1 ∧ 0 ≤ p1.toInt ∧ p1.toInt < p2.toInt ∧ p2.toInt < (fi0 0).toInt) ∨ (t15.toInt = 0 ∧ (p1.toInt < 0 ∨ p2.toInt ≤ p1.toInt ∨ p2.toInt < 0 ∨ (fi0 0).toInt ≤ p2.toInt)) := by omega
        have hz17 : narrow .boolean (.int t15) = .int t15 := z_nz (by constructor <;> omega)
        exact W.zret (v := t15) hx hb hr hz17 (fun t ht hW => ⟨⟨t15, (), rfl, hq16, ⟨by rw [ht]; exact hP, hD⟩⟩, hS.F ht⟩) hS.2.2 dX1_isLesser_22
      ·
        have c14 := z_nle (i := p2.toInt) (j := p1.toInt) rfl rfl c14
        refine lv_iconst (v := 1) hx hb dX1_isLesser_17 (by decide) ?_
        refine lv_goto (tgt := 22) hx hb dX1_isLesser_18 (by decide) ?_
        subst hQ9
        refine lv_topi (fun t18 et18 => ?_)
        have ht18 : t18.toInt = 1 := by rw [et18]; decide
        have hq19 : (t18.toInt = 1 ∧ 0 ≤ p1.toInt ∧ p1.toInt < p2.toInt ∧ p2.toInt < (fi0 0).toInt) ∨ (t18.toInt = 0 ∧ (p1.toInt < 0 ∨ p2.toInt ≤ p1.toInt ∨ p2.toInt < 0 ∨ (fi0 0).toInt ≤ p2.toInt)) := by omega
        have hz20 : narrow .boolean (.int t18) = .int t18 := z_nz (by constructor <;> omega)
        exact W.zret (v := t18) hx hb hr hz20 (fun t ht hW => ⟨⟨t18, (), rfl, hq19, ⟨by rw [ht]; exact hP, hD⟩⟩, hS.F ht⟩) hS.2.2 dX1_isLesser_22

set_option maxHeartbeats 8000000 in
set_option maxRecDepth 100000 in
theorem c_X1_hangAt (l : Launch) (D : va_G) (ca : Nat → ClassId) (sa : Nat → Nat) (A : Nat → Prop) (rest : va_W) (r0 : Nat → Nat) (fi0 : Nat → Int32) (fl0 : Nat → Int64) (fa0 : Nat → Nat → Int32) (fb0 : Nat → Nat → Int64) (hv0 : Ok_CHG fi0 fa0) (p1 : Int32) (p2 : Int32) (hpre0 : 0 ≤ p1.toInt ∧ p1.toInt ≤ 59) : Met l yX1_hangAt wsX1_hangAt ({ frames := 0, cells := 0, slots := 0, locals := 0 }) (va_Pc [.ref (r0 0), .int p1, .int p2] (zPre D ca sa A (w_CHG ca r0 fi0 fl0 fa0 fb0 (rest)))) (va_Qi (fun (r : Int32) (u : Unit) => True) (fun u t => zPost D A (w_CHG ca r0 fi0 fl0 fa0 fb0 (rest)) t) A) 0 0 A := by
  refine Met.ofW (cc := cX1_hangAt) (maxL := 3) (ret := (some .int)) (by decide) rfl ?_
  intro p e s m args below meth c s₁ B hml hv9
  obtain ⟨rfl, hE, hP, hD⟩ := hv9
  have hx := B.exec
  have hb := B.bytes
  have hr := B.returns
  have hts := atoms_spec (ws := wsX1_hangAt) B.pre
  have hown : s.vm.findClass RX1 = some m.cls := findClass_of_methodNamed B.named
  have hlocks := B.notSynchronized
  have hK := hE.1
  have hF : CallFix p m c cX1_hangAt 3 s _ wsX1_hangAt RX1 := ⟨hx, hb, hml, hown, hts⟩
  have hS : va_S A s.heap s.heap [] := va_S.rf
  have lk34 := hts (.fieldLink RX1 34 "BranchPlay$Changes" "hangCount" "[I") (by decide +kernel)
  have inX1 : ∀ w ∈ wsX10, w ∈ wsX1_hangAt := by decide +kernel
  have lk37 := hts (.fieldLink RX1 37 "BranchPlay$Changes" "hangs" "[I") (by decide +kernel)
  obtain ⟨⟨hv0i0, hv0j0⟩, hv0a6⟩ := hv0
  generalize hHe : s.heap = H at hP
  have hS : va_S A s.heap H [] := by rw [← hHe]; exact hS
  have hP : va_P D vwCl (((r0 0), .inr (1, [.int (fi0 0), .ref (r0 1), .ref (r0 2), .ref (r0 3), .ref (r0 4), .ref (r0 5), .ref (r0 6), .ref (r0 7), .ref (r0 8), .ref (r0 9), .long (fl0 0), .ref (r0 10)])) :: ((r0 1), .inl (ca 0, 60, .inl (fa0 0))) :: ((r0 2), .inl (ca 0, 60, .inl (fa0 1))) :: ((r0 3), .inl (ca 0, 60, .inl (fa0 2))) :: ((r0 4), .inl (ca 0, 60, .inl (fa0 3))) :: ((r0 5), .inl (ca 0, 60, .inl (fa0 4))) :: ((r0 6), .inl (ca 0, 60, .inl (fa0 5))) :: ((r0 7), .inl (ca 0, 60, .inl (fa0 6))) :: ((r0 8), .inl (ca 0, 180, .inl (fa0 7))) :: ((r0 9), .inl (ca 1, 60, .inr (.inl (fb0 0)))) :: ((r0 10), .inr (0, [.ref (r0 11)])) :: ((r0 11), .inl (ca 1, 400, .inr (.inl (fb0 1)))) :: rest) H := hP
  have hD : va_D A (((r0 0), .inr (1, [.int (fi0 0), .ref (r0 1), .ref (r0 2), .ref (r0 3), .ref (r0 4), .ref (r0 5), .ref (r0 6), .ref (r0 7), .ref (r0 8), .ref (r0 9), .long (fl0 0), .ref (r0 10)])) :: ((r0 1), .inl (ca 0, 60, .inl (fa0 0))) :: ((r0 2), .inl (ca 0, 60, .inl (fa0 1))) :: ((r0 3), .inl (ca 0, 60, .inl (fa0 2))) :: ((r0 4), .inl (ca 0, 60, .inl (fa0 3))) :: ((r0 5), .inl (ca 0, 60, .inl (fa0 4))) :: ((r0 6), .inl (ca 0, 60, .inl (fa0 5))) :: ((r0 7), .inl (ca 0, 60, .inl (fa0 6))) :: ((r0 8), .inl (ca 0, 180, .inl (fa0 7))) :: ((r0 9), .inl (ca 1, 60, .inr (.inl (fb0 0)))) :: ((r0 10), .inr (0, [.ref (r0 11)])) :: ((r0 11), .inl (ca 1, 400, .inr (.inl (fb0 1)))) :: rest) := hD
  have hl := lv_entry ([.ref (r0 0), .int p1, .int p2]) (n := 3) (Nat.le_of_ble_eq_true rfl)
  rw [lg_entry_eq]
  generalize (lg_sl ([.ref (r0 0), .int p1, .int p2]) ++ List.replicate (3 - (lg_sl ([.ref (r0 0), .int p1, .int p2])).length) Slot.unset).toArray = ls at hl ⊢
  have hl : lv_has ls 3 [(0, .ref (r0 0)), (1, .int p1), (2, .int p2)] := hl
  generalize hQ9 : MQ below _ _ s 0 0 A = Q9
  refine lv_iload_n hx hb dX1_hangAt_0 rfl (lv_at hl 2 rfl) ?_
  refine lv_bipush (v := 10) hx hb dX1_hangAt_1 (by decide) ?_
  refine lv_icmp_lt (tgt := 19) hx hb dX1_hangAt_3 (by decide) (fun c1 => ?_) (fun c1 => ?_)
  ·
    have c1 := z_lt (i := p2.toInt) (j := 10) rfl (by decide) c1
    refine lv_bipush (v := (-9)) hx hb dX1_hangAt_19 (by decide) ?_
    subst hQ9
    refine lv_topi (fun t2 et2 => ?_)
    have ht2 : t2.toInt = (-9) := by rw [et2]; decide
    exact W.iret (v := t2) hx hb hr (fun t ht hW => ⟨⟨t2, (), rfl, trivial, ⟨by rw [ht]; exact hP, hD⟩⟩, hS.F ht⟩) hS.2.2 dX1_hangAt_21
  ·
    have c1 := z_nlt (i := p2.toInt) (j := 10) rfl (by decide) c1
    refine lv_iload_n hx hb dX1_hangAt_6 rfl (lv_at hl 2 rfl) ?_
    refine lv_bipush (v := 10) hx hb dX1_hangAt_7 (by decide) ?_
    refine lv_aload_n hx hb dX1_hangAt_9 rfl (lv_at hl 0 rfl) ?_
    refine va_get (D := D) (ci := 1) (v := .ref (r0 7)) (C := RX1) (T := TX1) (N := 12) hx hb hts inX1 hown hK hP 0 rfl rfl 7 (by decide) lk34 (fun _ h9 => h9) rfl dX1_hangAt_10 ?_
    refine lv_iload_n hx hb dX1_hangAt_13 rfl (lv_at hl 1 rfl) ?_
    have hi3 : vp_in p1 60 := z_in (i := p1.toInt) rfl (by omega) (by omega)
    refine va_iald hx hb hK hP 7 0 rfl rfl hi3 dX1_hangAt_14 ?_
    refine lv_topi (fun t4 et4 => ?_)
    have ht4 := z_at hv0a6 et4
    refine lv_iadd hx hb dX1_hangAt_15 ?_
    refine lv_topi (fun t5 et5 => ?_)
    try have ht5 : t5.toInt = 10 + t4.toInt := z_add et5 (by decide) rfl (by omega) (by omega)
    refine lv_icmp_lt (tgt := 22) hx hb dX1_hangAt_16 (by decide) (fun c6 => ?_) (fun c6 => ?_)
    ·
      have c6 := z_lt (i := p2.toInt) (j := t5.toInt) rfl rfl c6
      refine lv_aload_n hx hb dX1_hangAt_22 rfl (lv_at hl 0 rfl) ?_
      refine va_get (D := D) (ci := 1) (v := .ref (r0 8)) (C := RX1) (T := TX1) (N := 12) hx hb hts inX1 hown hK hP 0 rfl rfl 8 (by decide) lk37 (fun _ h9 => h9) rfl dX1_hangAt_23 ?_
      refine lv_iload_n hx hb dX1_hangAt_26 rfl (lv_at hl 1 rfl) ?_
      refine lv_iconst (v := 3) hx hb dX1_hangAt_27 (by decide) ?_
      refine lv_imul hx hb dX1_hangAt_28 ?_
      refine lv_topi (fun t7 et7 => ?_)
      try have ht7 : t7.toInt = p1.toInt * 3 := z_mul et7 rfl (by decide) (by omega) (by omega)
      refine lv_iload_n hx hb dX1_hangAt_29 rfl (lv_at hl 2 rfl) ?_
      refine lv_iadd hx hb dX1_hangAt_30 ?_
      refine lv_topi (fun t8 et8 => ?_)
      try have ht8 : t8.toInt = t7.toInt + p2.toInt := z_add et8 rfl rfl (by omega) (by omega)
      refine lv_bipush (v := 10) hx hb dX1_hangAt_31 (by decide) ?_
      refine lv_isub hx hb dX1_hangAt_33 ?_
      refine lv_topi (fun t9 et9 => ?_)
      try have ht9 : t9.toInt = t8.toInt - 10 := z_sub et9 rfl (by decide) (by omega) (by omega)
      have hi10 : vp_in t9 180 := z_in (i := t9.toInt) rfl (by omega) (by omega)
      refine va_iald hx hb hK hP 8 0 rfl rfl hi10 dX1_hangAt_34 ?_
      refine lv_topi (fun t11 et11 => ?_)
      subst hQ9
      exact W.iret (v := t11) hx hb hr (fun t ht hW => ⟨⟨t11, (), rfl, trivial, ⟨by rw [ht]; exact hP, hD⟩⟩, hS.F ht⟩) hS.2.2 dX1_hangAt_35
    ·
      have c6 := z_nlt (i := p2.toInt) (j := t5.toInt) rfl rfl c6
      refine lv_bipush (v := (-9)) hx hb dX1_hangAt_19 (by decide) ?_
      subst hQ9
      refine lv_topi (fun t12 et12 => ?_)
      have ht12 : t12.toInt = (-9) := by rw [et12]; decide
      exact W.iret (v := t12) hx hb hr (fun t ht hW => ⟨⟨t12, (), rfl, trivial, ⟨by rw [ht]; exact hP, hD⟩⟩, hS.F ht⟩) hS.2.2 dX1_hangAt_21

set_option maxHeartbeats 8000000 in
set_option maxRecDepth 100000 in
theorem c_X1_tell (l : Launch) (D : va_G) (ca : Nat → ClassId) (sa : Nat → Nat) (A : Nat → Prop) (rest : va_W) (r0 : Nat → Nat) (fi0 : Nat → Int32) (fl0 : Nat → Int64) (fa0 : Nat → Nat → Int32) (fb0 : Nat → Nat → Int64) (hv0 : Ok_CHG fi0 fa0) (p1 : Int32) (p2 : Int32) (hpre0 : 0 ≤ p1.toInt ∧ p1.toInt ≤ 59) : Met l yX1_tell wsX1_tell ({ frames := 1, cells := 0, slots := 0, locals := 22 }) (va_Pc [.ref (r0 0), .int p1, .int p2] (zPre D ca sa A (w_CHG ca r0 fi0 fl0 fa0 fb0 (rest)))) (va_Qi (fun (r : Int32) (u : Unit) => True) (fun u t => zPost D A (w_CHG ca r0 fi0 fl0 fa0 fb0 (rest)) t) A) 0 0 A := by
  refine Met.ofW (cc := cX1_tell) (maxL := 3) (ret := (some .int)) (by decide) rfl ?_
  intro p e s m args below meth c s₁ B hml hv9
  obtain ⟨rfl, hE, hP, hD⟩ := hv9
  have hx := B.exec
  have hb := B.bytes
  have hr := B.returns
  have hts := atoms_spec (ws := wsX1_tell) B.pre
  have hown : s.vm.findClass RX1 = some m.cls := findClass_of_methodNamed B.named
  have hlocks := B.notSynchronized
  have hK := hE.1
  have hF : CallFix p m c cX1_tell 3 s _ wsX1_tell RX1 := ⟨hx, hb, hml, hown, hts⟩
  have hS : va_S A s.heap s.heap [] := va_S.rf
  have lk15 := hts (.fieldLink RX1 15 "BranchPlay$Changes" "birth" "[I") (by decide +kernel)
  have inX1 : ∀ w ∈ wsX10, w ∈ wsX1_tell := by decide +kernel
  have lk19 := hts (.fieldLink RX1 19 "BranchPlay$Changes" "regions" "[I") (by decide +kernel)
  have lk22 := hts (.fieldLink RX1 22 "BranchPlay$Changes" "size" "[I") (by decide +kernel)
  have lk25 := hts (.fieldLink RX1 25 "BranchPlay$Changes" "breakAfter" "[I") (by decide +kernel)
  have lk28 := hts (.fieldLink RX1 28 "BranchPlay$Changes" "fixOf" "[I") (by decide +kernel)
  have lk31 := hts (.fieldLink RX1 31 "BranchPlay$Changes" "fixedBy" "[I") (by decide +kernel)
  have lk34 := hts (.fieldLink RX1 34 "BranchPlay$Changes" "hangCount" "[I") (by decide +kernel)
  obtain ⟨⟨hv0i0, hv0j0⟩, hv0a6⟩ := hv0
  generalize hHe : s.heap = H at hP
  have hS : va_S A s.heap H [] := by rw [← hHe]; exact hS
  have hP : va_P D vwCl (((r0 0), .inr (1, [.int (fi0 0), .ref (r0 1), .ref (r0 2), .ref (r0 3), .ref (r0 4), .ref (r0 5), .ref (r0 6), .ref (r0 7), .ref (r0 8), .ref (r0 9), .long (fl0 0), .ref (r0 10)])) :: ((r0 1), .inl (ca 0, 60, .inl (fa0 0))) :: ((r0 2), .inl (ca 0, 60, .inl (fa0 1))) :: ((r0 3), .inl (ca 0, 60, .inl (fa0 2))) :: ((r0 4), .inl (ca 0, 60, .inl (fa0 3))) :: ((r0 5), .inl (ca 0, 60, .inl (fa0 4))) :: ((r0 6), .inl (ca 0, 60, .inl (fa0 5))) :: ((r0 7), .inl (ca 0, 60, .inl (fa0 6))) :: ((r0 8), .inl (ca 0, 180, .inl (fa0 7))) :: ((r0 9), .inl (ca 1, 60, .inr (.inl (fb0 0)))) :: ((r0 10), .inr (0, [.ref (r0 11)])) :: ((r0 11), .inl (ca 1, 400, .inr (.inl (fb0 1)))) :: rest) H := hP
  have hD : va_D A (((r0 0), .inr (1, [.int (fi0 0), .ref (r0 1), .ref (r0 2), .ref (r0 3), .ref (r0 4), .ref (r0 5), .ref (r0 6), .ref (r0 7), .ref (r0 8), .ref (r0 9), .long (fl0 0), .ref (r0 10)])) :: ((r0 1), .inl (ca 0, 60, .inl (fa0 0))) :: ((r0 2), .inl (ca 0, 60, .inl (fa0 1))) :: ((r0 3), .inl (ca 0, 60, .inl (fa0 2))) :: ((r0 4), .inl (ca 0, 60, .inl (fa0 3))) :: ((r0 5), .inl (ca 0, 60, .inl (fa0 4))) :: ((r0 6), .inl (ca 0, 60, .inl (fa0 5))) :: ((r0 7), .inl (ca 0, 60, .inl (fa0 6))) :: ((r0 8), .inl (ca 0, 180, .inl (fa0 7))) :: ((r0 9), .inl (ca 1, 60, .inr (.inl (fb0 0)))) :: ((r0 10), .inr (0, [.ref (r0 11)])) :: ((r0 11), .inl (ca 1, 400, .inr (.inl (fb0 1)))) :: rest) := hD
  have hl := lv_entry ([.ref (r0 0), .int p1, .int p2]) (n := 3) (Nat.le_of_ble_eq_true rfl)
  rw [lg_entry_eq]
  generalize (lg_sl ([.ref (r0 0), .int p1, .int p2]) ++ List.replicate (3 - (lg_sl ([.ref (r0 0), .int p1, .int p2])).length) Slot.unset).toArray = ls at hl ⊢
  have hl : lv_has ls 3 [(0, .ref (r0 0)), (1, .int p1), (2, .int p2)] := hl
  generalize hQ9 : MQ below _ _ s 0 0 A = Q9
  refine lv_iload_n hx hb dX1_tell_0 rfl (lv_at hl 2 rfl) ?_
  by_cases c1 : p2.toInt = 0
  ·
    refine lv_tableIn (tgt := 44) hx hb dX1_tell_1 (by omega) (by omega) (by rw [c1]; rfl) (by decide) ?_
    refine lv_aload_n hx hb dX1_tell_44 rfl (lv_at hl 0 rfl) ?_
    refine va_get (D := D) (ci := 1) (v := .ref (r0 1)) (C := RX1) (T := TX1) (N := 12) hx hb hts inX1 hown hK hP 0 rfl rfl 1 (by decide) lk15 (fun _ h9 => h9) rfl dX1_tell_45 ?_
    refine lv_iload_n hx hb dX1_tell_48 rfl (lv_at hl 1 rfl) ?_
    have hi2 : vp_in p1 60 := z_in (i := p1.toInt) rfl (by omega) (by omega)
    refine va_iald hx hb hK hP 1 0 rfl rfl hi2 dX1_tell_49 ?_
    refine lv_topi (fun t3 et3 => ?_)
    subst hQ9
    exact W.iret (v := t3) hx hb hr (fun t ht hW => ⟨⟨t3, (), rfl, trivial, ⟨by rw [ht]; exact hP, hD⟩⟩, hS.F ht⟩) hS.2.2 dX1_tell_50
  by_cases c4 : p2.toInt = 1
  ·
    refine lv_tableIn (tgt := 51) hx hb dX1_tell_1 (by omega) (by omega) (by rw [c4]; rfl) (by decide) ?_
    refine lv_aload_n hx hb dX1_tell_51 rfl (lv_at hl 0 rfl) ?_
    refine va_get (D := D) (ci := 1) (v := .ref (r0 2)) (C := RX1) (T := TX1) (N := 12) hx hb hts inX1 hown hK hP 0 rfl rfl 2 (by decide) lk19 (fun _ h9 => h9) rfl dX1_tell_52 ?_
    refine lv_iload_n hx hb dX1_tell_55 rfl (lv_at hl 1 rfl) ?_
    have hi5 : vp_in p1 60 := z_in (i := p1.toInt) rfl (by omega) (by omega)
    refine va_iald hx hb hK hP 2 0 rfl rfl hi5 dX1_tell_56 ?_
    refine lv_topi (fun t6 et6 => ?_)
    subst hQ9
    exact W.iret (v := t6) hx hb hr (fun t ht hW => ⟨⟨t6, (), rfl, trivial, ⟨by rw [ht]; exact hP, hD⟩⟩, hS.F ht⟩) hS.2.2 dX1_tell_57
  by_cases c7 : p2.toInt = 2
  ·
    refine lv_tableIn (tgt := 58) hx hb dX1_tell_1 (by omega) (by omega) (by rw [c7]; rfl) (by decide) ?_
    refine lv_aload_n hx hb dX1_tell_58 rfl (lv_at hl 0 rfl) ?_
    refine va_get (D := D) (ci := 1) (v := .ref (r0 3)) (C := RX1) (T := TX1) (N := 12) hx hb hts inX1 hown hK hP 0 rfl rfl 3 (by decide) lk22 (fun _ h9 => h9) rfl dX1_tell_59 ?_
    refine lv_iload_n hx hb dX1_tell_62 rfl (lv_at hl 1 rfl) ?_
    have hi8 : vp_in p1 60 := z_in (i := p1.toInt) rfl (by omega) (by omega)
    refine va_iald hx hb hK hP 3 0 rfl rfl hi8 dX1_tell_63 ?_
    refine lv_topi (fun t9 et9 => ?_)
    subst hQ9
    exact W.iret (v := t9) hx hb hr (fun t ht hW => ⟨⟨t9, (), rfl, trivial, ⟨by rw [ht]; exact hP, hD⟩⟩, hS.F ht⟩) hS.2.2 dX1_tell_64
  by_cases c10 : p2.toInt = 3
  ·
    refine lv_tableIn (tgt := 65) hx hb dX1_tell_1 (by omega) (by omega) (by rw [c10]; rfl) (by decide) ?_
    refine lv_aload_n hx hb dX1_tell_65 rfl (lv_at hl 0 rfl) ?_
    refine va_get (D := D) (ci := 1) (v := .ref (r0 4)) (C := RX1) (T := TX1) (N := 12) hx hb hts inX1 hown hK hP 0 rfl rfl 4 (by decide) lk25 (fun _ h9 => h9) rfl dX1_tell_66 ?_
    refine lv_iload_n hx hb dX1_tell_69 rfl (lv_at hl 1 rfl) ?_
    have hi11 : vp_in p1 60 := z_in (i := p1.toInt) rfl (by omega) (by omega)
    refine va_iald hx hb hK hP 4 0 rfl rfl hi11 dX1_tell_70 ?_
    refine lv_topi (fun t12 et12 => ?_)
    subst hQ9
    exact W.iret (v := t12) hx hb hr (fun t ht hW => ⟨⟨t12, (), rfl, trivial, ⟨by rw [ht]; exact hP, hD⟩⟩, hS.F ht⟩) hS.2.2 dX1_tell_71
  by_cases c13 : p2.toInt = 4
  ·
    refine lv_tableIn (tgt := 72) hx hb dX1_tell_1 (by omega) (by omega) (by rw [c13]; rfl) (by decide) ?_
    refine lv_aload_n hx hb dX1_tell_72 rfl (lv_at hl 0 rfl) ?_
    refine va_get (D := D) (ci := 1) (v := .ref (r0 5)) (C := RX1) (T := TX1) (N := 12) hx hb hts inX1 hown hK hP 0 rfl rfl 5 (by decide) lk28 (fun _ h9 => h9) rfl dX1_tell_73 ?_
    refine lv_iload_n hx hb dX1_tell_76 rfl (lv_at hl 1 rfl) ?_
    have hi14 : vp_in p1 60 := z_in (i := p1.toInt) rfl (by omega) (by omega)
    refine va_iald hx hb hK hP 5 0 rfl rfl hi14 dX1_tell_77 ?_
    refine lv_topi (fun t15 et15 => ?_)
    subst hQ9
    exact W.iret (v := t15) hx hb hr (fun t ht hW => ⟨⟨t15, (), rfl, trivial, ⟨by rw [ht]; exact hP, hD⟩⟩, hS.F ht⟩) hS.2.2 dX1_tell_78
  by_cases c16 : p2.toInt = 5
  ·
    refine lv_tableIn (tgt := 79) hx hb dX1_tell_1 (by omega) (by omega) (by rw [c16]; rfl) (by decide) ?_
    refine lv_aload_n hx hb dX1_tell_79 rfl (lv_at hl 0 rfl) ?_
    refine va_get (D := D) (ci := 1) (v := .ref (r0 6)) (C := RX1) (T := TX1) (N := 12) hx hb hts inX1 hown hK hP 0 rfl rfl 6 (by decide) lk31 (fun _ h9 => h9) rfl dX1_tell_80 ?_
    refine lv_iload_n hx hb dX1_tell_83 rfl (lv_at hl 1 rfl) ?_
    have hi17 : vp_in p1 60 := z_in (i := p1.toInt) rfl (by omega) (by omega)
    refine va_iald hx hb hK hP 6 0 rfl rfl hi17 dX1_tell_84 ?_
    refine lv_topi (fun t18 et18 => ?_)
    subst hQ9
    exact W.iret (v := t18) hx hb hr (fun t ht hW => ⟨⟨t18, (), rfl, trivial, ⟨by rw [ht]; exact hP, hD⟩⟩, hS.F ht⟩) hS.2.2 dX1_tell_85
  by_cases c19 : p2.toInt = 6
  ·
    refine lv_tableIn (tgt := 86) hx hb dX1_tell_1 (by omega) (by omega) (by rw [c19]; rfl) (by decide) ?_
    refine lv_aload_n hx hb dX1_tell_86 rfl (lv_at hl 0 rfl) ?_
    refine va_get (D := D) (ci := 1) (v := .ref (r0 7)) (C := RX1) (T := TX1) (N := 12) hx hb hts inX1 hown hK hP 0 rfl rfl 7 (by decide) lk34 (fun _ h9 => h9) rfl dX1_tell_87 ?_
    refine lv_iload_n hx hb dX1_tell_90 rfl (lv_at hl 1 rfl) ?_
    have hi20 : vp_in p1 60 := z_in (i := p1.toInt) rfl (by omega) (by omega)
    refine va_iald hx hb hK hP 7 0 rfl rfl hi20 dX1_tell_91 ?_
    refine lv_topi (fun t21 et21 => ?_)
    have ht21 := z_at hv0a6 et21
    subst hQ9
    exact W.iret (v := t21) hx hb hr (fun t ht hW => ⟨⟨t21, (), rfl, trivial, ⟨by rw [ht]; exact hP, hD⟩⟩, hS.F ht⟩) hS.2.2 dX1_tell_92
  refine lv_tableOut (tgt := 93) hx hb dX1_tell_1 (by omega) (by decide) ?_
  refine lv_aload_n hx hb dX1_tell_93 rfl (lv_at hl 0 rfl) ?_
  refine lv_iload_n hx hb dX1_tell_94 rfl (lv_at hl 1 rfl) ?_
  refine lv_iload_n hx hb dX1_tell_95 rfl (lv_at hl 2 rfl) ?_
  have ho22 : (0 ≤ (fi0 0).toInt ∧ (fi0 0).toInt ≤ 60) ∧ z_rng 0 3 (fa0 6) := ⟨⟨by omega, by omega⟩, hv0a6⟩
  have hp23 : 0 ≤ p1.toInt ∧ p1.toInt ≤ 59 := by omega
  refine z_iV (As := [.int p1, .int p2]) (rest := []) hF (c_X1_hangAt l D ca sa A rest (zl 0 [(r0 0), (r0 1), (r0 2), (r0 3), (r0 4), (r0 5), (r0 6), (r0 7), (r0 8), (r0 9), (r0 10), (r0 11)]) (zl 0 [(fi0 0)]) (zl 0 [(fl0 0)]) (zl (fun _ => 0) [(fa0 0), (fa0 1), (fa0 2), (fa0 3), (fa0 4), (fa0 5), (fa0 6), (fa0 7)]) (zl (fun _ => 0) [(fb0 0), (fb0 1)]) ho22 p1 p2 hp23) (cwV 2 hts gX1_tell_X1_hangAt rfl rfl rfl (by decide +kernel) ⟨Nat.le_of_ble_eq_true rfl, Nat.le_of_ble_eq_true rfl⟩) hE hP hD hS 1 0 rfl rfl rfl hl.1 rfl (Nat.le_of_ble_eq_true rfl) dX1_tell_96 ⟨Nat.zero_le _, Nat.zero_le _⟩ (fun t25 u24 H locs hw26 hP hD hS => ?_)
  have hP : va_P D vwCl (((r0 0), .inr (1, [.int (fi0 0), .ref (r0 1), .ref (r0 2), .ref (r0 3), .ref (r0 4), .ref (r0 5), .ref (r0 6), .ref (r0 7), .ref (r0 8), .ref (r0 9), .long (fl0 0), .ref (r0 10)])) :: ((r0 1), .inl (ca 0, 60, .inl (fa0 0))) :: ((r0 2), .inl (ca 0, 60, .inl (fa0 1))) :: ((r0 3), .inl (ca 0, 60, .inl (fa0 2))) :: ((r0 4), .inl (ca 0, 60, .inl (fa0 3))) :: ((r0 5), .inl (ca 0, 60, .inl (fa0 4))) :: ((r0 6), .inl (ca 0, 60, .inl (fa0 5))) :: ((r0 7), .inl (ca 0, 60, .inl (fa0 6))) :: ((r0 8), .inl (ca 0, 180, .inl (fa0 7))) :: ((r0 9), .inl (ca 1, 60, .inr (.inl (fb0 0)))) :: ((r0 10), .inr (0, [.ref (r0 11)])) :: ((r0 11), .inl (ca 1, 400, .inr (.inl (fb0 1)))) :: rest) H := hP
  have hD : va_D A (((r0 0), .inr (1, [.int (fi0 0), .ref (r0 1), .ref (r0 2), .ref (r0 3), .ref (r0 4), .ref (r0 5), .ref (r0 6), .ref (r0 7), .ref (r0 8), .ref (r0 9), .long (fl0 0), .ref (r0 10)])) :: ((r0 1), .inl (ca 0, 60, .inl (fa0 0))) :: ((r0 2), .inl (ca 0, 60, .inl (fa0 1))) :: ((r0 3), .inl (ca 0, 60, .inl (fa0 2))) :: ((r0 4), .inl (ca 0, 60, .inl (fa0 3))) :: ((r0 5), .inl (ca 0, 60, .inl (fa0 4))) :: ((r0 6), .inl (ca 0, 60, .inl (fa0 5))) :: ((r0 7), .inl (ca 0, 60, .inl (fa0 6))) :: ((r0 8), .inl (ca 0, 180, .inl (fa0 7))) :: ((r0 9), .inl (ca 1, 60, .inr (.inl (fb0 0)))) :: ((r0 10), .inr (0, [.ref (r0 11)])) :: ((r0 11), .inl (ca 1, 400, .inr (.inl (fb0 1)))) :: rest) := hD
  subst hQ9
  exact W.iret (v := t25) hx hb hr (fun t ht hW => ⟨⟨t25, (), rfl, trivial, ⟨by rw [ht]; exact hP, hD⟩⟩, hS.F ht⟩) hS.2.2 dX1_tell_99

set_option maxHeartbeats 8000000 in
set_option maxRecDepth 100000 in
theorem c_X1_add (l : Launch) (D : va_G) (ca : Nat → ClassId) (sa : Nat → Nat) (A : Nat → Prop) (rest : va_W) (r0 : Nat → Nat) (fi0 : Nat → Int32) (fl0 : Nat → Int64) (fa0 : Nat → Nat → Int32) (fb0 : Nat → Nat → Int64) (hv0 : Ok_CHG fi0 fa0) (p1 : Int32) (p2 : Int32) (p3 : Int32) (p4 : Int32) : Met l yX1_add wsX1_add ({ frames := 1, cells := 0, slots := 0, locals := 22 }) (va_Pc [.ref (r0 0), .int p1, .int p2, .int p3, .int p4] (zPre D ca sa A (w_CHG ca r0 fi0 fl0 fa0 fb0 (rest)))) (va_Qi (fun (r : Int32) (u : zS) => Ok_CHG u.1 u.2.2.1) (fun u t => zPost D A (w_CHG ca r0 u.1 u.2.1 u.2.2.1 u.2.2.2 (rest)) t) A) 0 0 A := by
  refine Met.ofW (cc := cX1_add) (maxL := 7) (ret := (some .int)) (by decide) rfl ?_
  intro p e s m args below meth c s₁ B hml hv9
  obtain ⟨rfl, hE, hP, hD⟩ := hv9
  have hx := B.exec
  have hb := B.bytes
  have hr := B.returns
  have hts := atoms_spec (ws := wsX1_add) B.pre
  have hown : s.vm.findClass RX1 = some m.cls := findClass_of_methodNamed B.named
  have hlocks := B.notSynchronized
  have hK := hE.1
  have hF : CallFix p m c cX1_add 7 s _ wsX1_add RX1 := ⟨hx, hb, hml, hown, hts⟩
  have hS : va_S A s.heap s.heap [] := va_S.rf
  have lk9 := hts (.fieldLink RX1 9 "BranchPlay$Changes" "count" "I") (by decide +kernel)
  have inX1 : ∀ w ∈ wsX10, w ∈ wsX1_add := by decide +kernel
  have lk15 := hts (.fieldLink RX1 15 "BranchPlay$Changes" "birth" "[I") (by decide +kernel)
  have lk19 := hts (.fieldLink RX1 19 "BranchPlay$Changes" "regions" "[I") (by decide +kernel)
  have lk22 := hts (.fieldLink RX1 22 "BranchPlay$Changes" "size" "[I") (by decide +kernel)
  have lk25 := hts (.fieldLink RX1 25 "BranchPlay$Changes" "breakAfter" "[I") (by decide +kernel)
  have lk28 := hts (.fieldLink RX1 28 "BranchPlay$Changes" "fixOf" "[I") (by decide +kernel)
  have lk31 := hts (.fieldLink RX1 31 "BranchPlay$Changes" "fixedBy" "[I") (by decide +kernel)
  have lk51 := hts (.fieldLink RX1 51 "BranchPlay$Changes" "births" "LBranchPlay$Agenda;") (by decide +kernel)
  have lc59 := hts (.constant RX1 59 1073741823) (by decide +kernel)
  obtain ⟨⟨hv0i0, hv0j0⟩, hv0a6⟩ := hv0
  generalize hHe : s.heap = H at hP
  have hS : va_S A s.heap H [] := by rw [← hHe]; exact hS
  have hP : va_P D vwCl (((r0 0), .inr (1, [.int (fi0 0), .ref (r0 1), .ref (r0 2), .ref (r0 3), .ref (r0 4), .ref (r0 5), .ref (r0 6), .ref (r0 7), .ref (r0 8), .ref (r0 9), .long (fl0 0), .ref (r0 10)])) :: ((r0 1), .inl (ca 0, 60, .inl (fa0 0))) :: ((r0 2), .inl (ca 0, 60, .inl (fa0 1))) :: ((r0 3), .inl (ca 0, 60, .inl (fa0 2))) :: ((r0 4), .inl (ca 0, 60, .inl (fa0 3))) :: ((r0 5), .inl (ca 0, 60, .inl (fa0 4))) :: ((r0 6), .inl (ca 0, 60, .inl (fa0 5))) :: ((r0 7), .inl (ca 0, 60, .inl (fa0 6))) :: ((r0 8), .inl (ca 0, 180, .inl (fa0 7))) :: ((r0 9), .inl (ca 1, 60, .inr (.inl (fb0 0)))) :: ((r0 10), .inr (0, [.ref (r0 11)])) :: ((r0 11), .inl (ca 1, 400, .inr (.inl (fb0 1)))) :: rest) H := hP
  have hD : va_D A (((r0 0), .inr (1, [.int (fi0 0), .ref (r0 1), .ref (r0 2), .ref (r0 3), .ref (r0 4), .ref (r0 5), .ref (r0 6), .ref (r0 7), .ref (r0 8), .ref (r0 9), .long (fl0 0), .ref (r0 10)])) :: ((r0 1), .inl (ca 0, 60, .inl (fa0 0))) :: ((r0 2), .inl (ca 0, 60, .inl (fa0 1))) :: ((r0 3), .inl (ca 0, 60, .inl (fa0 2))) :: ((r0 4), .inl (ca 0, 60, .inl (fa0 3))) :: ((r0 5), .inl (ca 0, 60, .inl (fa0 4))) :: ((r0 6), .inl (ca 0, 60, .inl (fa0 5))) :: ((r0 7), .inl (ca 0, 60, .inl (fa0 6))) :: ((r0 8), .inl (ca 0, 180, .inl (fa0 7))) :: ((r0 9), .inl (ca 1, 60, .inr (.inl (fb0 0)))) :: ((r0 10), .inr (0, [.ref (r0 11)])) :: ((r0 11), .inl (ca 1, 400, .inr (.inl (fb0 1)))) :: rest) := hD
  have hl := lv_entry ([.ref (r0 0), .int p1, .int p2, .int p3, .int p4]) (n := 7) (Nat.le_of_ble_eq_true rfl)
  rw [lg_entry_eq]
  generalize (lg_sl ([.ref (r0 0), .int p1, .int p2, .int p3, .int p4]) ++ List.replicate (7 - (lg_sl ([.ref (r0 0), .int p1, .int p2, .int p3, .int p4])).length) Slot.unset).toArray = ls at hl ⊢
  have hl : lv_has ls 7 [(0, .ref (r0 0)), (1, .int p1), (2, .int p2), (3, .int p3), (4, .int p4)] := hl
  generalize hQ9 : MQ below _ _ s 0 0 A = Q9
  refine lv_iload_n hx hb dX1_add_0 rfl (lv_at hl 1 rfl) ?_
  have J57_1 : ∀ (k0_1 : Int32) (ls : Array Slot) (hl : lv_has ls 7 [(0, .ref (r0 0)), (1, .int p1), (2, .int p2), (3, .int p3), (4, .int p4)]) (hf1_0 : 0 ≤ k0_1.toInt ∧ k0_1.toInt ≤ 1), W p l e (headSpec wsX1_add ({ frames := 1, cells := 0, slots := 0, locals := 22 })).room s m ([.ref (r0 0), .int p1, .int p2, .int p3, .int p4] : List Value).toArray below meth c H [] 0 0 Q9 (F0 m 57 ls [.int k0_1]) := by
    intro k0_1 ls hl hf1_0
    refine lv_istore (lv' := [(5, .int k0_1), (0, .ref (r0 0)), (1, .int p1), (2, .int p2), (3, .int p3), (4, .int p4)]) hx hb dX1_add_57 hl (by decide) rfl (fun ls hl => ?_)
    refine lv_iload hx hb dX1_add_59 (lv_at hl 0 rfl) ?_
    refine lv_if_ne (tgt := 67) hx hb dX1_add_61 (by decide) (fun c2 => ?_) (fun c2 => ?_)
    ·
      have c2 := z_ne (i := k0_1.toInt) (j := 0) rfl (by decide) c2
      refine lv_aload_n hx hb dX1_add_67 rfl (lv_at hl 1 rfl) ?_
      refine va_get (D := D) (ci := 1) (v := .int (fi0 0)) (C := RX1) (T := TX1) (N := 12) hx hb hts inX1 hown hK hP 0 rfl rfl 0 (by decide) lk9 (fun _ h9 => h9) rfl dX1_add_68 ?_
      refine lv_bipush (v := 60) hx hb dX1_add_71 (by decide) ?_
      refine lv_icmp_lt (tgt := 79) hx hb dX1_add_73 (by decide) (fun c3 => ?_) (fun c3 => ?_)
      ·
        have c3 := z_lt (i := (fi0 0).toInt) (j := 60) rfl (by decide) c3
        refine lv_aload_n hx hb dX1_add_79 rfl (lv_at hl 1 rfl) ?_
        refine va_get (D := D) (ci := 1) (v := .int (fi0 0)) (C := RX1) (T := TX1) (N := 12) hx hb hts inX1 hown hK hP 0 rfl rfl 0 (by decide) lk9 (fun _ h9 => h9) rfl dX1_add_80 ?_
        refine lv_istore (lv' := [(6, .int (fi0 0)), (5, .int k0_1), (0, .ref (r0 0)), (1, .int p1), (2, .int p2), (3, .int p3), (4, .int p4)]) hx hb dX1_add_83 hl (by decide) rfl (fun ls hl => ?_)
        refine lv_aload_n hx hb dX1_add_85 rfl (lv_at hl 2 rfl) ?_
        refine va_get (D := D) (ci := 1) (v := .ref (r0 1)) (C := RX1) (T := TX1) (N := 12) hx hb hts inX1 hown hK hP 0 rfl rfl 1 (by decide) lk15 (fun _ h9 => h9) rfl dX1_add_86 ?_
        refine lv_iload hx hb dX1_add_89 (lv_at hl 0 rfl) ?_
        refine lv_iload_n hx hb dX1_add_91 rfl (lv_at hl 3 rfl) ?_
        have hi4 : vp_in (fi0 0) 60 := z_in (i := (fi0 0).toInt) rfl (by omega) (by omega)
        refine va_iast hx hb hK hP hD hS 1 0 rfl rfl hi4 dX1_add_92 (fun H locs hP hD hS => ?_)
        generalize eg5 : upd (fa0 0) (fi0 0).toNatClampNeg p1 = g5 at hP hD
        have hP : va_P D vwCl (((r0 0), .inr (1, [.int (fi0 0), .ref (r0 1), .ref (r0 2), .ref (r0 3), .ref (r0 4), .ref (r0 5), .ref (r0 6), .ref (r0 7), .ref (r0 8), .ref (r0 9), .long (fl0 0), .ref (r0 10)])) :: ((r0 1), .inl (ca 0, 60, .inl g5)) :: ((r0 2), .inl (ca 0, 60, .inl (fa0 1))) :: ((r0 3), .inl (ca 0, 60, .inl (fa0 2))) :: ((r0 4), .inl (ca 0, 60, .inl (fa0 3))) :: ((r0 5), .inl (ca 0, 60, .inl (fa0 4))) :: ((r0 6), .inl (ca 0, 60, .inl (fa0 5))) :: ((r0 7), .inl (ca 0, 60, .inl (fa0 6))) :: ((r0 8), .inl (ca 0, 180, .inl (fa0 7))) :: ((r0 9), .inl (ca 1, 60, .inr (.inl (fb0 0)))) :: ((r0 10), .inr (0, [.ref (r0 11)])) :: ((r0 11), .inl (ca 1, 400, .inr (.inl (fb0 1)))) :: rest) H := hP
        have hD : va_D A (((r0 0), .inr (1, [.int (fi0 0), .ref (r0 1), .ref (r0 2), .ref (r0 3), .ref (r0 4), .ref (r0 5), .ref (r0 6), .ref (r0 7), .ref (r0 8), .ref (r0 9), .long (fl0 0), .ref (r0 10)])) :: ((r0 1), .inl (ca 0, 60, .inl g5)) :: ((r0 2), .inl (ca 0, 60, .inl (fa0 1))) :: ((r0 3), .inl (ca 0, 60, .inl (fa0 2))) :: ((r0 4), .inl (ca 0, 60, .inl (fa0 3))) :: ((r0 5), .inl (ca 0, 60, .inl (fa0 4))) :: ((r0 6), .inl (ca 0, 60, .inl (fa0 5))) :: ((r0 7), .inl (ca 0, 60, .inl (fa0 6))) :: ((r0 8), .inl (ca 0, 180, .inl (fa0 7))) :: ((r0 9), .inl (ca 1, 60, .inr (.inl (fb0 0)))) :: ((r0 10), .inr (0, [.ref (r0 11)])) :: ((r0 11), .inl (ca 1, 400, .inr (.inl (fb0 1)))) :: rest) := hD
        refine lv_aload_n hx hb dX1_add_93 rfl (lv_at hl 2 rfl) ?_
        refine va_get (D := D) (ci := 1) (v := .ref (r0 2)) (C := RX1) (T := TX1) (N := 12) hx hb hts inX1 hown hK hP 0 rfl rfl 2 (by decide) lk19 (fun _ h9 => h9) rfl dX1_add_94 ?_
        refine lv_iload hx hb dX1_add_97 (lv_at hl 0 rfl) ?_
        refine lv_iload_n hx hb dX1_add_99 rfl (lv_at hl 4 rfl) ?_
        have hi6 : vp_in (fi0 0) 60 := z_in (i := (fi0 0).toInt) rfl (by omega) (by omega)
        refine va_iast hx hb hK hP hD hS 2 0 rfl rfl hi6 dX1_add_100 (fun H locs hP hD hS => ?_)
        generalize eg7 : upd (fa0 1) (fi0 0).toNatClampNeg p2 = g7 at hP hD
        have hP : va_P D vwCl (((r0 0), .inr (1, [.int (fi0 0), .ref (r0 1), .ref (r0 2), .ref (r0 3), .ref (r0 4), .ref (r0 5), .ref (r0 6), .ref (r0 7), .ref (r0 8), .ref (r0 9), .long (fl0 0), .ref (r0 10)])) :: ((r0 1), .inl (ca 0, 60, .inl g5)) :: ((r0 2), .inl (ca 0, 60, .inl g7)) :: ((r0 3), .inl (ca 0, 60, .inl (fa0 2))) :: ((r0 4), .inl (ca 0, 60, .inl (fa0 3))) :: ((r0 5), .inl (ca 0, 60, .inl (fa0 4))) :: ((r0 6), .inl (ca 0, 60, .inl (fa0 5))) :: ((r0 7), .inl (ca 0, 60, .inl (fa0 6))) :: ((r0 8), .inl (ca 0, 180, .inl (fa0 7))) :: ((r0 9), .inl (ca 1, 60, .inr (.inl (fb0 0)))) :: ((r0 10), .inr (0, [.ref (r0 11)])) :: ((r0 11), .inl (ca 1, 400, .inr (.inl (fb0 1)))) :: rest) H := hP
        have hD : va_D A (((r0 0), .inr (1, [.int (fi0 0), .ref (r0 1), .ref (r0 2), .ref (r0 3), .ref (r0 4), .ref (r0 5), .ref (r0 6), .ref (r0 7), .ref (r0 8), .ref (r0 9), .long (fl0 0), .ref (r0 10)])) :: ((r0 1), .inl (ca 0, 60, .inl g5)) :: ((r0 2), .inl (ca 0, 60, .inl g7)) :: ((r0 3), .inl (ca 0, 60, .inl (fa0 2))) :: ((r0 4), .inl (ca 0, 60, .inl (fa0 3))) :: ((r0 5), .inl (ca 0, 60, .inl (fa0 4))) :: ((r0 6), .inl (ca 0, 60, .inl (fa0 5))) :: ((r0 7), .inl (ca 0, 60, .inl (fa0 6))) :: ((r0 8), .inl (ca 0, 180, .inl (fa0 7))) :: ((r0 9), .inl (ca 1, 60, .inr (.inl (fb0 0)))) :: ((r0 10), .inr (0, [.ref (r0 11)])) :: ((r0 11), .inl (ca 1, 400, .inr (.inl (fb0 1)))) :: rest) := hD
        refine lv_aload_n hx hb dX1_add_101 rfl (lv_at hl 2 rfl) ?_
        refine va_get (D := D) (ci := 1) (v := .ref (r0 3)) (C := RX1) (T := TX1) (N := 12) hx hb hts inX1 hown hK hP 0 rfl rfl 3 (by decide) lk22 (fun _ h9 => h9) rfl dX1_add_102 ?_
        refine lv_iload hx hb dX1_add_105 (lv_at hl 0 rfl) ?_
        refine lv_iload_n hx hb dX1_add_107 rfl (lv_at hl 5 rfl) ?_
        have hi8 : vp_in (fi0 0) 60 := z_in (i := (fi0 0).toInt) rfl (by omega) (by omega)
        refine va_iast hx hb hK hP hD hS 3 0 rfl rfl hi8 dX1_add_108 (fun H locs hP hD hS => ?_)
        generalize eg9 : upd (fa0 2) (fi0 0).toNatClampNeg p3 = g9 at hP hD
        have hP : va_P D vwCl (((r0 0), .inr (1, [.int (fi0 0), .ref (r0 1), .ref (r0 2), .ref (r0 3), .ref (r0 4), .ref (r0 5), .ref (r0 6), .ref (r0 7), .ref (r0 8), .ref (r0 9), .long (fl0 0), .ref (r0 10)])) :: ((r0 1), .inl (ca 0, 60, .inl g5)) :: ((r0 2), .inl (ca 0, 60, .inl g7)) :: ((r0 3), .inl (ca 0, 60, .inl g9)) :: ((r0 4), .inl (ca 0, 60, .inl (fa0 3))) :: ((r0 5), .inl (ca 0, 60, .inl (fa0 4))) :: ((r0 6), .inl (ca 0, 60, .inl (fa0 5))) :: ((r0 7), .inl (ca 0, 60, .inl (fa0 6))) :: ((r0 8), .inl (ca 0, 180, .inl (fa0 7))) :: ((r0 9), .inl (ca 1, 60, .inr (.inl (fb0 0)))) :: ((r0 10), .inr (0, [.ref (r0 11)])) :: ((r0 11), .inl (ca 1, 400, .inr (.inl (fb0 1)))) :: rest) H := hP
        have hD : va_D A (((r0 0), .inr (1, [.int (fi0 0), .ref (r0 1), .ref (r0 2), .ref (r0 3), .ref (r0 4), .ref (r0 5), .ref (r0 6), .ref (r0 7), .ref (r0 8), .ref (r0 9), .long (fl0 0), .ref (r0 10)])) :: ((r0 1), .inl (ca 0, 60, .inl g5)) :: ((r0 2), .inl (ca 0, 60, .inl g7)) :: ((r0 3), .inl (ca 0, 60, .inl g9)) :: ((r0 4), .inl (ca 0, 60, .inl (fa0 3))) :: ((r0 5), .inl (ca 0, 60, .inl (fa0 4))) :: ((r0 6), .inl (ca 0, 60, .inl (fa0 5))) :: ((r0 7), .inl (ca 0, 60, .inl (fa0 6))) :: ((r0 8), .inl (ca 0, 180, .inl (fa0 7))) :: ((r0 9), .inl (ca 1, 60, .inr (.inl (fb0 0)))) :: ((r0 10), .inr (0, [.ref (r0 11)])) :: ((r0 11), .inl (ca 1, 400, .inr (.inl (fb0 1)))) :: rest) := hD
        refine lv_aload_n hx hb dX1_add_109 rfl (lv_at hl 2 rfl) ?_
        refine va_get (D := D) (ci := 1) (v := .ref (r0 4)) (C := RX1) (T := TX1) (N := 12) hx hb hts inX1 hown hK hP 0 rfl rfl 4 (by decide) lk25 (fun _ h9 => h9) rfl dX1_add_110 ?_
        refine lv_iload hx hb dX1_add_113 (lv_at hl 0 rfl) ?_
        refine lv_iload hx hb dX1_add_115 (lv_at hl 6 rfl) ?_
        have hi10 : vp_in (fi0 0) 60 := z_in (i := (fi0 0).toInt) rfl (by omega) (by omega)
        refine va_iast hx hb hK hP hD hS 4 0 rfl rfl hi10 dX1_add_117 (fun H locs hP hD hS => ?_)
        generalize eg11 : upd (fa0 3) (fi0 0).toNatClampNeg p4 = g11 at hP hD
        have hP : va_P D vwCl (((r0 0), .inr (1, [.int (fi0 0), .ref (r0 1), .ref (r0 2), .ref (r0 3), .ref (r0 4), .ref (r0 5), .ref (r0 6), .ref (r0 7), .ref (r0 8), .ref (r0 9), .long (fl0 0), .ref (r0 10)])) :: ((r0 1), .inl (ca 0, 60, .inl g5)) :: ((r0 2), .inl (ca 0, 60, .inl g7)) :: ((r0 3), .inl (ca 0, 60, .inl g9)) :: ((r0 4), .inl (ca 0, 60, .inl g11)) :: ((r0 5), .inl (ca 0, 60, .inl (fa0 4))) :: ((r0 6), .inl (ca 0, 60, .inl (fa0 5))) :: ((r0 7), .inl (ca 0, 60, .inl (fa0 6))) :: ((r0 8), .inl (ca 0, 180, .inl (fa0 7))) :: ((r0 9), .inl (ca 1, 60, .inr (.inl (fb0 0)))) :: ((r0 10), .inr (0, [.ref (r0 11)])) :: ((r0 11), .inl (ca 1, 400, .inr (.inl (fb0 1)))) :: rest) H := hP
        have hD : va_D A (((r0 0), .inr (1, [.int (fi0 0), .ref (r0 1), .ref (r0 2), .ref (r0 3), .ref (r0 4), .ref (r0 5), .ref (r0 6), .ref (r0 7), .ref (r0 8), .ref (r0 9), .long (fl0 0), .ref (r0 10)])) :: ((r0 1), .inl (ca 0, 60, .inl g5)) :: ((r0 2), .inl (ca 0, 60, .inl g7)) :: ((r0 3), .inl (ca 0, 60, .inl g9)) :: ((r0 4), .inl (ca 0, 60, .inl g11)) :: ((r0 5), .inl (ca 0, 60, .inl (fa0 4))) :: ((r0 6), .inl (ca 0, 60, .inl (fa0 5))) :: ((r0 7), .inl (ca 0, 60, .inl (fa0 6))) :: ((r0 8), .inl (ca 0, 180, .inl (fa0 7))) :: ((r0 9), .inl (ca 1, 60, .inr (.inl (fb0 0)))) :: ((r0 10), .inr (0, [.ref (r0 11)])) :: ((r0 11), .inl (ca 1, 400, .inr (.inl (fb0 1)))) :: rest) := hD
        refine lv_aload_n hx hb dX1_add_118 rfl (lv_at hl 2 rfl) ?_
        refine va_get (D := D) (ci := 1) (v := .ref (r0 5)) (C := RX1) (T := TX1) (N := 12) hx hb hts inX1 hown hK hP 0 rfl rfl 5 (by decide) lk28 (fun _ h9 => h9) rfl dX1_add_119 ?_
        refine lv_iload hx hb dX1_add_122 (lv_at hl 0 rfl) ?_
        refine lv_iconst (v := (-1)) hx hb dX1_add_124 (by decide) ?_
        refine lv_topi (fun t12 et12 => ?_)
        have ht12 : t12.toInt = (-1) := by rw [et12]; decide
        have hi13 : vp_in (fi0 0) 60 := z_in (i := (fi0 0).toInt) rfl (by omega) (by omega)
        refine va_iast hx hb hK hP hD hS 5 0 rfl rfl hi13 dX1_add_125 (fun H locs hP hD hS => ?_)
        generalize eg14 : upd (fa0 4) (fi0 0).toNatClampNeg t12 = g14 at hP hD
        have hP : va_P D vwCl (((r0 0), .inr (1, [.int (fi0 0), .ref (r0 1), .ref (r0 2), .ref (r0 3), .ref (r0 4), .ref (r0 5), .ref (r0 6), .ref (r0 7), .ref (r0 8), .ref (r0 9), .long (fl0 0), .ref (r0 10)])) :: ((r0 1), .inl (ca 0, 60, .inl g5)) :: ((r0 2), .inl (ca 0, 60, .inl g7)) :: ((r0 3), .inl (ca 0, 60, .inl g9)) :: ((r0 4), .inl (ca 0, 60, .inl g11)) :: ((r0 5), .inl (ca 0, 60, .inl g14)) :: ((r0 6), .inl (ca 0, 60, .inl (fa0 5))) :: ((r0 7), .inl (ca 0, 60, .inl (fa0 6))) :: ((r0 8), .inl (ca 0, 180, .inl (fa0 7))) :: ((r0 9), .inl (ca 1, 60, .inr (.inl (fb0 0)))) :: ((r0 10), .inr (0, [.ref (r0 11)])) :: ((r0 11), .inl (ca 1, 400, .inr (.inl (fb0 1)))) :: rest) H := hP
        have hD : va_D A (((r0 0), .inr (1, [.int (fi0 0), .ref (r0 1), .ref (r0 2), .ref (r0 3), .ref (r0 4), .ref (r0 5), .ref (r0 6), .ref (r0 7), .ref (r0 8), .ref (r0 9), .long (fl0 0), .ref (r0 10)])) :: ((r0 1), .inl (ca 0, 60, .inl g5)) :: ((r0 2), .inl (ca 0, 60, .inl g7)) :: ((r0 3), .inl (ca 0, 60, .inl g9)) :: ((r0 4), .inl (ca 0, 60, .inl g11)) :: ((r0 5), .inl (ca 0, 60, .inl g14)) :: ((r0 6), .inl (ca 0, 60, .inl (fa0 5))) :: ((r0 7), .inl (ca 0, 60, .inl (fa0 6))) :: ((r0 8), .inl (ca 0, 180, .inl (fa0 7))) :: ((r0 9), .inl (ca 1, 60, .inr (.inl (fb0 0)))) :: ((r0 10), .inr (0, [.ref (r0 11)])) :: ((r0 11), .inl (ca 1, 400, .inr (.inl (fb0 1)))) :: rest) := hD
        refine lv_aload_n hx hb dX1_add_126 rfl (lv_at hl 2 rfl) ?_
        refine va_get (D := D) (ci := 1) (v := .ref (r0 6)) (C := RX1) (T := TX1) (N := 12) hx hb hts inX1 hown hK hP 0 rfl rfl 6 (by decide) lk31 (fun _ h9 => h9) rfl dX1_add_127 ?_
        refine lv_iload hx hb dX1_add_130 (lv_at hl 0 rfl) ?_
        refine lv_iconst (v := (-1)) hx hb dX1_add_132 (by decide) ?_
        refine lv_topi (fun t15 et15 => ?_)
        have ht15 : t15.toInt = (-1) := by rw [et15]; decide
        have hi16 : vp_in (fi0 0) 60 := z_in (i := (fi0 0).toInt) rfl (by omega) (by omega)
        refine va_iast hx hb hK hP hD hS 6 0 rfl rfl hi16 dX1_add_133 (fun H locs hP hD hS => ?_)
        generalize eg17 : upd (fa0 5) (fi0 0).toNatClampNeg t15 = g17 at hP hD
        have hP : va_P D vwCl (((r0 0), .inr (1, [.int (fi0 0), .ref (r0 1), .ref (r0 2), .ref (r0 3), .ref (r0 4), .ref (r0 5), .ref (r0 6), .ref (r0 7), .ref (r0 8), .ref (r0 9), .long (fl0 0), .ref (r0 10)])) :: ((r0 1), .inl (ca 0, 60, .inl g5)) :: ((r0 2), .inl (ca 0, 60, .inl g7)) :: ((r0 3), .inl (ca 0, 60, .inl g9)) :: ((r0 4), .inl (ca 0, 60, .inl g11)) :: ((r0 5), .inl (ca 0, 60, .inl g14)) :: ((r0 6), .inl (ca 0, 60, .inl g17)) :: ((r0 7), .inl (ca 0, 60, .inl (fa0 6))) :: ((r0 8), .inl (ca 0, 180, .inl (fa0 7))) :: ((r0 9), .inl (ca 1, 60, .inr (.inl (fb0 0)))) :: ((r0 10), .inr (0, [.ref (r0 11)])) :: ((r0 11), .inl (ca 1, 400, .inr (.inl (fb0 1)))) :: rest) H := hP
        have hD : va_D A (((r0 0), .inr (1, [.int (fi0 0), .ref (r0 1), .ref (r0 2), .ref (r0 3), .ref (r0 4), .ref (r0 5), .ref (r0 6), .ref (r0 7), .ref (r0 8), .ref (r0 9), .long (fl0 0), .ref (r0 10)])) :: ((r0 1), .inl (ca 0, 60, .inl g5)) :: ((r0 2), .inl (ca 0, 60, .inl g7)) :: ((r0 3), .inl (ca 0, 60, .inl g9)) :: ((r0 4), .inl (ca 0, 60, .inl g11)) :: ((r0 5), .inl (ca 0, 60, .inl g14)) :: ((r0 6), .inl (ca 0, 60, .inl g17)) :: ((r0 7), .inl (ca 0, 60, .inl (fa0 6))) :: ((r0 8), .inl (ca 0, 180, .inl (fa0 7))) :: ((r0 9), .inl (ca 1, 60, .inr (.inl (fb0 0)))) :: ((r0 10), .inr (0, [.ref (r0 11)])) :: ((r0 11), .inl (ca 1, 400, .inr (.inl (fb0 1)))) :: rest) := hD
        refine lv_aload_n hx hb dX1_add_134 rfl (lv_at hl 2 rfl) ?_
        refine va_get (D := D) (ci := 1) (v := .ref (r0 10)) (C := RX1) (T := TX1) (N := 12) hx hb hts inX1 hown hK hP 0 rfl rfl 11 (by decide) lk51 (fun _ h9 => h9) rfl dX1_add_135 ?_
        refine lv_iload_n hx hb dX1_add_138 rfl (lv_at hl 3 rfl) ?_
        refine lv_iload hx hb dX1_add_139 (lv_at hl 0 rfl) ?_
        have hP9 := va_P.part (pl := rest) (X := [((r0 0), .inr (1, [.int (fi0 0), .ref (r0 1), .ref (r0 2), .ref (r0 3), .ref (r0 4), .ref (r0 5), .ref (r0 6), .ref (r0 7), .ref (r0 8), .ref (r0 9), .long (fl0 0), .ref (r0 10)])), ((r0 1), .inl (ca 0, 60, .inl g5)), ((r0 2), .inl (ca 0, 60, .inl g7)), ((r0 3), .inl (ca 0, 60, .inl g9)), ((r0 4), .inl (ca 0, 60, .inl g11)), ((r0 5), .inl (ca 0, 60, .inl g14)), ((r0 6), .inl (ca 0, 60, .inl g17)), ((r0 7), .inl (ca 0, 60, .inl (fa0 6))), ((r0 8), .inl (ca 0, 180, .inl (fa0 7))), ((r0 9), .inl (ca 1, 60, .inr (.inl (fb0 0)))), ((r0 10), .inr (0, [.ref (r0 11)])), ((r0 11), .inl (ca 1, 400, .inr (.inl (fb0 1))))]) (cx := [((r0 10), .inr (0, [.ref (r0 11)])), ((r0 11), .inl (ca 1, 400, .inr (.inl (fb0 1)))), ((r0 0), .inr (1, [.int (fi0 0), .ref (r0 1), .ref (r0 2), .ref (r0 3), .ref (r0 4), .ref (r0 5), .ref (r0 6), .ref (r0 7), .ref (r0 8), .ref (r0 9), .long (fl0 0), .ref (r0 10)])), ((r0 1), .inl (ca 0, 60, .inl g5)), ((r0 2), .inl (ca 0, 60, .inl g7)), ((r0 3), .inl (ca 0, 60, .inl g9)), ((r0 4), .inl (ca 0, 60, .inl g11)), ((r0 5), .inl (ca 0, 60, .inl g14)), ((r0 6), .inl (ca 0, 60, .inl g17)), ((r0 7), .inl (ca 0, 60, .inl (fa0 6))), ((r0 8), .inl (ca 0, 180, .inl (fa0 7))), ((r0 9), .inl (ca 1, 60, .inr (.inl (fb0 0))))]) hP [10, 11, 0, 1, 2, 3, 4, 5, 6, 7, 8, 9] rfl
        have hD9 := va_D.part (pl := rest) (X := [((r0 0), .inr (1, [.int (fi0 0), .ref (r0 1), .ref (r0 2), .ref (r0 3), .ref (r0 4), .ref (r0 5), .ref (r0 6), .ref (r0 7), .ref (r0 8), .ref (r0 9), .long (fl0 0), .ref (r0 10)])), ((r0 1), .inl (ca 0, 60, .inl g5)), ((r0 2), .inl (ca 0, 60, .inl g7)), ((r0 3), .inl (ca 0, 60, .inl g9)), ((r0 4), .inl (ca 0, 60, .inl g11)), ((r0 5), .inl (ca 0, 60, .inl g14)), ((r0 6), .inl (ca 0, 60, .inl g17)), ((r0 7), .inl (ca 0, 60, .inl (fa0 6))), ((r0 8), .inl (ca 0, 180, .inl (fa0 7))), ((r0 9), .inl (ca 1, 60, .inr (.inl (fb0 0)))), ((r0 10), .inr (0, [.ref (r0 11)])), ((r0 11), .inl (ca 1, 400, .inr (.inl (fb0 1))))]) (cx := [((r0 10), .inr (0, [.ref (r0 11)])), ((r0 11), .inl (ca 1, 400, .inr (.inl (fb0 1)))), ((r0 0), .inr (1, [.int (fi0 0), .ref (r0 1), .ref (r0 2), .ref (r0 3), .ref (r0 4), .ref (r0 5), .ref (r0 6), .ref (r0 7), .ref (r0 8), .ref (r0 9), .long (fl0 0), .ref (r0 10)])), ((r0 1), .inl (ca 0, 60, .inl g5)), ((r0 2), .inl (ca 0, 60, .inl g7)), ((r0 3), .inl (ca 0, 60, .inl g9)), ((r0 4), .inl (ca 0, 60, .inl g11)), ((r0 5), .inl (ca 0, 60, .inl g14)), ((r0 6), .inl (ca 0, 60, .inl g17)), ((r0 7), .inl (ca 0, 60, .inl (fa0 6))), ((r0 8), .inl (ca 0, 180, .inl (fa0 7))), ((r0 9), .inl (ca 1, 60, .inr (.inl (fb0 0))))]) hD [10, 11, 0, 1, 2, 3, 4, 5, 6, 7, 8, 9] (by decide) rfl
        refine z_vV (As := [.int p1, .int (fi0 0)]) (rest := []) hF (c_X0_put l D ca sa A (((r0 0), .inr (1, [.int (fi0 0), .ref (r0 1), .ref (r0 2), .ref (r0 3), .ref (r0 4), .ref (r0 5), .ref (r0 6), .ref (r0 7), .ref (r0 8), .ref (r0 9), .long (fl0 0), .ref (r0 10)])) :: ((r0 1), .inl (ca 0, 60, .inl g5)) :: ((r0 2), .inl (ca 0, 60, .inl g7)) :: ((r0 3), .inl (ca 0, 60, .inl g9)) :: ((r0 4), .inl (ca 0, 60, .inl g11)) :: ((r0 5), .inl (ca 0, 60, .inl g14)) :: ((r0 6), .inl (ca 0, 60, .inl g17)) :: ((r0 7), .inl (ca 0, 60, .inl (fa0 6))) :: ((r0 8), .inl (ca 0, 180, .inl (fa0 7))) :: ((r0 9), .inl (ca 1, 60, .inr (.inl (fb0 0)))) :: rest) (zl 0 [(r0 10), (r0 11)]) (zl 0 []) (zl 0 []) (zl (fun _ => 0) []) (zl (fun _ => 0) [(fb0 1)]) trivial p1 (fi0 0)) (cwV 2 hts gX1_add_X0_put rfl rfl rfl (by decide +kernel) ⟨Nat.le_of_ble_eq_true rfl, Nat.le_of_ble_eq_true rfl⟩) hE hP9 hD9 hS 0 0 rfl rfl rfl hl.1 rfl (Nat.le_of_ble_eq_true rfl) dX1_add_141 ⟨Nat.zero_le _, Nat.zero_le _⟩ (fun u18 H locs hw20 hP hD hS => ?_)
        obtain ⟨im21, lm21, am21, bm21⟩ := u18
        have hw20 : (Ok_AGD im21 am21) := hw20
        obtain - := hw20
        have hP := va_P.part (pl := rest) (X := [((r0 10), .inr (0, [.ref (r0 11)])), ((r0 11), .inl (ca 1, 400, .inr (.inl (bm21 0)))), ((r0 0), .inr (1, [.int (fi0 0), .ref (r0 1), .ref (r0 2), .ref (r0 3), .ref (r0 4), .ref (r0 5), .ref (r0 6), .ref (r0 7), .ref (r0 8), .ref (r0 9), .long (fl0 0), .ref (r0 10)])), ((r0 1), .inl (ca 0, 60, .inl g5)), ((r0 2), .inl (ca 0, 60, .inl g7)), ((r0 3), .inl (ca 0, 60, .inl g9)), ((r0 4), .inl (ca 0, 60, .inl g11)), ((r0 5), .inl (ca 0, 60, .inl g14)), ((r0 6), .inl (ca 0, 60, .inl g17)), ((r0 7), .inl (ca 0, 60, .inl (fa0 6))), ((r0 8), .inl (ca 0, 180, .inl (fa0 7))), ((r0 9), .inl (ca 1, 60, .inr (.inl (fb0 0))))]) (cx := [((r0 0), .inr (1, [.int (fi0 0), .ref (r0 1), .ref (r0 2), .ref (r0 3), .ref (r0 4), .ref (r0 5), .ref (r0 6), .ref (r0 7), .ref (r0 8), .ref (r0 9), .long (fl0 0), .ref (r0 10)])), ((r0 1), .inl (ca 0, 60, .inl g5)), ((r0 2), .inl (ca 0, 60, .inl g7)), ((r0 3), .inl (ca 0, 60, .inl g9)), ((r0 4), .inl (ca 0, 60, .inl g11)), ((r0 5), .inl (ca 0, 60, .inl g14)), ((r0 6), .inl (ca 0, 60, .inl g17)), ((r0 7), .inl (ca 0, 60, .inl (fa0 6))), ((r0 8), .inl (ca 0, 180, .inl (fa0 7))), ((r0 9), .inl (ca 1, 60, .inr (.inl (fb0 0)))), ((r0 10), .inr (0, [.ref (r0 11)])), ((r0 11), .inl (ca 1, 400, .inr (.inl (bm21 0))))]) hP [2, 3, 4, 5, 6, 7, 8, 9, 10, 11, 0, 1] rfl
        have hD := va_D.part (pl := rest) (X := [((r0 10), .inr (0, [.ref (r0 11)])), ((r0 11), .inl (ca 1, 400, .inr (.inl (bm21 0)))), ((r0 0), .inr (1, [.int (fi0 0), .ref (r0 1), .ref (r0 2), .ref (r0 3), .ref (r0 4), .ref (r0 5), .ref (r0 6), .ref (r0 7), .ref (r0 8), .ref (r0 9), .long (fl0 0), .ref (r0 10)])), ((r0 1), .inl (ca 0, 60, .inl g5)), ((r0 2), .inl (ca 0, 60, .inl g7)), ((r0 3), .inl (ca 0, 60, .inl g9)), ((r0 4), .inl (ca 0, 60, .inl g11)), ((r0 5), .inl (ca 0, 60, .inl g14)), ((r0 6), .inl (ca 0, 60, .inl g17)), ((r0 7), .inl (ca 0, 60, .inl (fa0 6))), ((r0 8), .inl (ca 0, 180, .inl (fa0 7))), ((r0 9), .inl (ca 1, 60, .inr (.inl (fb0 0))))]) (cx := [((r0 0), .inr (1, [.int (fi0 0), .ref (r0 1), .ref (r0 2), .ref (r0 3), .ref (r0 4), .ref (r0 5), .ref (r0 6), .ref (r0 7), .ref (r0 8), .ref (r0 9), .long (fl0 0), .ref (r0 10)])), ((r0 1), .inl (ca 0, 60, .inl g5)), ((r0 2), .inl (ca 0, 60, .inl g7)), ((r0 3), .inl (ca 0, 60, .inl g9)), ((r0 4), .inl (ca 0, 60, .inl g11)), ((r0 5), .inl (ca 0, 60, .inl g14)), ((r0 6), .inl (ca 0, 60, .inl g17)), ((r0 7), .inl (ca 0, 60, .inl (fa0 6))), ((r0 8), .inl (ca 0, 180, .inl (fa0 7))), ((r0 9), .inl (ca 1, 60, .inr (.inl (fb0 0)))), ((r0 10), .inr (0, [.ref (r0 11)])), ((r0 11), .inl (ca 1, 400, .inr (.inl (bm21 0))))]) hD [2, 3, 4, 5, 6, 7, 8, 9, 10, 11, 0, 1] (by decide) rfl
        have hP : va_P D vwCl (((r0 0), .inr (1, [.int (fi0 0), .ref (r0 1), .ref (r0 2), .ref (r0 3), .ref (r0 4), .ref (r0 5), .ref (r0 6), .ref (r0 7), .ref (r0 8), .ref (r0 9), .long (fl0 0), .ref (r0 10)])) :: ((r0 1), .inl (ca 0, 60, .inl g5)) :: ((r0 2), .inl (ca 0, 60, .inl g7)) :: ((r0 3), .inl (ca 0, 60, .inl g9)) :: ((r0 4), .inl (ca 0, 60, .inl g11)) :: ((r0 5), .inl (ca 0, 60, .inl g14)) :: ((r0 6), .inl (ca 0, 60, .inl g17)) :: ((r0 7), .inl (ca 0, 60, .inl (fa0 6))) :: ((r0 8), .inl (ca 0, 180, .inl (fa0 7))) :: ((r0 9), .inl (ca 1, 60, .inr (.inl (fb0 0)))) :: ((r0 10), .inr (0, [.ref (r0 11)])) :: ((r0 11), .inl (ca 1, 400, .inr (.inl (bm21 0)))) :: rest) H := hP
        have hD : va_D A (((r0 0), .inr (1, [.int (fi0 0), .ref (r0 1), .ref (r0 2), .ref (r0 3), .ref (r0 4), .ref (r0 5), .ref (r0 6), .ref (r0 7), .ref (r0 8), .ref (r0 9), .long (fl0 0), .ref (r0 10)])) :: ((r0 1), .inl (ca 0, 60, .inl g5)) :: ((r0 2), .inl (ca 0, 60, .inl g7)) :: ((r0 3), .inl (ca 0, 60, .inl g9)) :: ((r0 4), .inl (ca 0, 60, .inl g11)) :: ((r0 5), .inl (ca 0, 60, .inl g14)) :: ((r0 6), .inl (ca 0, 60, .inl g17)) :: ((r0 7), .inl (ca 0, 60, .inl (fa0 6))) :: ((r0 8), .inl (ca 0, 180, .inl (fa0 7))) :: ((r0 9), .inl (ca 1, 60, .inr (.inl (fb0 0)))) :: ((r0 10), .inr (0, [.ref (r0 11)])) :: ((r0 11), .inl (ca 1, 400, .inr (.inl (bm21 0)))) :: rest) := hD
        refine lv_aload_n hx hb dX1_add_144 rfl (lv_at hl 2 rfl) ?_
        refine lv_dup hx hb dX1_add_145 rfl ?_
        refine va_get (D := D) (ci := 1) (v := .int (fi0 0)) (C := RX1) (T := TX1) (N := 12) hx hb hts inX1 hown hK hP 0 rfl rfl 0 (by decide) lk9 (fun _ h9 => h9) rfl dX1_add_146 ?_
        refine lv_iconst (v := 1) hx hb dX1_add_149 (by decide) ?_
        refine lv_iadd hx hb dX1_add_150 ?_
        refine lv_topi (fun t22 et22 => ?_)
        try have ht22 : t22.toInt = (fi0 0).toInt + 1 := z_add et22 rfl (by decide) (by omega) (by omega)
        refine va_put (D := D) (ci := 1) (v := .int t22) (ty := .int) (C := RX1) (T := TX1) (N := 12) hx hb hts inX1 tyX1 tyX1_ok nmX1 hown hK hP hD hS 0 rfl rfl 0 (by decide) lk9 (fun _ h9 => h9) rfl (by decide +kernel) rfl rfl (Nat.le_of_ble_eq_true rfl) dX1_add_151 (fun H locs hP hD hS => ?_)
        have hP : va_P D vwCl (((r0 0), .inr (1, [.int t22, .ref (r0 1), .ref (r0 2), .ref (r0 3), .ref (r0 4), .ref (r0 5), .ref (r0 6), .ref (r0 7), .ref (r0 8), .ref (r0 9), .long (fl0 0), .ref (r0 10)])) :: ((r0 1), .inl (ca 0, 60, .inl g5)) :: ((r0 2), .inl (ca 0, 60, .inl g7)) :: ((r0 3), .inl (ca 0, 60, .inl g9)) :: ((r0 4), .inl (ca 0, 60, .inl g11)) :: ((r0 5), .inl (ca 0, 60, .inl g14)) :: ((r0 6), .inl (ca 0, 60, .inl g17)) :: ((r0 7), .inl (ca 0, 60, .inl (fa0 6))) :: ((r0 8), .inl (ca 0, 180, .inl (fa0 7))) :: ((r0 9), .inl (ca 1, 60, .inr (.inl (fb0 0)))) :: ((r0 10), .inr (0, [.ref (r0 11)])) :: ((r0 11), .inl (ca 1, 400, .inr (.inl (bm21 0)))) :: rest) H := hP
        have hD : va_D A (((r0 0), .inr (1, [.int t22, .ref (r0 1), .ref (r0 2), .ref (r0 3), .ref (r0 4), .ref (r0 5), .ref (r0 6), .ref (r0 7), .ref (r0 8), .ref (r0 9), .long (fl0 0), .ref (r0 10)])) :: ((r0 1), .inl (ca 0, 60, .inl g5)) :: ((r0 2), .inl (ca 0, 60, .inl g7)) :: ((r0 3), .inl (ca 0, 60, .inl g9)) :: ((r0 4), .inl (ca 0, 60, .inl g11)) :: ((r0 5), .inl (ca 0, 60, .inl g14)) :: ((r0 6), .inl (ca 0, 60, .inl g17)) :: ((r0 7), .inl (ca 0, 60, .inl (fa0 6))) :: ((r0 8), .inl (ca 0, 180, .inl (fa0 7))) :: ((r0 9), .inl (ca 1, 60, .inr (.inl (fb0 0)))) :: ((r0 10), .inr (0, [.ref (r0 11)])) :: ((r0 11), .inl (ca 1, 400, .inr (.inl (bm21 0)))) :: rest) := hD
        refine lv_iload hx hb dX1_add_154 (lv_at hl 0 rfl) ?_
        subst hQ9
        have ho23 : (0 ≤ t22.toInt ∧ t22.toInt ≤ 60) ∧ z_rng 0 3 (fa0 6) := ⟨⟨by omega, by omega⟩, hv0a6⟩
        exact W.iret (v := (fi0 0)) hx hb hr (fun t ht hW => ⟨⟨(fi0 0), ((zl 0 [t22]), (zl 0 [(fl0 0)]), (zl (fun _ => 0) [g5, g7, g9, g11, g14, g17, (fa0 6), (fa0 7)]), (zl (fun _ => 0) [(fb0 0), (bm21 0)])), rfl, ho23, ⟨by rw [ht]; exact hP, hD⟩⟩, hS.F ht⟩) hS.2.2 dX1_add_156
      ·
        have c3 := z_nlt (i := (fi0 0).toInt) (j := 60) rfl (by decide) c3
        refine lv_bipush (v := (-3)) hx hb dX1_add_76 (by decide) ?_
        subst hQ9
        refine lv_topi (fun t24 et24 => ?_)
        have ht24 : t24.toInt = (-3) := by rw [et24]; decide
        have ho25 : (0 ≤ (fi0 0).toInt ∧ (fi0 0).toInt ≤ 60) ∧ z_rng 0 3 (fa0 6) := ⟨⟨by omega, by omega⟩, hv0a6⟩
        exact W.iret (v := t24) hx hb hr (fun t ht hW => ⟨⟨t24, ((zl 0 [(fi0 0)]), (zl 0 [(fl0 0)]), (zl (fun _ => 0) [(fa0 0), (fa0 1), (fa0 2), (fa0 3), (fa0 4), (fa0 5), (fa0 6), (fa0 7)]), (zl (fun _ => 0) [(fb0 0), (fb0 1)])), rfl, ho25, ⟨by rw [ht]; exact hP, hD⟩⟩, hS.F ht⟩) hS.2.2 dX1_add_78
    ·
      have c2 := z_eq (i := k0_1.toInt) (j := 0) rfl (by decide) c2
      refine lv_bipush (v := (-2)) hx hb dX1_add_64 (by decide) ?_
      subst hQ9
      refine lv_topi (fun t26 et26 => ?_)
      have ht26 : t26.toInt = (-2) := by rw [et26]; decide
      have ho27 : (0 ≤ (fi0 0).toInt ∧ (fi0 0).toInt ≤ 60) ∧ z_rng 0 3 (fa0 6) := ⟨⟨by omega, by omega⟩, hv0a6⟩
      exact W.iret (v := t26) hx hb hr (fun t ht hW => ⟨⟨t26, ((zl 0 [(fi0 0)]), (zl 0 [(fl0 0)]), (zl (fun _ => 0) [(fa0 0), (fa0 1), (fa0 2), (fa0 3), (fa0 4), (fa0 5), (fa0 6), (fa0 7)]), (zl (fun _ => 0) [(fb0 0), (fb0 1)])), rfl, ho27, ⟨by rw [ht]; exact hP, hD⟩⟩, hS.F ht⟩) hS.2.2 dX1_add_66
  have J56_28 : ∀ (ls : Array Slot) (hl : lv_has ls 7 [(0, .ref (r0 0)), (1, .int p1), (2, .int p2), (3, .int p3), (4, .int p4)]), W p l e (headSpec wsX1_add ({ frames := 1, cells := 0, slots := 0, locals := 22 })).room s m ([.ref (r0 0), .int p1, .int p2, .int p3, .int p4] : List Value).toArray below meth c H [] 0 0 Q9 (F0 m 56 ls []) := by
    intro ls hl
    refine lv_iconst (v := 0) hx hb dX1_add_56 (by decide) ?_
    refine lv_topi (fun t29 et29 => ?_)
    have ht29 : t29.toInt = 0 := by rw [et29]; decide
    have hj30 : 0 ≤ t29.toInt ∧ t29.toInt ≤ 1 := by omega
    exact J57_1 t29 ls (lv_sub hl [0, 1, 2, 3, 4] rfl) hj30
  refine lv_if_lt (tgt := 56) hx hb dX1_add_1 (by decide) (fun c31 => ?_) (fun c31 => ?_)
  ·
    have c31 := z_lt (i := p1.toInt) (j := 0) rfl (by decide) c31
    exact J56_28 ls (lv_sub hl [0, 1, 2, 3, 4] rfl)
  ·
    have c31 := z_nlt (i := p1.toInt) (j := 0) rfl (by decide) c31
    refine lv_iload_n hx hb dX1_add_4 rfl (lv_at hl 1 rfl) ?_
    refine lv_sipush (v := 399) hx hb dX1_add_5 (by decide) ?_
    refine lv_icmp_gt (tgt := 56) hx hb dX1_add_8 (by decide) (fun c32 => ?_) (fun c32 => ?_)
    ·
      have c32 := z_lt (i := 399) (j := p1.toInt) (by decide) rfl c32
      exact J56_28 ls (lv_sub hl [0, 1, 2, 3, 4] rfl)
    ·
      have c32 := z_nlt (i := 399) (j := p1.toInt) (by decide) rfl c32
      refine lv_iload_n hx hb dX1_add_11 rfl (lv_at hl 2 rfl) ?_
      refine lv_iconst (v := 1) hx hb dX1_add_12 (by decide) ?_
      refine lv_icmp_lt (tgt := 56) hx hb dX1_add_13 (by decide) (fun c33 => ?_) (fun c33 => ?_)
      ·
        have c33 := z_lt (i := p2.toInt) (j := 1) rfl (by decide) c33
        exact J56_28 ls (lv_sub hl [0, 1, 2, 3, 4] rfl)
      ·
        have c33 := z_nlt (i := p2.toInt) (j := 1) rfl (by decide) c33
        refine lv_iload_n hx hb dX1_add_16 rfl (lv_at hl 2 rfl) ?_
        refine lv_ldc hx hb hown lc59 dX1_add_17 ?_
        refine lv_icmp_gt (tgt := 56) hx hb dX1_add_19 (by decide) (fun c34 => ?_) (fun c34 => ?_)
        ·
          have c34 := z_lt (i := 1073741823) (j := p2.toInt) (by decide) rfl c34
          exact J56_28 ls (lv_sub hl [0, 1, 2, 3, 4] rfl)
        ·
          have c34 := z_nlt (i := 1073741823) (j := p2.toInt) (by decide) rfl c34
          refine lv_iload_n hx hb dX1_add_22 rfl (lv_at hl 3 rfl) ?_
          refine lv_iconst (v := 1) hx hb dX1_add_23 (by decide) ?_
          refine lv_icmp_lt (tgt := 56) hx hb dX1_add_24 (by decide) (fun c35 => ?_) (fun c35 => ?_)
          ·
            have c35 := z_lt (i := p3.toInt) (j := 1) rfl (by decide) c35
            exact J56_28 ls (lv_sub hl [0, 1, 2, 3, 4] rfl)
          ·
            have c35 := z_nlt (i := p3.toInt) (j := 1) rfl (by decide) c35
            refine lv_iload_n hx hb dX1_add_27 rfl (lv_at hl 3 rfl) ?_
            refine lv_bipush (v := 20) hx hb dX1_add_28 (by decide) ?_
            refine lv_icmp_gt (tgt := 56) hx hb dX1_add_30 (by decide) (fun c36 => ?_) (fun c36 => ?_)
            ·
              have c36 := z_lt (i := 20) (j := p3.toInt) (by decide) rfl c36
              exact J56_28 ls (lv_sub hl [0, 1, 2, 3, 4] rfl)
            ·
              have c36 := z_nlt (i := 20) (j := p3.toInt) (by decide) rfl c36
              refine lv_iload hx hb dX1_add_33 (lv_at hl 4 rfl) ?_
              refine lv_iconst (v := (-1)) hx hb dX1_add_35 (by decide) ?_
              have J52_37 : ∀ (ls : Array Slot) (hl : lv_has ls 7 [(0, .ref (r0 0)), (1, .int p1), (2, .int p2), (3, .int p3), (4, .int p4)]), W p l e (headSpec wsX1_add ({ frames := 1, cells := 0, slots := 0, locals := 22 })).room s m ([.ref (r0 0), .int p1, .int p2, .int p3, .int p4] : List Value).toArray below meth c H [] 0 0 Q9 (F0 m 52 ls []) := by
                intro ls hl
                refine lv_iconst (v := 1) hx hb dX1_add_52 (by decide) ?_
                refine lv_goto (tgt := 57) hx hb dX1_add_53 (by decide) ?_
                refine lv_topi (fun t38 et38 => ?_)
                have ht38 : t38.toInt = 1 := by rw [et38]; decide
                have hj39 : 0 ≤ t38.toInt ∧ t38.toInt ≤ 1 := by omega
                exact J57_1 t38 ls (lv_sub hl [0, 1, 2, 3, 4] rfl) hj39
              refine lv_icmp_eq (tgt := 52) hx hb dX1_add_36 (by decide) (fun c40 => ?_) (fun c40 => ?_)
              ·
                have c40 := z_eq (i := p4.toInt) (j := (-1)) rfl (by decide) c40
                exact J52_37 ls (lv_sub hl [0, 1, 2, 3, 4] rfl)
              ·
                have c40 := z_ne (i := p4.toInt) (j := (-1)) rfl (by decide) c40
                refine lv_iload hx hb dX1_add_39 (lv_at hl 4 rfl) ?_
                refine lv_iconst (v := 1) hx hb dX1_add_41 (by decide) ?_
                refine lv_icmp_lt (tgt := 56) hx hb dX1_add_42 (by decide) (fun c41 => ?_) (fun c41 => ?_)
                ·
                  have c41 := z_lt (i := p4.toInt) (j := 1) rfl (by decide) c41
                  exact J56_28 ls (lv_sub hl [0, 1, 2, 3, 4] rfl)
                ·
                  have c41 := z_nlt (i := p4.toInt) (j := 1) rfl (by decide) c41
                  refine lv_iload hx hb dX1_add_45 (lv_at hl 4 rfl) ?_
                  refine lv_bipush (v := 100) hx hb dX1_add_47 (by decide) ?_
                  refine lv_icmp_gt (tgt := 56) hx hb dX1_add_49 (by decide) (fun c42 => ?_) (fun c42 => ?_)
                  ·
                    have c42 := z_lt (i := 100) (j := p4.toInt) (by decide) rfl c42
                    exact J56_28 ls (lv_sub hl [0, 1, 2, 3, 4] rfl)
                  ·
                    have c42 := z_nlt (i := 100) (j := p4.toInt) (by decide) rfl c42
                    exact J52_37 ls (lv_sub hl [0, 1, 2, 3, 4] rfl)

set_option maxHeartbeats 8000000 in
set_option maxRecDepth 100000 in
theorem c_X1_addHang (l : Launch) (D : va_G) (ca : Nat → ClassId) (sa : Nat → Nat) (A : Nat → Prop) (rest : va_W) (r0 : Nat → Nat) (fi0 : Nat → Int32) (fl0 : Nat → Int64) (fa0 : Nat → Nat → Int32) (fb0 : Nat → Nat → Int64) (hv0 : Ok_CHG fi0 fa0) (p1 : Int32) (p2 : Int32) (hpre0 : 0 ≤ p1.toInt ∧ p1.toInt ≤ 59) : Met l yX1_addHang wsX1_addHang ({ frames := 1, cells := 0, slots := 0, locals := 20 }) (va_Pc [.ref (r0 0), .int p1, .int p2] (zPre D ca sa A (w_CHG ca r0 fi0 fl0 fa0 fb0 (rest)))) (va_Qi (fun (r : Int32) (u : zS) => Ok_CHG u.1 u.2.2.1) (fun u t => zPost D A (w_CHG ca r0 u.1 u.2.1 u.2.2.1 u.2.2.2 (rest)) t) A) 0 0 A := by
  refine Met.ofW (cc := cX1_addHang) (maxL := 4) (ret := (some .int)) (by decide) rfl ?_
  intro p e s m args below meth c s₁ B hml hv9
  obtain ⟨rfl, hE, hP, hD⟩ := hv9
  have hx := B.exec
  have hb := B.bytes
  have hr := B.returns
  have hts := atoms_spec (ws := wsX1_addHang) B.pre
  have hown : s.vm.findClass RX1 = some m.cls := findClass_of_methodNamed B.named
  have hlocks := B.notSynchronized
  have hK := hE.1
  have hF : CallFix p m c cX1_addHang 4 s _ wsX1_addHang RX1 := ⟨hx, hb, hml, hown, hts⟩
  have hS : va_S A s.heap s.heap [] := va_S.rf
  have lk34 := hts (.fieldLink RX1 34 "BranchPlay$Changes" "hangCount" "[I") (by decide +kernel)
  have inX1 : ∀ w ∈ wsX10, w ∈ wsX1_addHang := by decide +kernel
  have lk37 := hts (.fieldLink RX1 37 "BranchPlay$Changes" "hangs" "[I") (by decide +kernel)
  have lk40 := hts (.fieldLink RX1 40 "BranchPlay$Changes" "hangSet" "[J") (by decide +kernel)
  have liX8 := hts (.initialized RX8) (by decide +kernel)
  have lsX8_only := hts (.static yX8_only) (by decide +kernel)
  obtain ⟨⟨hv0i0, hv0j0⟩, hv0a6⟩ := hv0
  generalize hHe : s.heap = H at hP
  have hS : va_S A s.heap H [] := by rw [← hHe]; exact hS
  have hP : va_P D vwCl (((r0 0), .inr (1, [.int (fi0 0), .ref (r0 1), .ref (r0 2), .ref (r0 3), .ref (r0 4), .ref (r0 5), .ref (r0 6), .ref (r0 7), .ref (r0 8), .ref (r0 9), .long (fl0 0), .ref (r0 10)])) :: ((r0 1), .inl (ca 0, 60, .inl (fa0 0))) :: ((r0 2), .inl (ca 0, 60, .inl (fa0 1))) :: ((r0 3), .inl (ca 0, 60, .inl (fa0 2))) :: ((r0 4), .inl (ca 0, 60, .inl (fa0 3))) :: ((r0 5), .inl (ca 0, 60, .inl (fa0 4))) :: ((r0 6), .inl (ca 0, 60, .inl (fa0 5))) :: ((r0 7), .inl (ca 0, 60, .inl (fa0 6))) :: ((r0 8), .inl (ca 0, 180, .inl (fa0 7))) :: ((r0 9), .inl (ca 1, 60, .inr (.inl (fb0 0)))) :: ((r0 10), .inr (0, [.ref (r0 11)])) :: ((r0 11), .inl (ca 1, 400, .inr (.inl (fb0 1)))) :: rest) H := hP
  have hD : va_D A (((r0 0), .inr (1, [.int (fi0 0), .ref (r0 1), .ref (r0 2), .ref (r0 3), .ref (r0 4), .ref (r0 5), .ref (r0 6), .ref (r0 7), .ref (r0 8), .ref (r0 9), .long (fl0 0), .ref (r0 10)])) :: ((r0 1), .inl (ca 0, 60, .inl (fa0 0))) :: ((r0 2), .inl (ca 0, 60, .inl (fa0 1))) :: ((r0 3), .inl (ca 0, 60, .inl (fa0 2))) :: ((r0 4), .inl (ca 0, 60, .inl (fa0 3))) :: ((r0 5), .inl (ca 0, 60, .inl (fa0 4))) :: ((r0 6), .inl (ca 0, 60, .inl (fa0 5))) :: ((r0 7), .inl (ca 0, 60, .inl (fa0 6))) :: ((r0 8), .inl (ca 0, 180, .inl (fa0 7))) :: ((r0 9), .inl (ca 1, 60, .inr (.inl (fb0 0)))) :: ((r0 10), .inr (0, [.ref (r0 11)])) :: ((r0 11), .inl (ca 1, 400, .inr (.inl (fb0 1)))) :: rest) := hD
  have hl := lv_entry ([.ref (r0 0), .int p1, .int p2]) (n := 4) (Nat.le_of_ble_eq_true rfl)
  rw [lg_entry_eq]
  generalize (lg_sl ([.ref (r0 0), .int p1, .int p2]) ++ List.replicate (4 - (lg_sl ([.ref (r0 0), .int p1, .int p2])).length) Slot.unset).toArray = ls at hl ⊢
  have hl : lv_has ls 4 [(0, .ref (r0 0)), (1, .int p1), (2, .int p2)] := hl
  generalize hQ9 : MQ below _ _ s 0 0 A = Q9
  refine lv_aload_n hx hb dX1_addHang_0 rfl (lv_at hl 0 rfl) ?_
  refine va_get (D := D) (ci := 1) (v := .ref (r0 7)) (C := RX1) (T := TX1) (N := 12) hx hb hts inX1 hown hK hP 0 rfl rfl 7 (by decide) lk34 (fun _ h9 => h9) rfl dX1_addHang_1 ?_
  refine lv_iload_n hx hb dX1_addHang_4 rfl (lv_at hl 1 rfl) ?_
  have hi1 : vp_in p1 60 := z_in (i := p1.toInt) rfl (by omega) (by omega)
  refine va_iald hx hb hK hP 7 0 rfl rfl hi1 dX1_addHang_5 ?_
  refine lv_topi (fun t2 et2 => ?_)
  have ht2 := z_at hv0a6 et2
  refine lv_istore_n (lv' := [(3, .int t2), (0, .ref (r0 0)), (1, .int p1), (2, .int p2)]) hx hb dX1_addHang_6 rfl hl (by decide) rfl (fun ls hl => ?_)
  refine lv_iload_n hx hb dX1_addHang_7 rfl (lv_at hl 0 rfl) ?_
  refine lv_iconst (v := 3) hx hb dX1_addHang_8 (by decide) ?_
  refine lv_icmp_lt (tgt := 15) hx hb dX1_addHang_9 (by decide) (fun c3 => ?_) (fun c3 => ?_)
  ·
    have c3 := z_lt (i := t2.toInt) (j := 3) rfl (by decide) c3
    refine lv_aload_n hx hb dX1_addHang_15 rfl (lv_at hl 1 rfl) ?_
    refine va_get (D := D) (ci := 1) (v := .ref (r0 8)) (C := RX1) (T := TX1) (N := 12) hx hb hts inX1 hown hK hP 0 rfl rfl 8 (by decide) lk37 (fun _ h9 => h9) rfl dX1_addHang_16 ?_
    refine lv_iload_n hx hb dX1_addHang_19 rfl (lv_at hl 2 rfl) ?_
    refine lv_iconst (v := 3) hx hb dX1_addHang_20 (by decide) ?_
    refine lv_imul hx hb dX1_addHang_21 ?_
    refine lv_topi (fun t4 et4 => ?_)
    try have ht4 : t4.toInt = p1.toInt * 3 := z_mul et4 rfl (by decide) (by omega) (by omega)
    refine lv_iload_n hx hb dX1_addHang_22 rfl (lv_at hl 0 rfl) ?_
    refine lv_iadd hx hb dX1_addHang_23 ?_
    refine lv_topi (fun t5 et5 => ?_)
    try have ht5 : t5.toInt = t4.toInt + t2.toInt := z_add et5 rfl rfl (by omega) (by omega)
    refine lv_iload_n hx hb dX1_addHang_24 rfl (lv_at hl 3 rfl) ?_
    have hi6 : vp_in t5 180 := z_in (i := t5.toInt) rfl (by omega) (by omega)
    refine va_iast hx hb hK hP hD hS 8 0 rfl rfl hi6 dX1_addHang_25 (fun H locs hP hD hS => ?_)
    generalize eg7 : upd (fa0 7) t5.toNatClampNeg p2 = g7 at hP hD
    have hP : va_P D vwCl (((r0 0), .inr (1, [.int (fi0 0), .ref (r0 1), .ref (r0 2), .ref (r0 3), .ref (r0 4), .ref (r0 5), .ref (r0 6), .ref (r0 7), .ref (r0 8), .ref (r0 9), .long (fl0 0), .ref (r0 10)])) :: ((r0 1), .inl (ca 0, 60, .inl (fa0 0))) :: ((r0 2), .inl (ca 0, 60, .inl (fa0 1))) :: ((r0 3), .inl (ca 0, 60, .inl (fa0 2))) :: ((r0 4), .inl (ca 0, 60, .inl (fa0 3))) :: ((r0 5), .inl (ca 0, 60, .inl (fa0 4))) :: ((r0 6), .inl (ca 0, 60, .inl (fa0 5))) :: ((r0 7), .inl (ca 0, 60, .inl (fa0 6))) :: ((r0 8), .inl (ca 0, 180, .inl g7)) :: ((r0 9), .inl (ca 1, 60, .inr (.inl (fb0 0)))) :: ((r0 10), .inr (0, [.ref (r0 11)])) :: ((r0 11), .inl (ca 1, 400, .inr (.inl (fb0 1)))) :: rest) H := hP
    have hD : va_D A (((r0 0), .inr (1, [.int (fi0 0), .ref (r0 1), .ref (r0 2), .ref (r0 3), .ref (r0 4), .ref (r0 5), .ref (r0 6), .ref (r0 7), .ref (r0 8), .ref (r0 9), .long (fl0 0), .ref (r0 10)])) :: ((r0 1), .inl (ca 0, 60, .inl (fa0 0))) :: ((r0 2), .inl (ca 0, 60, .inl (fa0 1))) :: ((r0 3), .inl (ca 0, 60, .inl (fa0 2))) :: ((r0 4), .inl (ca 0, 60, .inl (fa0 3))) :: ((r0 5), .inl (ca 0, 60, .inl (fa0 4))) :: ((r0 6), .inl (ca 0, 60, .inl (fa0 5))) :: ((r0 7), .inl (ca 0, 60, .inl (fa0 6))) :: ((r0 8), .inl (ca 0, 180, .inl g7)) :: ((r0 9), .inl (ca 1, 60, .inr (.inl (fb0 0)))) :: ((r0 10), .inr (0, [.ref (r0 11)])) :: ((r0 11), .inl (ca 1, 400, .inr (.inl (fb0 1)))) :: rest) := hD
    refine lv_aload_n hx hb dX1_addHang_26 rfl (lv_at hl 1 rfl) ?_
    refine va_get (D := D) (ci := 1) (v := .ref (r0 7)) (C := RX1) (T := TX1) (N := 12) hx hb hts inX1 hown hK hP 0 rfl rfl 7 (by decide) lk34 (fun _ h9 => h9) rfl dX1_addHang_27 ?_
    refine lv_iload_n hx hb dX1_addHang_30 rfl (lv_at hl 2 rfl) ?_
    refine lv_iload_n hx hb dX1_addHang_31 rfl (lv_at hl 0 rfl) ?_
    refine lv_iconst (v := 1) hx hb dX1_addHang_32 (by decide) ?_
    refine lv_iadd hx hb dX1_addHang_33 ?_
    refine lv_topi (fun t8 et8 => ?_)
    try have ht8 : t8.toInt = t2.toInt + 1 := z_add et8 rfl (by decide) (by omega) (by omega)
    have hi9 : vp_in p1 60 := z_in (i := p1.toInt) rfl (by omega) (by omega)
    refine va_iast hx hb hK hP hD hS 7 0 rfl rfl hi9 dX1_addHang_34 (fun H locs hP hD hS => ?_)
    generalize eg10 : upd (fa0 6) p1.toNatClampNeg t8 = g10 at hP hD
    have hg10 : z_rng 0 3 g10 := z_upd (i := t8.toInt) eg10.symm hv0a6 rfl (by omega) (by omega)
    have hP : va_P D vwCl (((r0 0), .inr (1, [.int (fi0 0), .ref (r0 1), .ref (r0 2), .ref (r0 3), .ref (r0 4), .ref (r0 5), .ref (r0 6), .ref (r0 7), .ref (r0 8), .ref (r0 9), .long (fl0 0), .ref (r0 10)])) :: ((r0 1), .inl (ca 0, 60, .inl (fa0 0))) :: ((r0 2), .inl (ca 0, 60, .inl (fa0 1))) :: ((r0 3), .inl (ca 0, 60, .inl (fa0 2))) :: ((r0 4), .inl (ca 0, 60, .inl (fa0 3))) :: ((r0 5), .inl (ca 0, 60, .inl (fa0 4))) :: ((r0 6), .inl (ca 0, 60, .inl (fa0 5))) :: ((r0 7), .inl (ca 0, 60, .inl g10)) :: ((r0 8), .inl (ca 0, 180, .inl g7)) :: ((r0 9), .inl (ca 1, 60, .inr (.inl (fb0 0)))) :: ((r0 10), .inr (0, [.ref (r0 11)])) :: ((r0 11), .inl (ca 1, 400, .inr (.inl (fb0 1)))) :: rest) H := hP
    have hD : va_D A (((r0 0), .inr (1, [.int (fi0 0), .ref (r0 1), .ref (r0 2), .ref (r0 3), .ref (r0 4), .ref (r0 5), .ref (r0 6), .ref (r0 7), .ref (r0 8), .ref (r0 9), .long (fl0 0), .ref (r0 10)])) :: ((r0 1), .inl (ca 0, 60, .inl (fa0 0))) :: ((r0 2), .inl (ca 0, 60, .inl (fa0 1))) :: ((r0 3), .inl (ca 0, 60, .inl (fa0 2))) :: ((r0 4), .inl (ca 0, 60, .inl (fa0 3))) :: ((r0 5), .inl (ca 0, 60, .inl (fa0 4))) :: ((r0 6), .inl (ca 0, 60, .inl (fa0 5))) :: ((r0 7), .inl (ca 0, 60, .inl g10)) :: ((r0 8), .inl (ca 0, 180, .inl g7)) :: ((r0 9), .inl (ca 1, 60, .inr (.inl (fb0 0)))) :: ((r0 10), .inr (0, [.ref (r0 11)])) :: ((r0 11), .inl (ca 1, 400, .inr (.inl (fb0 1)))) :: rest) := hD
    refine lv_aload_n hx hb dX1_addHang_35 rfl (lv_at hl 1 rfl) ?_
    refine va_get (D := D) (ci := 1) (v := .ref (r0 9)) (C := RX1) (T := TX1) (N := 12) hx hb hts inX1 hown hK hP 0 rfl rfl 9 (by decide) lk40 (fun _ h9 => h9) rfl dX1_addHang_36 ?_
    refine lv_iload_n hx hb dX1_addHang_39 rfl (lv_at hl 2 rfl) ?_
    refine lv_dup2_11 hx hb dX1_addHang_40 rfl rfl ?_
    have hi11 : vp_in p1 60 := z_in (i := p1.toInt) rfl (by omega) (by omega)
    refine va_lald hx hb hK hP 9 1 rfl rfl hi11 dX1_addHang_41 ?_
    refine lv_topl (fun t12 et12 => ?_)
    refine lv_iload_n hx hb dX1_addHang_42 rfl (lv_at hl 3 rfl) ?_
    refine z_lN (As := [.int p2]) (rest := [.long t12, .int p1, .ref (r0 9)]) (host := RX8) hF (c_X8_only l D ca sa A _ p2) ⟨va_cnB 1 hts ggX1_addHang_X8_only rfl rfl rfl (hE.2.1 _ (by decide +kernel)) liX8 (by decide +kernel) ⟨Nat.le_of_ble_eq_true rfl, Nat.le_of_ble_eq_true rfl⟩, lsX8_only, trivial⟩ hE hP hD hS rfl hl.1 rfl (Nat.le_of_ble_eq_true rfl) dX1_addHang_43 ⟨Nat.zero_le _, Nat.zero_le _⟩ (fun t14 u13 H locs hw15 hP hD hS => ?_)
    refine lv_lor hx hb dX1_addHang_46 ?_
    refine lv_topl (fun t16 et16 => ?_)
    have hi17 : vp_in p1 60 := z_in (i := p1.toInt) rfl (by omega) (by omega)
    refine va_last hx hb hK hP hD hS 9 1 rfl rfl hi17 dX1_addHang_47 (fun H locs hP hD hS => ?_)
    generalize eg18 : vp_updL (fb0 0) p1.toNatClampNeg t16 = g18 at hP hD
    have hP : va_P D vwCl (((r0 0), .inr (1, [.int (fi0 0), .ref (r0 1), .ref (r0 2), .ref (r0 3), .ref (r0 4), .ref (r0 5), .ref (r0 6), .ref (r0 7), .ref (r0 8), .ref (r0 9), .long (fl0 0), .ref (r0 10)])) :: ((r0 1), .inl (ca 0, 60, .inl (fa0 0))) :: ((r0 2), .inl (ca 0, 60, .inl (fa0 1))) :: ((r0 3), .inl (ca 0, 60, .inl (fa0 2))) :: ((r0 4), .inl (ca 0, 60, .inl (fa0 3))) :: ((r0 5), .inl (ca 0, 60, .inl (fa0 4))) :: ((r0 6), .inl (ca 0, 60, .inl (fa0 5))) :: ((r0 7), .inl (ca 0, 60, .inl g10)) :: ((r0 8), .inl (ca 0, 180, .inl g7)) :: ((r0 9), .inl (ca 1, 60, .inr (.inl g18))) :: ((r0 10), .inr (0, [.ref (r0 11)])) :: ((r0 11), .inl (ca 1, 400, .inr (.inl (fb0 1)))) :: rest) H := hP
    have hD : va_D A (((r0 0), .inr (1, [.int (fi0 0), .ref (r0 1), .ref (r0 2), .ref (r0 3), .ref (r0 4), .ref (r0 5), .ref (r0 6), .ref (r0 7), .ref (r0 8), .ref (r0 9), .long (fl0 0), .ref (r0 10)])) :: ((r0 1), .inl (ca 0, 60, .inl (fa0 0))) :: ((r0 2), .inl (ca 0, 60, .inl (fa0 1))) :: ((r0 3), .inl (ca 0, 60, .inl (fa0 2))) :: ((r0 4), .inl (ca 0, 60, .inl (fa0 3))) :: ((r0 5), .inl (ca 0, 60, .inl (fa0 4))) :: ((r0 6), .inl (ca 0, 60, .inl (fa0 5))) :: ((r0 7), .inl (ca 0, 60, .inl g10)) :: ((r0 8), .inl (ca 0, 180, .inl g7)) :: ((r0 9), .inl (ca 1, 60, .inr (.inl g18))) :: ((r0 10), .inr (0, [.ref (r0 11)])) :: ((r0 11), .inl (ca 1, 400, .inr (.inl (fb0 1)))) :: rest) := hD
    refine lv_iload_n hx hb dX1_addHang_48 rfl (lv_at hl 0 rfl) ?_
    refine lv_iconst (v := 1) hx hb dX1_addHang_49 (by decide) ?_
    refine lv_iadd hx hb dX1_addHang_50 ?_
    refine lv_topi (fun t19 et19 => ?_)
    try have ht19 : t19.toInt = t2.toInt + 1 := z_add et19 rfl (by decide) (by omega) (by omega)
    subst hQ9
    have ho20 : (0 ≤ (fi0 0).toInt ∧ (fi0 0).toInt ≤ 60) ∧ z_rng 0 3 g10 := ⟨⟨by omega, by omega⟩, hg10⟩
    exact W.iret (v := t19) hx hb hr (fun t ht hW => ⟨⟨t19, ((zl 0 [(fi0 0)]), (zl 0 [(fl0 0)]), (zl (fun _ => 0) [(fa0 0), (fa0 1), (fa0 2), (fa0 3), (fa0 4), (fa0 5), g10, g7]), (zl (fun _ => 0) [g18, (fb0 1)])), rfl, ho20, ⟨by rw [ht]; exact hP, hD⟩⟩, hS.F ht⟩) hS.2.2 dX1_addHang_51
  ·
    have c3 := z_nlt (i := t2.toInt) (j := 3) rfl (by decide) c3
    refine lv_bipush (v := (-3)) hx hb dX1_addHang_12 (by decide) ?_
    subst hQ9
    refine lv_topi (fun t21 et21 => ?_)
    have ht21 : t21.toInt = (-3) := by rw [et21]; decide
    have ho22 : (0 ≤ (fi0 0).toInt ∧ (fi0 0).toInt ≤ 60) ∧ z_rng 0 3 (fa0 6) := ⟨⟨by omega, by omega⟩, hv0a6⟩
    exact W.iret (v := t21) hx hb hr (fun t ht hW => ⟨⟨t21, ((zl 0 [(fi0 0)]), (zl 0 [(fl0 0)]), (zl (fun _ => 0) [(fa0 0), (fa0 1), (fa0 2), (fa0 3), (fa0 4), (fa0 5), (fa0 6), (fa0 7)]), (zl (fun _ => 0) [(fb0 0), (fb0 1)])), rfl, ho22, ⟨by rw [ht]; exact hP, hD⟩⟩, hS.F ht⟩) hS.2.2 dX1_addHang_14

set_option maxHeartbeats 8000000 in
set_option maxRecDepth 100000 in
theorem c_X1_addFix (l : Launch) (D : va_G) (ca : Nat → ClassId) (sa : Nat → Nat) (A : Nat → Prop) (rest : va_W) (r0 : Nat → Nat) (fi0 : Nat → Int32) (fl0 : Nat → Int64) (fa0 : Nat → Nat → Int32) (fb0 : Nat → Nat → Int64) (hv0 : Ok_CHG fi0 fa0) (p1 : Int32) (p2 : Int32) (hpre0 : 0 ≤ p1.toInt ∧ p1.toInt ≤ 59) (hpre1 : 0 ≤ p2.toInt ∧ p2.toInt ≤ 59) : Met l yX1_addFix wsX1_addFix ({ frames := 1, cells := 0, slots := 0, locals := 22 }) (va_Pc [.ref (r0 0), .int p1, .int p2] (zPre D ca sa A (w_CHG ca r0 fi0 fl0 fa0 fb0 (rest)))) (va_Qi (fun (r : Int32) (u : zS) => Ok_CHG u.1 u.2.2.1 ∧ (0 ≤ r.toInt ∧ r.toInt ≤ 1)) (fun u t => zPost D A (w_CHG ca r0 u.1 u.2.1 u.2.2.1 u.2.2.2 (rest)) t) A) 0 0 A := by
  refine Met.ofW (cc := cX1_addFix) (maxL := 3) (ret := (some .boolean)) (by decide) rfl ?_
  intro p e s m args below meth c s₁ B hml hv9
  obtain ⟨rfl, hE, hP, hD⟩ := hv9
  have hx := B.exec
  have hb := B.bytes
  have hr := B.returns
  have hts := atoms_spec (ws := wsX1_addFix) B.pre
  have hown : s.vm.findClass RX1 = some m.cls := findClass_of_methodNamed B.named
  have hlocks := B.notSynchronized
  have hK := hE.1
  have hF : CallFix p m c cX1_addFix 3 s _ wsX1_addFix RX1 := ⟨hx, hb, hml, hown, hts⟩
  have hS : va_S A s.heap s.heap [] := va_S.rf
  have lk25 := hts (.fieldLink RX1 25 "BranchPlay$Changes" "breakAfter" "[I") (by decide +kernel)
  have inX1 : ∀ w ∈ wsX10, w ∈ wsX1_addFix := by decide +kernel
  have lk31 := hts (.fieldLink RX1 31 "BranchPlay$Changes" "fixedBy" "[I") (by decide +kernel)
  have lk28 := hts (.fieldLink RX1 28 "BranchPlay$Changes" "fixOf" "[I") (by decide +kernel)
  have lk44 := hts (.fieldLink RX1 44 "BranchPlay$Changes" "fixes" "J") (by decide +kernel)
  have liX8 := hts (.initialized RX8) (by decide +kernel)
  have lsX8_only := hts (.static yX8_only) (by decide +kernel)
  have lk51 := hts (.fieldLink RX1 51 "BranchPlay$Changes" "births" "LBranchPlay$Agenda;") (by decide +kernel)
  have lk15 := hts (.fieldLink RX1 15 "BranchPlay$Changes" "birth" "[I") (by decide +kernel)
  obtain ⟨⟨hv0i0, hv0j0⟩, hv0a6⟩ := hv0
  generalize hHe : s.heap = H at hP
  have hS : va_S A s.heap H [] := by rw [← hHe]; exact hS
  have hP : va_P D vwCl (((r0 0), .inr (1, [.int (fi0 0), .ref (r0 1), .ref (r0 2), .ref (r0 3), .ref (r0 4), .ref (r0 5), .ref (r0 6), .ref (r0 7), .ref (r0 8), .ref (r0 9), .long (fl0 0), .ref (r0 10)])) :: ((r0 1), .inl (ca 0, 60, .inl (fa0 0))) :: ((r0 2), .inl (ca 0, 60, .inl (fa0 1))) :: ((r0 3), .inl (ca 0, 60, .inl (fa0 2))) :: ((r0 4), .inl (ca 0, 60, .inl (fa0 3))) :: ((r0 5), .inl (ca 0, 60, .inl (fa0 4))) :: ((r0 6), .inl (ca 0, 60, .inl (fa0 5))) :: ((r0 7), .inl (ca 0, 60, .inl (fa0 6))) :: ((r0 8), .inl (ca 0, 180, .inl (fa0 7))) :: ((r0 9), .inl (ca 1, 60, .inr (.inl (fb0 0)))) :: ((r0 10), .inr (0, [.ref (r0 11)])) :: ((r0 11), .inl (ca 1, 400, .inr (.inl (fb0 1)))) :: rest) H := hP
  have hD : va_D A (((r0 0), .inr (1, [.int (fi0 0), .ref (r0 1), .ref (r0 2), .ref (r0 3), .ref (r0 4), .ref (r0 5), .ref (r0 6), .ref (r0 7), .ref (r0 8), .ref (r0 9), .long (fl0 0), .ref (r0 10)])) :: ((r0 1), .inl (ca 0, 60, .inl (fa0 0))) :: ((r0 2), .inl (ca 0, 60, .inl (fa0 1))) :: ((r0 3), .inl (ca 0, 60, .inl (fa0 2))) :: ((r0 4), .inl (ca 0, 60, .inl (fa0 3))) :: ((r0 5), .inl (ca 0, 60, .inl (fa0 4))) :: ((r0 6), .inl (ca 0, 60, .inl (fa0 5))) :: ((r0 7), .inl (ca 0, 60, .inl (fa0 6))) :: ((r0 8), .inl (ca 0, 180, .inl (fa0 7))) :: ((r0 9), .inl (ca 1, 60, .inr (.inl (fb0 0)))) :: ((r0 10), .inr (0, [.ref (r0 11)])) :: ((r0 11), .inl (ca 1, 400, .inr (.inl (fb0 1)))) :: rest) := hD
  have hl := lv_entry ([.ref (r0 0), .int p1, .int p2]) (n := 3) (Nat.le_of_ble_eq_true rfl)
  rw [lg_entry_eq]
  generalize (lg_sl ([.ref (r0 0), .int p1, .int p2]) ++ List.replicate (3 - (lg_sl ([.ref (r0 0), .int p1, .int p2])).length) Slot.unset).toArray = ls at hl ⊢
  have hl : lv_has ls 3 [(0, .ref (r0 0)), (1, .int p1), (2, .int p2)] := hl
  generalize hQ9 : MQ below _ _ s 0 0 A = Q9
  refine lv_aload_n hx hb dX1_addFix_0 rfl (lv_at hl 0 rfl) ?_
  refine va_get (D := D) (ci := 1) (v := .ref (r0 4)) (C := RX1) (T := TX1) (N := 12) hx hb hts inX1 hown hK hP 0 rfl rfl 4 (by decide) lk25 (fun _ h9 => h9) rfl dX1_addFix_1 ?_
  refine lv_iload_n hx hb dX1_addFix_4 rfl (lv_at hl 2 rfl) ?_
  have hi1 : vp_in p2 60 := z_in (i := p2.toInt) rfl (by omega) (by omega)
  refine va_iald hx hb hK hP 4 0 rfl rfl hi1 dX1_addFix_5 ?_
  refine lv_topi (fun t2 et2 => ?_)
  refine lv_iconst (v := (-1)) hx hb dX1_addFix_6 (by decide) ?_
  refine lv_icmp_eq (tgt := 30) hx hb dX1_addFix_7 (by decide) (fun c3 => ?_) (fun c3 => ?_)
  ·
    have c3 := z_eq (i := t2.toInt) (j := (-1)) rfl (by decide) c3
    refine lv_iconst (v := 0) hx hb dX1_addFix_30 (by decide) ?_
    subst hQ9
    refine lv_topi (fun t4 et4 => ?_)
    have ht4 : t4.toInt = 0 := by rw [et4]; decide
    have ho5 : (0 ≤ (fi0 0).toInt ∧ (fi0 0).toInt ≤ 60) ∧ z_rng 0 3 (fa0 6) := ⟨⟨by omega, by omega⟩, hv0a6⟩
    have hq6 : 0 ≤ t4.toInt ∧ t4.toInt ≤ 1 := by omega
    have hz7 : narrow .boolean (.int t4) = .int t4 := z_nz (by constructor <;> omega)
    exact W.zret (v := t4) hx hb hr hz7 (fun t ht hW => ⟨⟨t4, ((zl 0 [(fi0 0)]), (zl 0 [(fl0 0)]), (zl (fun _ => 0) [(fa0 0), (fa0 1), (fa0 2), (fa0 3), (fa0 4), (fa0 5), (fa0 6), (fa0 7)]), (zl (fun _ => 0) [(fb0 0), (fb0 1)])), rfl, ⟨ho5, hq6⟩, ⟨by rw [ht]; exact hP, hD⟩⟩, hS.F ht⟩) hS.2.2 dX1_addFix_31
  ·
    have c3 := z_ne (i := t2.toInt) (j := (-1)) rfl (by decide) c3
    refine lv_aload_n hx hb dX1_addFix_10 rfl (lv_at hl 0 rfl) ?_
    refine va_get (D := D) (ci := 1) (v := .ref (r0 6)) (C := RX1) (T := TX1) (N := 12) hx hb hts inX1 hown hK hP 0 rfl rfl 6 (by decide) lk31 (fun _ h9 => h9) rfl dX1_addFix_11 ?_
    refine lv_iload_n hx hb dX1_addFix_14 rfl (lv_at hl 2 rfl) ?_
    have hi8 : vp_in p2 60 := z_in (i := p2.toInt) rfl (by omega) (by omega)
    refine va_iald hx hb hK hP 6 0 rfl rfl hi8 dX1_addFix_15 ?_
    refine lv_topi (fun t9 et9 => ?_)
    refine lv_iconst (v := (-1)) hx hb dX1_addFix_16 (by decide) ?_
    refine lv_icmp_ne (tgt := 30) hx hb dX1_addFix_17 (by decide) (fun c10 => ?_) (fun c10 => ?_)
    ·
      have c10 := z_ne (i := t9.toInt) (j := (-1)) rfl (by decide) c10
      refine lv_iconst (v := 0) hx hb dX1_addFix_30 (by decide) ?_
      subst hQ9
      refine lv_topi (fun t11 et11 => ?_)
      have ht11 : t11.toInt = 0 := by rw [et11]; decide
      have ho12 : (0 ≤ (fi0 0).toInt ∧ (fi0 0).toInt ≤ 60) ∧ z_rng 0 3 (fa0 6) := ⟨⟨by omega, by omega⟩, hv0a6⟩
      have hq13 : 0 ≤ t11.toInt ∧ t11.toInt ≤ 1 := by omega
      have hz14 : narrow .boolean (.int t11) = .int t11 := z_nz (by constructor <;> omega)
      exact W.zret (v := t11) hx hb hr hz14 (fun t ht hW => ⟨⟨t11, ((zl 0 [(fi0 0)]), (zl 0 [(fl0 0)]), (zl (fun _ => 0) [(fa0 0), (fa0 1), (fa0 2), (fa0 3), (fa0 4), (fa0 5), (fa0 6), (fa0 7)]), (zl (fun _ => 0) [(fb0 0), (fb0 1)])), rfl, ⟨ho12, hq13⟩, ⟨by rw [ht]; exact hP, hD⟩⟩, hS.F ht⟩) hS.2.2 dX1_addFix_31
    ·
      have c10 := z_eq (i := t9.toInt) (j := (-1)) rfl (by decide) c10
      refine lv_aload_n hx hb dX1_addFix_20 rfl (lv_at hl 0 rfl) ?_
      refine va_get (D := D) (ci := 1) (v := .ref (r0 5)) (C := RX1) (T := TX1) (N := 12) hx hb hts inX1 hown hK hP 0 rfl rfl 5 (by decide) lk28 (fun _ h9 => h9) rfl dX1_addFix_21 ?_
      refine lv_iload_n hx hb dX1_addFix_24 rfl (lv_at hl 1 rfl) ?_
      have hi15 : vp_in p1 60 := z_in (i := p1.toInt) rfl (by omega) (by omega)
      refine va_iald hx hb hK hP 5 0 rfl rfl hi15 dX1_addFix_25 ?_
      refine lv_topi (fun t16 et16 => ?_)
      refine lv_iconst (v := (-1)) hx hb dX1_addFix_26 (by decide) ?_
      refine lv_icmp_eq (tgt := 32) hx hb dX1_addFix_27 (by decide) (fun c17 => ?_) (fun c17 => ?_)
      ·
        have c17 := z_eq (i := t16.toInt) (j := (-1)) rfl (by decide) c17
        refine lv_aload_n hx hb dX1_addFix_32 rfl (lv_at hl 0 rfl) ?_
        refine va_get (D := D) (ci := 1) (v := .ref (r0 5)) (C := RX1) (T := TX1) (N := 12) hx hb hts inX1 hown hK hP 0 rfl rfl 5 (by decide) lk28 (fun _ h9 => h9) rfl dX1_addFix_33 ?_
        refine lv_iload_n hx hb dX1_addFix_36 rfl (lv_at hl 1 rfl) ?_
        refine lv_iload_n hx hb dX1_addFix_37 rfl (lv_at hl 2 rfl) ?_
        have hi18 : vp_in p1 60 := z_in (i := p1.toInt) rfl (by omega) (by omega)
        refine va_iast hx hb hK hP hD hS 5 0 rfl rfl hi18 dX1_addFix_38 (fun H locs hP hD hS => ?_)
        generalize eg19 : upd (fa0 4) p1.toNatClampNeg p2 = g19 at hP hD
        have hP : va_P D vwCl (((r0 0), .inr (1, [.int (fi0 0), .ref (r0 1), .ref (r0 2), .ref (r0 3), .ref (r0 4), .ref (r0 5), .ref (r0 6), .ref (r0 7), .ref (r0 8), .ref (r0 9), .long (fl0 0), .ref (r0 10)])) :: ((r0 1), .inl (ca 0, 60, .inl (fa0 0))) :: ((r0 2), .inl (ca 0, 60, .inl (fa0 1))) :: ((r0 3), .inl (ca 0, 60, .inl (fa0 2))) :: ((r0 4), .inl (ca 0, 60, .inl (fa0 3))) :: ((r0 5), .inl (ca 0, 60, .inl g19)) :: ((r0 6), .inl (ca 0, 60, .inl (fa0 5))) :: ((r0 7), .inl (ca 0, 60, .inl (fa0 6))) :: ((r0 8), .inl (ca 0, 180, .inl (fa0 7))) :: ((r0 9), .inl (ca 1, 60, .inr (.inl (fb0 0)))) :: ((r0 10), .inr (0, [.ref (r0 11)])) :: ((r0 11), .inl (ca 1, 400, .inr (.inl (fb0 1)))) :: rest) H := hP
        have hD : va_D A (((r0 0), .inr (1, [.int (fi0 0), .ref (r0 1), .ref (r0 2), .ref (r0 3), .ref (r0 4), .ref (r0 5), .ref (r0 6), .ref (r0 7), .ref (r0 8), .ref (r0 9), .long (fl0 0), .ref (r0 10)])) :: ((r0 1), .inl (ca 0, 60, .inl (fa0 0))) :: ((r0 2), .inl (ca 0, 60, .inl (fa0 1))) :: ((r0 3), .inl (ca 0, 60, .inl (fa0 2))) :: ((r0 4), .inl (ca 0, 60, .inl (fa0 3))) :: ((r0 5), .inl (ca 0, 60, .inl g19)) :: ((r0 6), .inl (ca 0, 60, .inl (fa0 5))) :: ((r0 7), .inl (ca 0, 60, .inl (fa0 6))) :: ((r0 8), .inl (ca 0, 180, .inl (fa0 7))) :: ((r0 9), .inl (ca 1, 60, .inr (.inl (fb0 0)))) :: ((r0 10), .inr (0, [.ref (r0 11)])) :: ((r0 11), .inl (ca 1, 400, .inr (.inl (fb0 1)))) :: rest) := hD
        refine lv_aload_n hx hb dX1_addFix_39 rfl (lv_at hl 0 rfl) ?_
        refine va_get (D := D) (ci := 1) (v := .ref (r0 6)) (C := RX1) (T := TX1) (N := 12) hx hb hts inX1 hown hK hP 0 rfl rfl 6 (by decide) lk31 (fun _ h9 => h9) rfl dX1_addFix_40 ?_
        refine lv_iload_n hx hb dX1_addFix_43 rfl (lv_at hl 2 rfl) ?_
        refine lv_iload_n hx hb dX1_addFix_44 rfl (lv_at hl 1 rfl) ?_
        have hi20 : vp_in p2 60 := z_in (i := p2.toInt) rfl (by omega) (by omega)
        refine va_iast hx hb hK hP hD hS 6 0 rfl rfl hi20 dX1_addFix_45 (fun H locs hP hD hS => ?_)
        generalize eg21 : upd (fa0 5) p2.toNatClampNeg p1 = g21 at hP hD
        have hP : va_P D vwCl (((r0 0), .inr (1, [.int (fi0 0), .ref (r0 1), .ref (r0 2), .ref (r0 3), .ref (r0 4), .ref (r0 5), .ref (r0 6), .ref (r0 7), .ref (r0 8), .ref (r0 9), .long (fl0 0), .ref (r0 10)])) :: ((r0 1), .inl (ca 0, 60, .inl (fa0 0))) :: ((r0 2), .inl (ca 0, 60, .inl (fa0 1))) :: ((r0 3), .inl (ca 0, 60, .inl (fa0 2))) :: ((r0 4), .inl (ca 0, 60, .inl (fa0 3))) :: ((r0 5), .inl (ca 0, 60, .inl g19)) :: ((r0 6), .inl (ca 0, 60, .inl g21)) :: ((r0 7), .inl (ca 0, 60, .inl (fa0 6))) :: ((r0 8), .inl (ca 0, 180, .inl (fa0 7))) :: ((r0 9), .inl (ca 1, 60, .inr (.inl (fb0 0)))) :: ((r0 10), .inr (0, [.ref (r0 11)])) :: ((r0 11), .inl (ca 1, 400, .inr (.inl (fb0 1)))) :: rest) H := hP
        have hD : va_D A (((r0 0), .inr (1, [.int (fi0 0), .ref (r0 1), .ref (r0 2), .ref (r0 3), .ref (r0 4), .ref (r0 5), .ref (r0 6), .ref (r0 7), .ref (r0 8), .ref (r0 9), .long (fl0 0), .ref (r0 10)])) :: ((r0 1), .inl (ca 0, 60, .inl (fa0 0))) :: ((r0 2), .inl (ca 0, 60, .inl (fa0 1))) :: ((r0 3), .inl (ca 0, 60, .inl (fa0 2))) :: ((r0 4), .inl (ca 0, 60, .inl (fa0 3))) :: ((r0 5), .inl (ca 0, 60, .inl g19)) :: ((r0 6), .inl (ca 0, 60, .inl g21)) :: ((r0 7), .inl (ca 0, 60, .inl (fa0 6))) :: ((r0 8), .inl (ca 0, 180, .inl (fa0 7))) :: ((r0 9), .inl (ca 1, 60, .inr (.inl (fb0 0)))) :: ((r0 10), .inr (0, [.ref (r0 11)])) :: ((r0 11), .inl (ca 1, 400, .inr (.inl (fb0 1)))) :: rest) := hD
        refine lv_aload_n hx hb dX1_addFix_46 rfl (lv_at hl 0 rfl) ?_
        refine lv_dup hx hb dX1_addFix_47 rfl ?_
        refine va_get (D := D) (ci := 1) (v := .long (fl0 0)) (C := RX1) (T := TX1) (N := 12) hx hb hts inX1 hown hK hP 0 rfl rfl 10 (by decide) lk44 (fun _ h9 => h9) rfl dX1_addFix_48 ?_
        refine lv_iload_n hx hb dX1_addFix_51 rfl (lv_at hl 1 rfl) ?_
        refine z_lN (As := [.int p1]) (rest := [.long (fl0 0), .ref (r0 0)]) (host := RX8) hF (c_X8_only l D ca sa A _ p1) ⟨va_cnB 1 hts ggX1_addFix_X8_only rfl rfl rfl (hE.2.1 _ (by decide +kernel)) liX8 (by decide +kernel) ⟨Nat.le_of_ble_eq_true rfl, Nat.le_of_ble_eq_true rfl⟩, lsX8_only, trivial⟩ hE hP hD hS rfl hl.1 rfl (Nat.le_of_ble_eq_true rfl) dX1_addFix_52 ⟨Nat.zero_le _, Nat.zero_le _⟩ (fun t23 u22 H locs hw24 hP hD hS => ?_)
        refine lv_lor hx hb dX1_addFix_55 ?_
        refine lv_topl (fun t25 et25 => ?_)
        refine va_put (D := D) (ci := 1) (v := .long t25) (ty := .long) (C := RX1) (T := TX1) (N := 12) hx hb hts inX1 tyX1 tyX1_ok nmX1 hown hK hP hD hS 0 rfl rfl 10 (by decide) lk44 (fun _ h9 => h9) rfl (by decide +kernel) rfl rfl (Nat.le_of_ble_eq_true rfl) dX1_addFix_56 (fun H locs hP hD hS => ?_)
        have hP : va_P D vwCl (((r0 0), .inr (1, [.int (fi0 0), .ref (r0 1), .ref (r0 2), .ref (r0 3), .ref (r0 4), .ref (r0 5), .ref (r0 6), .ref (r0 7), .ref (r0 8), .ref (r0 9), .long t25, .ref (r0 10)])) :: ((r0 1), .inl (ca 0, 60, .inl (fa0 0))) :: ((r0 2), .inl (ca 0, 60, .inl (fa0 1))) :: ((r0 3), .inl (ca 0, 60, .inl (fa0 2))) :: ((r0 4), .inl (ca 0, 60, .inl (fa0 3))) :: ((r0 5), .inl (ca 0, 60, .inl g19)) :: ((r0 6), .inl (ca 0, 60, .inl g21)) :: ((r0 7), .inl (ca 0, 60, .inl (fa0 6))) :: ((r0 8), .inl (ca 0, 180, .inl (fa0 7))) :: ((r0 9), .inl (ca 1, 60, .inr (.inl (fb0 0)))) :: ((r0 10), .inr (0, [.ref (r0 11)])) :: ((r0 11), .inl (ca 1, 400, .inr (.inl (fb0 1)))) :: rest) H := hP
        have hD : va_D A (((r0 0), .inr (1, [.int (fi0 0), .ref (r0 1), .ref (r0 2), .ref (r0 3), .ref (r0 4), .ref (r0 5), .ref (r0 6), .ref (r0 7), .ref (r0 8), .ref (r0 9), .long t25, .ref (r0 10)])) :: ((r0 1), .inl (ca 0, 60, .inl (fa0 0))) :: ((r0 2), .inl (ca 0, 60, .inl (fa0 1))) :: ((r0 3), .inl (ca 0, 60, .inl (fa0 2))) :: ((r0 4), .inl (ca 0, 60, .inl (fa0 3))) :: ((r0 5), .inl (ca 0, 60, .inl g19)) :: ((r0 6), .inl (ca 0, 60, .inl g21)) :: ((r0 7), .inl (ca 0, 60, .inl (fa0 6))) :: ((r0 8), .inl (ca 0, 180, .inl (fa0 7))) :: ((r0 9), .inl (ca 1, 60, .inr (.inl (fb0 0)))) :: ((r0 10), .inr (0, [.ref (r0 11)])) :: ((r0 11), .inl (ca 1, 400, .inr (.inl (fb0 1)))) :: rest) := hD
        refine lv_aload_n hx hb dX1_addFix_59 rfl (lv_at hl 0 rfl) ?_
        refine va_get (D := D) (ci := 1) (v := .ref (r0 10)) (C := RX1) (T := TX1) (N := 12) hx hb hts inX1 hown hK hP 0 rfl rfl 11 (by decide) lk51 (fun _ h9 => h9) rfl dX1_addFix_60 ?_
        refine lv_aload_n hx hb dX1_addFix_63 rfl (lv_at hl 0 rfl) ?_
        refine va_get (D := D) (ci := 1) (v := .ref (r0 1)) (C := RX1) (T := TX1) (N := 12) hx hb hts inX1 hown hK hP 0 rfl rfl 1 (by decide) lk15 (fun _ h9 => h9) rfl dX1_addFix_64 ?_
        refine lv_iload_n hx hb dX1_addFix_67 rfl (lv_at hl 1 rfl) ?_
        have hi26 : vp_in p1 60 := z_in (i := p1.toInt) rfl (by omega) (by omega)
        refine va_iald hx hb hK hP 1 0 rfl rfl hi26 dX1_addFix_68 ?_
        refine lv_topi (fun t27 et27 => ?_)
        refine lv_iload_n hx hb dX1_addFix_69 rfl (lv_at hl 1 rfl) ?_
        have hP9 := va_P.part (pl := rest) (X := [((r0 0), .inr (1, [.int (fi0 0), .ref (r0 1), .ref (r0 2), .ref (r0 3), .ref (r0 4), .ref (r0 5), .ref (r0 6), .ref (r0 7), .ref (r0 8), .ref (r0 9), .long t25, .ref (r0 10)])), ((r0 1), .inl (ca 0, 60, .inl (fa0 0))), ((r0 2), .inl (ca 0, 60, .inl (fa0 1))), ((r0 3), .inl (ca 0, 60, .inl (fa0 2))), ((r0 4), .inl (ca 0, 60, .inl (fa0 3))), ((r0 5), .inl (ca 0, 60, .inl g19)), ((r0 6), .inl (ca 0, 60, .inl g21)), ((r0 7), .inl (ca 0, 60, .inl (fa0 6))), ((r0 8), .inl (ca 0, 180, .inl (fa0 7))), ((r0 9), .inl (ca 1, 60, .inr (.inl (fb0 0)))), ((r0 10), .inr (0, [.ref (r0 11)])), ((r0 11), .inl (ca 1, 400, .inr (.inl (fb0 1))))]) (cx := [((r0 10), .inr (0, [.ref (r0 11)])), ((r0 11), .inl (ca 1, 400, .inr (.inl (fb0 1)))), ((r0 0), .inr (1, [.int (fi0 0), .ref (r0 1), .ref (r0 2), .ref (r0 3), .ref (r0 4), .ref (r0 5), .ref (r0 6), .ref (r0 7), .ref (r0 8), .ref (r0 9), .long t25, .ref (r0 10)])), ((r0 1), .inl (ca 0, 60, .inl (fa0 0))), ((r0 2), .inl (ca 0, 60, .inl (fa0 1))), ((r0 3), .inl (ca 0, 60, .inl (fa0 2))), ((r0 4), .inl (ca 0, 60, .inl (fa0 3))), ((r0 5), .inl (ca 0, 60, .inl g19)), ((r0 6), .inl (ca 0, 60, .inl g21)), ((r0 7), .inl (ca 0, 60, .inl (fa0 6))), ((r0 8), .inl (ca 0, 180, .inl (fa0 7))), ((r0 9), .inl (ca 1, 60, .inr (.inl (fb0 0))))]) hP [10, 11, 0, 1, 2, 3, 4, 5, 6, 7, 8, 9] rfl
        have hD9 := va_D.part (pl := rest) (X := [((r0 0), .inr (1, [.int (fi0 0), .ref (r0 1), .ref (r0 2), .ref (r0 3), .ref (r0 4), .ref (r0 5), .ref (r0 6), .ref (r0 7), .ref (r0 8), .ref (r0 9), .long t25, .ref (r0 10)])), ((r0 1), .inl (ca 0, 60, .inl (fa0 0))), ((r0 2), .inl (ca 0, 60, .inl (fa0 1))), ((r0 3), .inl (ca 0, 60, .inl (fa0 2))), ((r0 4), .inl (ca 0, 60, .inl (fa0 3))), ((r0 5), .inl (ca 0, 60, .inl g19)), ((r0 6), .inl (ca 0, 60, .inl g21)), ((r0 7), .inl (ca 0, 60, .inl (fa0 6))), ((r0 8), .inl (ca 0, 180, .inl (fa0 7))), ((r0 9), .inl (ca 1, 60, .inr (.inl (fb0 0)))), ((r0 10), .inr (0, [.ref (r0 11)])), ((r0 11), .inl (ca 1, 400, .inr (.inl (fb0 1))))]) (cx := [((r0 10), .inr (0, [.ref (r0 11)])), ((r0 11), .inl (ca 1, 400, .inr (.inl (fb0 1)))), ((r0 0), .inr (1, [.int (fi0 0), .ref (r0 1), .ref (r0 2), .ref (r0 3), .ref (r0 4), .ref (r0 5), .ref (r0 6), .ref (r0 7), .ref (r0 8), .ref (r0 9), .long t25, .ref (r0 10)])), ((r0 1), .inl (ca 0, 60, .inl (fa0 0))), ((r0 2), .inl (ca 0, 60, .inl (fa0 1))), ((r0 3), .inl (ca 0, 60, .inl (fa0 2))), ((r0 4), .inl (ca 0, 60, .inl (fa0 3))), ((r0 5), .inl (ca 0, 60, .inl g19)), ((r0 6), .inl (ca 0, 60, .inl g21)), ((r0 7), .inl (ca 0, 60, .inl (fa0 6))), ((r0 8), .inl (ca 0, 180, .inl (fa0 7))), ((r0 9), .inl (ca 1, 60, .inr (.inl (fb0 0))))]) hD [10, 11, 0, 1, 2, 3, 4, 5, 6, 7, 8, 9] (by decide) rfl
        refine z_vV (As := [.int t27, .int p1]) (rest := []) hF (c_X0_drop l D ca sa A (((r0 0), .inr (1, [.int (fi0 0), .ref (r0 1), .ref (r0 2), .ref (r0 3), .ref (r0 4), .ref (r0 5), .ref (r0 6), .ref (r0 7), .ref (r0 8), .ref (r0 9), .long t25, .ref (r0 10)])) :: ((r0 1), .inl (ca 0, 60, .inl (fa0 0))) :: ((r0 2), .inl (ca 0, 60, .inl (fa0 1))) :: ((r0 3), .inl (ca 0, 60, .inl (fa0 2))) :: ((r0 4), .inl (ca 0, 60, .inl (fa0 3))) :: ((r0 5), .inl (ca 0, 60, .inl g19)) :: ((r0 6), .inl (ca 0, 60, .inl g21)) :: ((r0 7), .inl (ca 0, 60, .inl (fa0 6))) :: ((r0 8), .inl (ca 0, 180, .inl (fa0 7))) :: ((r0 9), .inl (ca 1, 60, .inr (.inl (fb0 0)))) :: rest) (zl 0 [(r0 10), (r0 11)]) (zl 0 []) (zl 0 []) (zl (fun _ => 0) []) (zl (fun _ => 0) [(fb0 1)]) trivial t27 p1) (cwV 2 hts gX1_addFix_X0_drop rfl rfl rfl (by decide +kernel) ⟨Nat.le_of_ble_eq_true rfl, Nat.le_of_ble_eq_true rfl⟩) hE hP9 hD9 hS 0 0 rfl rfl rfl hl.1 rfl (Nat.le_of_ble_eq_true rfl) dX1_addFix_70 ⟨Nat.zero_le _, Nat.zero_le _⟩ (fun u28 H locs hw30 hP hD hS => ?_)
        obtain ⟨im31, lm31, am31, bm31⟩ := u28
        have hw30 : (Ok_AGD im31 am31) := hw30
        obtain - := hw30
        have hP := va_P.part (pl := rest) (X := [((r0 10), .inr (0, [.ref (r0 11)])), ((r0 11), .inl (ca 1, 400, .inr (.inl (bm31 0)))), ((r0 0), .inr (1, [.int (fi0 0), .ref (r0 1), .ref (r0 2), .ref (r0 3), .ref (r0 4), .ref (r0 5), .ref (r0 6), .ref (r0 7), .ref (r0 8), .ref (r0 9), .long t25, .ref (r0 10)])), ((r0 1), .inl (ca 0, 60, .inl (fa0 0))), ((r0 2), .inl (ca 0, 60, .inl (fa0 1))), ((r0 3), .inl (ca 0, 60, .inl (fa0 2))), ((r0 4), .inl (ca 0, 60, .inl (fa0 3))), ((r0 5), .inl (ca 0, 60, .inl g19)), ((r0 6), .inl (ca 0, 60, .inl g21)), ((r0 7), .inl (ca 0, 60, .inl (fa0 6))), ((r0 8), .inl (ca 0, 180, .inl (fa0 7))), ((r0 9), .inl (ca 1, 60, .inr (.inl (fb0 0))))]) (cx := [((r0 0), .inr (1, [.int (fi0 0), .ref (r0 1), .ref (r0 2), .ref (r0 3), .ref (r0 4), .ref (r0 5), .ref (r0 6), .ref (r0 7), .ref (r0 8), .ref (r0 9), .long t25, .ref (r0 10)])), ((r0 1), .inl (ca 0, 60, .inl (fa0 0))), ((r0 2), .inl (ca 0, 60, .inl (fa0 1))), ((r0 3), .inl (ca 0, 60, .inl (fa0 2))), ((r0 4), .inl (ca 0, 60, .inl (fa0 3))), ((r0 5), .inl (ca 0, 60, .inl g19)), ((r0 6), .inl (ca 0, 60, .inl g21)), ((r0 7), .inl (ca 0, 60, .inl (fa0 6))), ((r0 8), .inl (ca 0, 180, .inl (fa0 7))), ((r0 9), .inl (ca 1, 60, .inr (.inl (fb0 0)))), ((r0 10), .inr (0, [.ref (r0 11)])), ((r0 11), .inl (ca 1, 400, .inr (.inl (bm31 0))))]) hP [2, 3, 4, 5, 6, 7, 8, 9, 10, 11, 0, 1] rfl
        have hD := va_D.part (pl := rest) (X := [((r0 10), .inr (0, [.ref (r0 11)])), ((r0 11), .inl (ca 1, 400, .inr (.inl (bm31 0)))), ((r0 0), .inr (1, [.int (fi0 0), .ref (r0 1), .ref (r0 2), .ref (r0 3), .ref (r0 4), .ref (r0 5), .ref (r0 6), .ref (r0 7), .ref (r0 8), .ref (r0 9), .long t25, .ref (r0 10)])), ((r0 1), .inl (ca 0, 60, .inl (fa0 0))), ((r0 2), .inl (ca 0, 60, .inl (fa0 1))), ((r0 3), .inl (ca 0, 60, .inl (fa0 2))), ((r0 4), .inl (ca 0, 60, .inl (fa0 3))), ((r0 5), .inl (ca 0, 60, .inl g19)), ((r0 6), .inl (ca 0, 60, .inl g21)), ((r0 7), .inl (ca 0, 60, .inl (fa0 6))), ((r0 8), .inl (ca 0, 180, .inl (fa0 7))), ((r0 9), .inl (ca 1, 60, .inr (.inl (fb0 0))))]) (cx := [((r0 0), .inr (1, [.int (fi0 0), .ref (r0 1), .ref (r0 2), .ref (r0 3), .ref (r0 4), .ref (r0 5), .ref (r0 6), .ref (r0 7), .ref (r0 8), .ref (r0 9), .long t25, .ref (r0 10)])), ((r0 1), .inl (ca 0, 60, .inl (fa0 0))), ((r0 2), .inl (ca 0, 60, .inl (fa0 1))), ((r0 3), .inl (ca 0, 60, .inl (fa0 2))), ((r0 4), .inl (ca 0, 60, .inl (fa0 3))), ((r0 5), .inl (ca 0, 60, .inl g19)), ((r0 6), .inl (ca 0, 60, .inl g21)), ((r0 7), .inl (ca 0, 60, .inl (fa0 6))), ((r0 8), .inl (ca 0, 180, .inl (fa0 7))), ((r0 9), .inl (ca 1, 60, .inr (.inl (fb0 0)))), ((r0 10), .inr (0, [.ref (r0 11)])), ((r0 11), .inl (ca 1, 400, .inr (.inl (bm31 0))))]) hD [2, 3, 4, 5, 6, 7, 8, 9, 10, 11, 0, 1] (by decide) rfl
        have hP : va_P D vwCl (((r0 0), .inr (1, [.int (fi0 0), .ref (r0 1), .ref (r0 2), .ref (r0 3), .ref (r0 4), .ref (r0 5), .ref (r0 6), .ref (r0 7), .ref (r0 8), .ref (r0 9), .long t25, .ref (r0 10)])) :: ((r0 1), .inl (ca 0, 60, .inl (fa0 0))) :: ((r0 2), .inl (ca 0, 60, .inl (fa0 1))) :: ((r0 3), .inl (ca 0, 60, .inl (fa0 2))) :: ((r0 4), .inl (ca 0, 60, .inl (fa0 3))) :: ((r0 5), .inl (ca 0, 60, .inl g19)) :: ((r0 6), .inl (ca 0, 60, .inl g21)) :: ((r0 7), .inl (ca 0, 60, .inl (fa0 6))) :: ((r0 8), .inl (ca 0, 180, .inl (fa0 7))) :: ((r0 9), .inl (ca 1, 60, .inr (.inl (fb0 0)))) :: ((r0 10), .inr (0, [.ref (r0 11)])) :: ((r0 11), .inl (ca 1, 400, .inr (.inl (bm31 0)))) :: rest) H := hP
        have hD : va_D A (((r0 0), .inr (1, [.int (fi0 0), .ref (r0 1), .ref (r0 2), .ref (r0 3), .ref (r0 4), .ref (r0 5), .ref (r0 6), .ref (r0 7), .ref (r0 8), .ref (r0 9), .long t25, .ref (r0 10)])) :: ((r0 1), .inl (ca 0, 60, .inl (fa0 0))) :: ((r0 2), .inl (ca 0, 60, .inl (fa0 1))) :: ((r0 3), .inl (ca 0, 60, .inl (fa0 2))) :: ((r0 4), .inl (ca 0, 60, .inl (fa0 3))) :: ((r0 5), .inl (ca 0, 60, .inl g19)) :: ((r0 6), .inl (ca 0, 60, .inl g21)) :: ((r0 7), .inl (ca 0, 60, .inl (fa0 6))) :: ((r0 8), .inl (ca 0, 180, .inl (fa0 7))) :: ((r0 9), .inl (ca 1, 60, .inr (.inl (fb0 0)))) :: ((r0 10), .inr (0, [.ref (r0 11)])) :: ((r0 11), .inl (ca 1, 400, .inr (.inl (bm31 0)))) :: rest) := hD
        refine lv_iconst (v := 1) hx hb dX1_addFix_73 (by decide) ?_
        subst hQ9
        refine lv_topi (fun t32 et32 => ?_)
        have ht32 : t32.toInt = 1 := by rw [et32]; decide
        have ho33 : (0 ≤ (fi0 0).toInt ∧ (fi0 0).toInt ≤ 60) ∧ z_rng 0 3 (fa0 6) := ⟨⟨by omega, by omega⟩, hv0a6⟩
        have hq34 : 0 ≤ t32.toInt ∧ t32.toInt ≤ 1 := by omega
        have hz35 : narrow .boolean (.int t32) = .int t32 := z_nz (by constructor <;> omega)
        exact W.zret (v := t32) hx hb hr hz35 (fun t ht hW => ⟨⟨t32, ((zl 0 [(fi0 0)]), (zl 0 [t25]), (zl (fun _ => 0) [(fa0 0), (fa0 1), (fa0 2), (fa0 3), g19, g21, (fa0 6), (fa0 7)]), (zl (fun _ => 0) [(fb0 0), (bm31 0)])), rfl, ⟨ho33, hq34⟩, ⟨by rw [ht]; exact hP, hD⟩⟩, hS.F ht⟩) hS.2.2 dX1_addFix_74
      ·
        have c17 := z_ne (i := t16.toInt) (j := (-1)) rfl (by decide) c17
        refine lv_iconst (v := 0) hx hb dX1_addFix_30 (by decide) ?_
        subst hQ9
        refine lv_topi (fun t36 et36 => ?_)
        have ht36 : t36.toInt = 0 := by rw [et36]; decide
        have ho37 : (0 ≤ (fi0 0).toInt ∧ (fi0 0).toInt ≤ 60) ∧ z_rng 0 3 (fa0 6) := ⟨⟨by omega, by omega⟩, hv0a6⟩
        have hq38 : 0 ≤ t36.toInt ∧ t36.toInt ≤ 1 := by omega
        have hz39 : narrow .boolean (.int t36) = .int t36 := z_nz (by constructor <;> omega)
        exact W.zret (v := t36) hx hb hr hz39 (fun t ht hW => ⟨⟨t36, ((zl 0 [(fi0 0)]), (zl 0 [(fl0 0)]), (zl (fun _ => 0) [(fa0 0), (fa0 1), (fa0 2), (fa0 3), (fa0 4), (fa0 5), (fa0 6), (fa0 7)]), (zl (fun _ => 0) [(fb0 0), (fb0 1)])), rfl, ⟨ho37, hq38⟩, ⟨by rw [ht]; exact hP, hD⟩⟩, hS.F ht⟩) hS.2.2 dX1_addFix_31

theorem z_least (j : Nat) : 0 ≤ (([2, 1, 0, 1, 0, 0, 1] : List Int32).getD j 0).toInt ∧ (([2, 1, 0, 1, 0, 0, 1] : List Int32).getD j 0).toInt ≤ 2 := by
  rcases (show j < 7 ∨ 7 ≤ j by omega) with h | h
  · rcases (show j = 0 ∨ j = 1 ∨ j = 2 ∨ j = 3 ∨ j = 4 ∨ j = 5 ∨ j = 6 by omega) with rfl | rfl | rfl | rfl | rfl | rfl | rfl <;> decide
  · rw [List.getD_eq_getElem?_getD, List.getElem?_eq_none (by simpa using h)]; decide
theorem z_most (j : Nat) : 0 ≤ (([100, 50, 50, 9, 50, 9, 50] : List Int32).getD j 0).toInt ∧ (([100, 50, 50, 9, 50, 9, 50] : List Int32).getD j 0).toInt ≤ 100 := by
  rcases (show j < 7 ∨ 7 ≤ j by omega) with h | h
  · rcases (show j = 0 ∨ j = 1 ∨ j = 2 ∨ j = 3 ∨ j = 4 ∨ j = 5 ∨ j = 6 by omega) with rfl | rfl | rfl | rfl | rfl | rfl | rfl <;> decide
  · rw [List.getD_eq_getElem?_getD, List.getElem?_eq_none (by simpa using h)]; decide

set_option maxHeartbeats 8000000 in
set_option maxRecDepth 100000 in
theorem c_X8_isWithinBounds (l : Launch) (D : va_G) (ca : Nat → ClassId) (sa : Nat → Nat) (A : Nat → Prop) (rest : va_W) (p0 : Int32) (p1 : Int32) (hpre0 : 0 ≤ p0.toInt ∧ p0.toInt ≤ 6) : Met l yX8_isWithinBounds wsX8_isWithinBounds ({ frames := 0, cells := 0, slots := 0, locals := 0 }) (va_Pc [.int p0, .int p1] (zPre D ca sa A (rest))) (va_Qi (fun (r : Int32) (u : Unit) => ((r.toInt = 1 ∧ 0 ≤ p1.toInt ∧ p1.toInt ≤ 100) ∨ r.toInt = 0)) (fun u t => zPost D A (rest) t) A) 0 0 A := by
  refine Met.ofW (cc := cX8_isWithinBounds) (maxL := 2) (ret := (some .boolean)) (by decide) rfl ?_
  intro p e s m args below meth c s₁ B hml hv9
  obtain ⟨rfl, hE, hP, hD⟩ := hv9
  have hx := B.exec
  have hb := B.bytes
  have hr := B.returns
  have hts := atoms_spec (ws := wsX8_isWithinBounds) B.pre
  have hown : s.vm.findClass RX8 = some m.cls := findClass_of_methodNamed B.named
  have hlocks := B.notSynchronized
  have hK := hE.1
  have hF : CallFix p m c cX8_isWithinBounds 2 s _ wsX8_isWithinBounds RX8 := ⟨hx, hb, hml, hown, hts⟩
  have hS : va_S A s.heap s.heap [] := va_S.rf
  have lk194 := hts (.fieldLink RX8 194 "BranchPlay" "LEAST" "[I") (by decide +kernel)
  have lk197 := hts (.fieldLink RX8 197 "BranchPlay" "MOST" "[I") (by decide +kernel)
  generalize hHe : s.heap = H at hP
  have hS : va_S A s.heap H [] := by rw [← hHe]; exact hS
  have hl := lv_entry ([.int p0, .int p1]) (n := 2) (Nat.le_of_ble_eq_true rfl)
  rw [lg_entry_eq]
  generalize (lg_sl ([.int p0, .int p1]) ++ List.replicate (2 - (lg_sl ([.int p0, .int p1])).length) Slot.unset).toArray = ls at hl ⊢
  have hl : lv_has ls 2 [(0, .int p0), (1, .int p1)] := hl
  generalize hQ9 : MQ below _ _ s 0 0 A = Q9
  refine lv_iload_n hx hb dX8_isWithinBounds_0 rfl (lv_at hl 1 rfl) ?_
  refine va_gets hx hb hE.2.2.1.2.1.1 hS hown lk194 (fun _ h9 => h9) dX8_isWithinBounds_1 ?_
  refine lv_iload_n hx hb dX8_isWithinBounds_4 rfl (lv_at hl 0 rfl) ?_
  have hi1 : vp_in p0 7 := z_in (i := p0.toInt) rfl (by omega) (by omega)
  refine va_ti hx hb hE.2.2.1.2.1.2 hS hi1 rfl dX8_isWithinBounds_5 ?_
  refine lv_topi (fun t2 et2 => ?_)
  have ht2 := z_least p0.toNatClampNeg
  rw [← et2] at ht2
  refine lv_icmp_lt (tgt := 22) hx hb dX8_isWithinBounds_6 (by decide) (fun c3 => ?_) (fun c3 => ?_)
  ·
    have c3 := z_lt (i := p1.toInt) (j := t2.toInt) rfl rfl c3
    refine lv_iconst (v := 0) hx hb dX8_isWithinBounds_22 (by decide) ?_
    subst hQ9
    refine lv_topi (fun t4 et4 => ?_)
    have ht4 : t4.toInt = 0 := by rw [et4]; decide
    have hq5 : (t4.toInt = 1 ∧ 0 ≤ p1.toInt ∧ p1.toInt ≤ 100) ∨ t4.toInt = 0 := by omega
    have hz6 : narrow .boolean (.int t4) = .int t4 := z_nz (by constructor <;> omega)
    exact W.zret (v := t4) hx hb hr hz6 (fun t ht hW => ⟨⟨t4, (), rfl, hq5, ⟨by rw [ht]; exact hP, hD⟩⟩, hS.F ht⟩) hS.2.2 dX8_isWithinBounds_23
  ·
    have c3 := z_nlt (i := p1.toInt) (j := t2.toInt) rfl rfl c3
    refine lv_iload_n hx hb dX8_isWithinBounds_9 rfl (lv_at hl 1 rfl) ?_
    refine va_gets hx hb hE.2.2.1.2.2.1.1 hS hown lk197 (fun _ h9 => h9) dX8_isWithinBounds_10 ?_
    refine lv_iload_n hx hb dX8_isWithinBounds_13 rfl (lv_at hl 0 rfl) ?_
    have hi7 : vp_in p0 7 := z_in (i := p0.toInt) rfl (by omega) (by omega)
    refine va_ti hx hb hE.2.2.1.2.2.1.2 hS hi7 rfl dX8_isWithinBounds_14 ?_
    refine lv_topi (fun t8 et8 => ?_)
    have ht8 := z_most p0.toNatClampNeg
    rw [← et8] at ht8
    refine lv_icmp_gt (tgt := 22) hx hb dX8_isWithinBounds_15 (by decide) (fun c9 => ?_) (fun c9 => ?_)
    ·
      have c9 := z_lt (i := t8.toInt) (j := p1.toInt) rfl rfl c9
      refine lv_iconst (v := 0) hx hb dX8_isWithinBounds_22 (by decide) ?_
      subst hQ9
      refine lv_topi (fun t10 et10 => ?_)
      have ht10 : t10.toInt = 0 := by rw [et10]; decide
      have hq11 : (t10.toInt = 1 ∧ 0 ≤ p1.toInt ∧ p1.toInt ≤ 100) ∨ t10.toInt = 0 := by omega
      have hz12 : narrow .boolean (.int t10) = .int t10 := z_nz (by constructor <;> omega)
      exact W.zret (v := t10) hx hb hr hz12 (fun t ht hW => ⟨⟨t10, (), rfl, hq11, ⟨by rw [ht]; exact hP, hD⟩⟩, hS.F ht⟩) hS.2.2 dX8_isWithinBounds_23
    ·
      have c9 := z_nlt (i := t8.toInt) (j := p1.toInt) rfl rfl c9
      refine lv_iconst (v := 1) hx hb dX8_isWithinBounds_18 (by decide) ?_
      refine lv_goto (tgt := 23) hx hb dX8_isWithinBounds_19 (by decide) ?_
      subst hQ9
      refine lv_topi (fun t13 et13 => ?_)
      have ht13 : t13.toInt = 1 := by rw [et13]; decide
      have hq14 : (t13.toInt = 1 ∧ 0 ≤ p1.toInt ∧ p1.toInt ≤ 100) ∨ t13.toInt = 0 := by omega
      have hz15 : narrow .boolean (.int t13) = .int t13 := z_nz (by constructor <;> omega)
      exact W.zret (v := t13) hx hb hr hz15 (fun t ht hW => ⟨⟨t13, (), rfl, hq14, ⟨by rw [ht]; exact hP, hD⟩⟩, hS.F ht⟩) hS.2.2 dX8_isWithinBounds_23
