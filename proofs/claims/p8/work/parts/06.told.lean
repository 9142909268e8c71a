def w_TAPE (ca : Nat → ClassId) (r : Nat → Nat) (fi : Nat → Int32) (fl : Nat → Int64) (fa : Nat → Nat → Int32) (fb : Nat → Nat → Int64) (tl : va_W) : va_W := ((r 0), .inr (7, [.ref (r 1), .int (fi 0)])) :: ((r 1), .inl (ca 2, 600, .inl (fa 0))) :: tl
def Ok_TAPE (fi : Nat → Int32) (fa : Nat → Nat → Int32) : Prop := (0 ≤ (fi 0).toInt ∧ (fi 0).toInt ≤ 600)

def w_RDR (ca : Nat → ClassId) (r : Nat → Nat) (fi : Nat → Int32) (fl : Nat → Int64) (fa : Nat → Nat → Int32) (fb : Nat → Nat → Int64) (tl : va_W) : va_W := ((r 0), .inr (6, [.ref (r 1), .int (fi 0), .int (fi 1), .int (fi 2), .int (fi 3), .int (fi 4), .int (fi 5)])) :: ((r 1), .inl (ca 0, 8, .inl (fa 0))) :: tl
def Ok_RDR (fi : Nat → Int32) (fa : Nat → Nat → Int32) : Prop := (0 ≤ (fi 3).toInt ∧ (fi 3).toInt ≤ 7) ∧ ((fi 2).toInt = 1 → (fi 3).toInt ≤ 6)

def w_PRC (ca : Nat → ClassId) (r : Nat → Nat) (fi : Nat → Int32) (fl : Nat → Int64) (fa : Nat → Nat → Int32) (fb : Nat → Nat → Int64) (tl : va_W) : va_W := ((r 0), .inr (5, [.int (fi 0), .int (fi 1), .int (fi 2), .int (fi 3)])) :: tl
def Ok_PRC (fi : Nat → Int32) (fa : Nat → Nat → Int32) : Prop := True

def w_BP (ca : Nat → ClassId) (r : Nat → Nat) (x0 : Nat) (x1 : Nat) (x2 : Nat) (x3 : Nat) (x4 : Nat) (x5 : Nat) (x6 : Nat) (x7 : Nat) (fi : Nat → Int32) (fl : Nat → Int64) (fa : Nat → Nat → Int32) (fb : Nat → Nat → Int64) (tl : va_W) : va_W := ((r 0), .inr (8, [.ref x0, .ref x1, .ref x2, .ref x3, .ref x4, .ref x5, .ref x6, .ref x7, .int (fi 0)])) :: tl
def Ok_BP (fi : Nat → Int32) (fa : Nat → Nat → Int32) : Prop := True

set_option maxHeartbeats 8000000 in
set_option maxRecDepth 100000 in
theorem c_X1_isNumber (l : Launch) (D : va_G) (ca : Nat → ClassId) (sa : Nat → Nat) (A : Nat → Prop) (rest : va_W) (r0 : Nat → Nat) (fi0 : Nat → Int32) (fl0 : Nat → Int64) (fa0 : Nat → Nat → Int32) (fb0 : Nat → Nat → Int64) (hv0 : Ok_CHG fi0 fa0) (p1 : Int32) : Met l yX1_isNumber wsX1_isNumber ({ frames := 0, cells := 0, slots := 0, locals := 0 }) (va_Pc [.ref (r0 0), .int p1] (zPre D ca sa A (w_CHG ca r0 fi0 fl0 fa0 fb0 (rest)))) (va_Qi (fun (r : Int32) (u : Unit) => ((r.toInt = 1 ∧ 0 ≤ p1.toInt ∧ p1.toInt < (fi0 0).toInt) ∨ (r.toInt = 0 ∧ (p1.toInt < 0 ∨ (fi0 0).toInt ≤ p1.toInt)))) (fun u t => zPost D A (w_CHG ca r0 fi0 fl0 fa0 fb0 (rest)) t) A) 0 0 A := by
  refine Met.ofW (cc := cX1_isNumber) (maxL := 2) (ret := (some .boolean)) (by decide) rfl ?_
  intro p e s m args below meth c s₁ B hml hv9
  obtain ⟨rfl, hE, hP, hD⟩ := hv9
  have hx := B.exec
  have hb := B.bytes
  have hr := B.returns
  have hts := atoms_spec (ws := wsX1_isNumber) B.pre
  have hown : s.vm.findClass RX1 = some m.cls := findClass_of_methodNamed B.named
  have hlocks := B.notSynchronized
  have hK := hE.1
  have hF : CallFix p m c cX1_isNumber 2 s _ wsX1_isNumber RX1 := ⟨hx, hb, hml, hown, hts⟩
  have hS : va_S A s.heap s.heap [] := va_S.rf
  have lk9 := hts (.fieldLink RX1 9 "BranchPlay$Changes" "count" "I") (by decide +kernel)
  have inX1 : ∀ w ∈ wsX10, w ∈ wsX1_isNumber := by decide +kernel
  obtain ⟨⟨hv0i0, hv0j0⟩, hv0a6⟩ := hv0
  generalize hHe : s.heap = H at hP
  have hS : va_S A s.heap H [] := by rw [← hHe]; exact hS
  have hP : va_P D vwCl (((r0 0), .inr (1, [.int (fi0 0), .ref (r0 1), .ref (r0 2), .ref (r0 3), .ref (r0 4), .ref (r0 5), .ref (r0 6), .ref (r0 7), .ref (r0 8), .ref (r0 9), .long (fl0 0), .ref (r0 10)])) :: ((r0 1), .inl (ca 0, 60, .inl (fa0 0))) :: ((r0 2), .inl (ca 0, 60, .inl (fa0 1))) :: ((r0 3), .inl (ca 0, 60, .inl (fa0 2))) :: ((r0 4), .inl (ca 0, 60, .inl (fa0 3))) :: ((r0 5), .inl (ca 0, 60, .inl (fa0 4))) :: ((r0 6), .inl (ca 0, 60, .inl (fa0 5))) :: ((r0 7), .inl (ca 0, 60, .inl (fa0 6))) :: ((r0 8), .inl (ca 0, 180, .inl (fa0 7))) :: ((r0 9), .inl (ca 1, 60, .inr (.inl (fb0 0)))) :: ((r0 10), .inr (0, [.ref (r0 11)])) :: ((r0 11), .inl (ca 1, 400, .inr (.inl (fb0 1)))) :: rest) H := hP
  have hD : va_D A (((r0 0), .inr (1, [.int (fi0 0), .ref (r0 1), .ref (r0 2), .ref (r0 3), .ref (r0 4), .ref (r0 5), .ref (r0 6), .ref (r0 7), .ref (r0 8), .ref (r0 9), .long (fl0 0), .ref (r0 10)])) :: ((r0 1), .inl (ca 0, 60, .inl (fa0 0))) :: ((r0 2), .inl (ca 0, 60, .inl (fa0 1))) :: ((r0 3), .inl (ca 0, 60, .inl (fa0 2))) :: ((r0 4), .inl (ca 0, 60, .inl (fa0 3))) :: ((r0 5), .inl (ca 0, 60, .inl (fa0 4))) :: ((r0 6), .inl (ca 0, 60, .inl (fa0 5))) :: ((r0 7), .inl (ca 0, 60, .inl (fa0 6))) :: ((r0 8), .inl (ca 0, 180, .inl (fa0 7))) :: ((r0 9), .inl (ca 1, 60, .inr (.inl (fb0 0)))) :: ((r0 10), .inr (0, [.ref (r0 11)])) :: ((r0 11), .inl (ca 1, 400, .inr (.inl (fb0 1)))) :: rest) := hD
  have hl := lv_entry ([.ref (r0 0), .int p1]) (n := 2) (Nat.le_of_ble_eq_true rfl)
  rw [lg_entry_eq]
  generalize (lg_sl ([.ref (r0 0), .int p1]) ++ List.replicate (2 - (lg_sl ([.ref (r0 0), .int p1])).length) Slot.unset).toArray = ls at hl ⊢
  have hl : lv_has ls 2 [(0, .ref (r0 0)), (1, .int p1)] := hl
  generalize hQ9 : MQ below _ _ s 0 0 A = Q9
  refine lv_iload_n hx hb dX1_isNumber_0 rfl (lv_at hl 1 rfl) ?_
  refine lv_if_lt (tgt := 16) hx hb dX1_isNumber_1 (by decide) (fun c1 => ?_) (fun c1 => ?_)
  ·
    have c1 := z_lt (i := p1.toInt) (j := 0) rfl (by decide) c1
    refine lv_iconst (v := 0) hx hb dX1_isNumber_16 (by decide) ?_
    subst hQ9
    refine lv_topi (fun t2 et2 => ?_)
    have ht2 : t2.toInt = 0 := by rw [et2]; decide
    have hq3 : (t2.toInt = 1 ∧ 0 ≤ p1.toInt ∧ p1.toInt < (fi0 0).toInt) ∨ (t2.toInt = 0 ∧ (p1.toInt < 0 ∨ (fi0 0).toInt ≤ p1.toInt)) := by omega
    have hz4 : narrow .boolean (.int t2) = .int t2 := z_nz (by constructor <;> omega)
    exact W.zret (v := t2) hx hb hr hz4 (fun t ht hW => ⟨⟨t2, (), rfl, hq3, ⟨by rw [ht]; exact hP, hD⟩⟩, hS.F ht⟩) hS.2.2 dX1_isNumber_17
  ·
    have c1 := z_nlt (i := p1.toInt) (j := 0) rfl (by decide) c1
    refine lv_iload_n hx hb dX1_isNumber_4 rfl (lv_at hl 1 rfl) ?_
    refine lv_aload_n hx hb dX1_isNumber_5 rfl (lv_at hl 0 rfl) ?_
    refine va_get (D := D) (ci := 1) (v := .int (fi0 0)) (C := RX1) (T := TX1) (N := 12) hx hb hts inX1 hown hK hP 0 rfl rfl 0 (by decide) lk9 (fun _ h9 => h9) rfl dX1_isNumber_6 ?_
    refine lv_icmp_ge (tgt := 16) hx hb dX1_isNumber_9 (by decide) (fun c5 => ?_) (fun c5 => ?_)
    ·
      have c5 := z_le (i := (fi0 0).toInt) (j := p1.toInt) rfl rfl c5
      refine lv_iconst (v := 0) hx hb dX1_isNumber_16 (by decide) ?_
      subst hQ9
      refine lv_topi (fun t6 et6 => ?_)
      have ht6 : t6.toInt = 0 := by rw [et6]; decide
      have hq7 : (t6.toInt = 1 ∧ 0 ≤ p1.toInt ∧ p1.toInt < (fi0 0).toInt) ∨ (t6.toInt = 0 ∧ (p1.toInt < 0 ∨ (fi0 0).toInt ≤ p1.toInt)) := by omega
      have hz8 : narrow .boolean (.int t6) = .int t6 := z_nz (by constructor <;> omega)
      exact W.zret (v := t6) hx hb hr hz8 (fun t ht hW => ⟨⟨t6, (), rfl, hq7, ⟨by rw [ht]; exact hP, hD⟩⟩, hS.F ht⟩) hS.2.2 dX1_isNumber_17
    ·
      have c5 := z_nle (i := (fi0 0).toInt) (j := p1.toInt) rfl rfl c5
      refine lv_iconst (v := 1) hx hb dX1_isNumber_12 (by decide) ?_
      refine lv_goto (tgt := 17) hx hb dX1_isNumber_13 (by decide) ?_
      subst hQ9
      refine lv_topi (fun t9 et9 => ?_)
      have ht9 : t9.toInt = 1 := by rw [et9]; decide
      have hq10 : (t9.toInt = 1 ∧ 0 ≤ p1.toInt ∧ p1.toInt < (fi0 0).toInt) ∨ (t9.toInt = 0 ∧ (p1.toInt < 0 ∨ (fi0 0).toInt ≤ p1.toInt)) := by omega
      have hz11 : narrow .boolean (.int t9) = .int t9 := z_nz (by constructor <;> omega)
      exact W.zret (v := t9) hx hb hr hz11 (fun t ht hW => ⟨⟨t9, (), rfl, hq10, ⟨by rw [ht]; exact hP, hD⟩⟩, hS.F ht⟩) hS.2.2 dX1_isNumber_17

set_option maxHeartbeats 8000000 in
set_option maxRecDepth 100000 in
theorem c_X1_isLesser (l : Launch) (D : va_G) (ca : Nat → ClassId) (sa : Nat → Nat) (A : Nat → Prop) (rest : va_W) (r0 : Nat → Nat) (fi0 : Nat → Int32) (fl0 : Nat → Int64) (fa0 : Nat → Nat → Int32) (fb0 : Nat → Nat → Int64) (hv0 : Ok_CHG fi0 fa0) (p1 : Int32) (p2 : Int32) : Met l yX1_isLesser wsX1_isLesser ({ frames := 1, cells := 0, slots := 0, locals := 21 }) (va_Pc [.ref (r0 0), .int p1, .int p2] (zPre D ca sa A (w_CHG ca r0 fi0 fl0 fa0 fb0 (rest)))) (va_Qi (fun (r : Int32) (u : Unit) => ((r.toInt = 1 ∧ 0 ≤ p1.toInt ∧ p1.toInt < p2.toInt ∧ p2.toInt < (fi0 0).toInt) ∨ (r.toInt = 0 ∧ (p1.toInt < 0 ∨ p2.toInt ≤ p1.toInt ∨ p2.toInt < 0 ∨ (fi0 0).toInt ≤ p2.toInt)))) (fun u t => zPost D A (w_CHG ca r0 fi0 fl0 fa0 fb0 (rest)) t) A) 0 0 A := by
  refine Met.ofW (cc := cX1_isLesser) (maxL := 3) (ret := (some .boolean)) (by decide) rfl ?_
  intro p e s m args below meth c s₁ B hml hv9
  obtain ⟨rfl, hE, hP, hD⟩ := hv9
  have hx := B.exec
  have hb := B.bytes
  have hr := B.returns
  have hts := atoms_spec (ws := wsX1_isLesser) B.pre
  have hown : s.vm.findClass RX1 = some m.cls := findClass_of_methodNamed B.named
  have hlocks := B.notSynchronized
  have hK := hE.1
  have hF : CallFix p m c cX1_isLesser 3 s _ wsX1_isLesser RX1 := ⟨hx, hb, hml, hown, hts⟩
  have hS : va_S A s.heap s.heap [] := va_S.rf
  obtain ⟨⟨hv0i0, hv0j0⟩, hv0a6⟩ := hv0
  generalize hHe : s.heap = H at hP
  have hS : va_S A s.heap H [] := by rw [← hHe]; exact hS
  have hP : va_P D vwCl (((r0 0), .inr (1, [.int (fi0 0), .ref (r0 1), .ref (r0 2), .ref (r0 3), .ref (r0 4), .ref (r0 5), .ref (r0 6), .ref (r0 7), .ref (r0 8), .ref (r0 9), .long (fl0 0), .ref (r0 10)])) :: ((r0 1), .inl (ca 0, 60, .inl (fa0 0))) :: ((r0 2), .inl (ca 0, 60, .inl (fa0 1))) :: ((r0 3), .inl (ca 0, 60, .inl (fa0 2))) :: ((r0 4), .inl (ca 0, 60, .inl (fa0 3))) :: ((r0 5), .inl (ca 0, 60, .inl (fa0 4))) :: ((r0 6), .inl (ca 0, 60, .inl (fa0 5))) :: ((r0 7), .inl (ca 0, 60, .inl (fa0 6))) :: ((r0 8), .inl (ca 0, 180, .inl (fa0 7))) :: ((r0 9), .inl (ca 1, 60, .inr (.inl (fb0 0)))) :: ((r0 10), .inr (0, [.ref (r0 11)])) :: ((r0 11), .inl (ca 1, 400, .inr (.inl (fb0 1)))) :: rest) H := hP
  have hD : va_D A (((r0 0), .inr (1, [.int (fi0 0), .ref (r0 1), .ref (r0 2), .ref (r0 3), .ref (r0 4), .ref (r0 5), .ref (r0 6), .ref (r0 7), .ref (r0 8), .ref (r0 9), .long (fl0 0), .ref (r0 10)])) :: ((r0 1), .inl (ca 0, 60, .inl (fa0 0))) :: ((r0 2), .inl (ca 0, 60, .inl (fa0 1))) :: ((r0 3), .inl (ca 0, 60, .inl (fa0 2))) :: ((r0 4), .inl (ca 0, 60, .inl (fa0 3))) :: ((r0 5), .inl (ca 0, 60, .inl (fa0 4))) :: ((r0 6), .inl (ca 0, 60, .inl (fa0 5))) :: ((r0 7), .inl (ca 0, 60, .inl (fa0 6))) :: ((r0 8), .inl (ca 0, 180, .inl (fa0 7))) :: ((r0 9), .inl (ca 1, 60, .inr (.inl (fb0 0)))) :: ((r0 10), .inr (0, [.ref (r0 11)])) :: ((r0 11), .inl (ca 1, 400, .inr (.inl (fb0 1)))) :: rest) := hD
  have hl := lv_entry ([.ref (r0 0), .int p1, .int p2]) (n := 3) (Nat.le_of_ble_eq_true rfl)
  rw [lg_entry_eq]
  generalize (lg_sl ([.ref (r0 0), .int p1, .int p2]) ++ List.replicate (3 - (lg_sl ([.ref (r0 0), .int p1, .int p2])).length) Slot.unset).toArray = ls at hl ⊢
  have hl : lv_has ls 3 [(0, .ref (r0 0)), (1, .int p1), (2, .int p2)] := hl
  generalize hQ9 : MQ below _ _ s 0 0 A = Q9
  refine lv_aload_n hx hb dX1_isLesser_0 rfl (lv_at hl 0 rfl) ?_
  refine lv_iload_n hx hb dX1_isLesser_1 rfl (lv_at hl 2 rfl) ?_
  have ho1 : (0 ≤ (fi0 0).toInt ∧ (fi0 0).toInt ≤ 60) ∧ z_rng 0 3 (fa0 6) := ⟨⟨by omega, by omega⟩, hv0a6⟩
  refine z_iV (As := [.int p2]) (rest := []) hF (c_X1_isNumber l D ca sa A rest (zl 0 [(r0 0), (r0 1), (r0 2), (r0 3), (r0 4), (r0 5), (r0 6), (r0 7), (r0 8), (r0 9), (r0 10), (r0 11)]) (zl 0 [(fi0 0)]) (zl 0 [(fl0 0)]) (zl (fun _ => 0) [(fa0 0), (fa0 1), (fa0 2), (fa0 3), (fa0 4), (fa0 5), (fa0 6), (fa0 7)]) (zl (fun _ => 0) [(fb0 0), (fb0 1)]) ho1 p2) (cwV 1 hts gX1_isLesser_X1_isNumber rfl rfl rfl (by decide +kernel) ⟨Nat.le_of_ble_eq_true rfl, Nat.le_of_ble_eq_true rfl⟩) hE hP hD hS 1 0 rfl rfl rfl hl.1 rfl (Nat.le_of_ble_eq_true rfl) dX1_isLesser_2 ⟨Nat.zero_le _, Nat.zero_le _⟩ (fun t3 u2 H locs hw4 hP hD hS => ?_)
  have hw4 : ((t3.toInt = 1 ∧ 0 ≤ p2.toInt ∧ p2.toInt < (fi0 0).toInt) ∨ (t3.toInt = 0 ∧ (p2.toInt < 0 ∨ (fi0 0).toInt ≤ p2.toInt))) := hw4
  obtain hq5 := hw4
  have hP : va_P D vwCl (((r0 0), .inr (1, [.int (fi0 0), .ref (r0 1), .ref (r0 2), .ref (r0 3), .ref (r0 4), .ref (r0 5), .ref (r0 6), .ref (r0 7), .ref (r0 8), .ref (r0 9), .long (fl0 0), .ref (r0 10)])) :: ((r0 1), .inl (ca 0, 60, .inl (fa0 0))) :: ((r0 2), .inl (ca 0, 60, .inl (fa0 1))) :: ((r0 3), .inl (ca 0, 60, .inl (fa0 2))) :: ((r0 4), .inl (ca 0, 60, .inl (fa0 3))) :: ((r0 5), .inl (ca 0, 60, .inl (fa0 4))) :: ((r0 6), .inl (ca 0, 60, .inl (fa0 5))) :: ((r0 7), .inl (ca 0, 60, .inl (fa0 6))) :: ((r0 8), .inl (ca 0, 180, .inl (fa0 7))) :: ((r0 9), .inl (ca 1, 60, .inr (.inl (fb0 0)))) :: ((r0 10), .inr (0, [.ref (r0 11)])) :: ((r0 11), .inl (ca 1, 400, .inr (.inl (fb0 1)))) :: rest) H := hP
  have hD : va_D A (((r0 0), .inr (1, [.int (fi0 0), .ref (r0 1), .ref (r0 2), .ref (r0 3), .ref (r0 4), .ref (r0 5), .ref (r0 6), .ref (r0 7), .ref (r0 8), .ref (r0 9), .long (fl0 0), .ref (r0 10)])) :: ((r0 1), .inl (ca 0, 60, .inl (fa0 0))) :: ((r0 2), .inl (ca 0, 60, .inl (fa0 1))) :: ((r0 3), .inl (ca 0, 60, .inl (fa0 2))) :: ((r0 4), .inl (ca 0, 60, .inl (fa0 3))) :: ((r0 5), .inl (ca 0, 60, .inl (fa0 4))) :: ((r0 6), .inl (ca 0, 60, .inl (fa0 5))) :: ((r0 7), .inl (ca 0, 60, .inl (fa0 6))) :: ((r0 8), .inl (ca 0, 180, .inl (fa0 7))) :: ((r0 9), .inl (ca 1, 60, .inr (.inl (fb0 0)))) :: ((r0 10), .inr (0, [.ref (r0 11)])) :: ((r0 11), .inl (ca 1, 400, .inr (.inl (fb0 1)))) :: rest) := hD
  refine lv_if_eq (tgt := 21) hx hb dX1_isLesser_5 (by decide) (fun c6 => ?_) (fun c6 => ?_)
  ·
    have c6 := z_eq (i := t3.toInt) (j := 0) rfl (by decide) c6
    refine lv_iconst (v := 0) hx hb dX1_isLesser_21 (by decide) ?_
    subst hQ9
    refine lv_topi (fun t7 et7 => ?_)
    have ht7 : t7.toInt = 0 := by rw [et7]; decide
    have hq8 : (t7.toInt = 1 ∧ 0 ≤ p1.toInt ∧ p1.toInt < p2.toInt ∧ p2.toInt < (fi0 0).toInt) ∨ (t7.toInt = 0 ∧ (p1.toInt < 0 ∨ p2.toInt ≤ p1.toInt ∨ p2.toInt < 0 ∨ (fi0 0).toInt ≤ p2.toInt)) := by omega
    have hz9 : narrow .boolean (.int t7) = .int t7 := z_nz (by constructor <;> omega)
    exact W.zret (v := t7) hx hb hr hz9 (fun t ht hW => ⟨⟨t7, (), rfl, hq8, ⟨by rw [ht]; exact hP, hD⟩⟩, hS.F ht⟩) hS.2.2 dX1_isLesser_22
  ·
    have c6 := z_ne (i := t3.toInt) (j := 0) rfl (by decide) c6
    refine lv_iload_n hx hb dX1_isLesser_8 rfl (lv_at hl 1 rfl) ?_
    refine lv_if_lt (tgt := 21) hx hb dX1_isLesser_9 (by decide) (fun c10 => ?_) (fun c10 => ?_)
    ·
      have c10 := z_lt (i := p1.toInt) (j := 0) rfl (by decide) c10
      refine lv_iconst (v := 0) hx hb dX1_isLesser_21 (by decide) ?_
      subst hQ9
      refine lv_topi (fun t11 et11 => ?_)
      have ht11 : t11.toInt = 0 := by rw [et11]; decide
      have hq12 : (t11.toInt = 1 ∧ 0 ≤ p1.toInt ∧ p1.toInt < p2.toInt ∧ p2.toInt < (fi0 0).toInt) ∨ (t11.toInt = 0 ∧ (p1.toInt < 0 ∨ p2.toInt ≤ p1.toInt ∨ p2.toInt < 0 ∨ (fi0 0).toInt ≤ p2.toInt)) := by omega
      have hz13 : narrow .boolean (.int t11) = .int t11 := z_nz (by constructor <;> omega)
      exact W.zret (v := t11) hx hb hr hz13 (fun t ht hW => ⟨⟨t11, (), rfl, hq12, ⟨by rw [ht]; exact hP, hD⟩⟩, hS.F ht⟩) hS.2.2 dX1_isLesser_22
    ·
      have c10 := z_nlt (i := p1.toInt) (j := 0) rfl (by decide) c10
      refine lv_iload_n hx hb dX1_isLesser_12 rfl (lv_at hl 1 rfl) ?_
      refine lv_iload_n hx hb dX1_isLesser_13 rfl (lv_at hl 2 rfl) ?_
      refine lv_icmp_ge (tgt := 21) hx hb dX1_isLesser_14 (by decide) (fun c14 => ?_) (fun c14 => ?_)
      ·
        have c14 := z_le (i := p2.toInt) (j := p1.toInt) rfl rfl c14
        refine lv_iconst (v := 0) hx hb dX1_isLesser_21 (by decide) ?_
        subst hQ9
        refine lv_topi (fun t15 et15 => ?_)
        have ht15 : t15.toInt = 0 := by rw [et15]; decide
        have hq16 : (t15.toInt = 1 ∧ 0 ≤ p1.toInt ∧ p1.toInt < p2.toInt ∧ p2.toInt < (fi0 0).toInt) ∨ (t15.toInt = 0 ∧ (p1.toInt < 0 ∨ p2.toInt ≤ p1.toInt ∨ p2.toInt < 0 ∨ (fi0 0).toInt ≤ p2.toInt)) := by omega
        have hz17 : narrow .boolean (.int t15) = .int t15 := z_nz (by constructor <;> omega)
        exact W.zret (v := t15) hx hb hr hz17 (fun t ht hW => ⟨⟨t15, (), rfl, hq16, ⟨by rw [ht]; exact hP, hD⟩⟩, hS.F ht⟩) hS.2.2 dX1_isLesser_22
      ·
        have c14 := z_nle (i := p2.toInt) (j := p1.toInt) rfl rfl c14
        refine lv_iconst (v := 1) hx hb dX1_isLesser_17 (by decide) ?_
        refine lv_goto (tgt := 22) hx hb dX1_isLesser_18 (by decide) ?_
        subst hQ9
        refine lv_topi (fun t18 et18 => ?_)
        have ht18 : t18.toInt = 1 := by rw [et18]; decide
        have hq19 : (t18.toInt = 1 ∧ 0 ≤ p1.toInt ∧ p1.toInt < p2.toInt ∧ p2.toInt < (fi0 0).toInt) ∨ (t18.toInt = 0 ∧ (p1.toInt < 0 ∨ p2.toInt ≤ p1.toInt ∨ p2.toInt < 0 ∨ (fi0 0).toInt ≤ p2.toInt)) := by omega
        have hz20 : narrow .boolean (.int t18) = .int t18 := z_nz (by constructor <;> omega)
        exact W.zret (v := t18) hx hb hr hz20 (fun t ht hW => ⟨⟨t18, (), rfl, hq19, ⟨by rw [ht]; exact hP, hD⟩⟩, hS.F ht⟩) hS.2.2 dX1_isLesser_22

set_option maxHeartbeats 8000000 in
set_option maxRecDepth 100000 in
theorem c_X7_append (l : Launch) (D : va_G) (ca : Nat → ClassId) (sa : Nat → Nat) (A : Nat → Prop) (rest : va_W) (r0 : Nat → Nat) (fi0 : Nat → Int32) (fl0 : Nat → Int64) (fa0 : Nat → Nat → Int32) (fb0 : Nat → Nat → Int64) (hv0 : Ok_TAPE fi0 fa0) (p1 : Int32) : Met l yX7_append wsX7_append ({ frames := 0, cells := 0, slots := 0, locals := 0 }) (va_Pc [.ref (r0 0), .int p1] (zPre D ca sa A (w_TAPE ca r0 fi0 fl0 fa0 fb0 (rest)))) (va_Qv (fun (u : zS) => Ok_TAPE u.1 u.2.2.1) (fun u t => zPost D A (w_TAPE ca r0 u.1 u.2.1 u.2.2.1 u.2.2.2 (rest)) t) A) 0 0 A := by
  refine Met.ofW (cc := cX7_append) (maxL := 3) (ret := none) (by decide) rfl ?_
  intro p e s m args below meth c s₁ B hml hv9
  obtain ⟨rfl, hE, hP, hD⟩ := hv9
  have hx := B.exec
  have hb := B.bytes
  have hr := B.returns
  have hts := atoms_spec (ws := wsX7_append) B.pre
  have hown : s.vm.findClass RX7 = some m.cls := findClass_of_methodNamed B.named
  have hlocks := B.notSynchronized
  have hK := hE.1
  have hF : CallFix p m c cX7_append 3 s _ wsX7_append RX7 := ⟨hx, hb, hml, hown, hts⟩
  have hS : va_S A s.heap s.heap [] := va_S.rf
  have lk15 := hts (.fieldLink RX7 15 "BranchPlay$Tape" "length" "I") (by decide +kernel)
  have inX7 : ∀ w ∈ wsX70, w ∈ wsX7_append := by decide +kernel
  have lk11 := hts (.fieldLink RX7 11 "BranchPlay$Tape" "bytes" "[B") (by decide +kernel)
  obtain ⟨hv0i0, hv0j0⟩ := hv0
  generalize hHe : s.heap = H at hP
  have hS : va_S A s.heap H [] := by rw [← hHe]; exact hS
  have hP : va_P D vwCl (((r0 0), .inr (7, [.ref (r0 1), .int (fi0 0)])) :: ((r0 1), .inl (ca 2, 600, .inl (fa0 0))) :: rest) H := hP
  have hD : va_D A (((r0 0), .inr (7, [.ref (r0 1), .int (fi0 0)])) :: ((r0 1), .inl (ca 2, 600, .inl (fa0 0))) :: rest) := hD
  have hl := lv_entry ([.ref (r0 0), .int p1]) (n := 3) (Nat.le_of_ble_eq_true rfl)
  rw [lg_entry_eq]
  generalize (lg_sl ([.ref (r0 0), .int p1]) ++ List.replicate (3 - (lg_sl ([.ref (r0 0), .int p1])).length) Slot.unset).toArray = ls at hl ⊢
  have hl : lv_has ls 3 [(0, .ref (r0 0)), (1, .int p1)] := hl
  generalize hQ9 : MQ below _ _ s 0 0 A = Q9
  refine lv_bipush (v := 24) hx hb dX7_append_0 (by decide) ?_
  refine lv_topi (fun t1 et1 => ?_)
  have ht1 : t1.toInt = 24 := by rw [et1]; decide
  refine lv_istore_n (lv' := [(2, .int t1), (0, .ref (r0 0)), (1, .int p1)]) hx hb dX7_append_2 rfl hl (by decide) rfl (fun ls hl => ?_)
  have J3_2 : ∀ (n2 : Nat) (x2_2 : Int32) (gi0_2 : Nat → Int32) (gl0_2 : Nat → Int64) (ga0_2 : Nat → Nat → Int32) (gb0_2 : Nat → Nat → Int64) (H : Heap) (locs : List Loc) (hP : va_P D vwCl (((r0 0), .inr (7, [.ref (r0 1), .int (gi0_2 0)])) :: ((r0 1), .inl (ca 2, 600, .inl (ga0_2 0))) :: rest) H) (hD : va_D A (((r0 0), .inr (7, [.ref (r0 1), .int (gi0_2 0)])) :: ((r0 1), .inl (ca 2, 600, .inl (ga0_2 0))) :: rest)) (hS : va_S A s.heap H locs) (ls : Array Slot) (hl : lv_has ls 3 [(0, .ref (r0 0)), (1, .int p1), (2, .int x2_2)]) (hg0_2 : Ok_TAPE gi0_2 ga0_2) (hf2_0 : -8 ≤ x2_2.toInt ∧ x2_2.toInt ≤ 24), (x2_2.toInt + 9).toNat < n2 → W p l e (headSpec wsX7_append ({ frames := 0, cells := 0, slots := 0, locals := 0 })).room s m ([.ref (r0 0), .int p1] : List Value).toArray below meth c H locs 0 0 Q9 (F0 m 3 ls []) := by
    intro n2
    induction n2 with
    | zero => intro x2_2 gi0_2 gl0_2 ga0_2 gb0_2 H locs hP hD hS ls hl hg0_2 hf2_0 hn9; exact absurd hn9 (Nat.not_lt_zero _)
    | succ n2 ih2 =>
      intro x2_2 gi0_2 gl0_2 ga0_2 gb0_2 H locs hP hD hS ls hl hg0_2 hf2_0 hn9
      obtain ⟨hg0_2i0, hg0_2j0⟩ := hg0_2
      refine lv_iload_n hx hb dX7_append_3 rfl (lv_at hl 2 rfl) ?_
      refine lv_if_lt (tgt := 46) hx hb dX7_append_4 (by decide) (fun c3 => ?_) (fun c3 => ?_)
      ·
        have c3 := z_lt (i := x2_2.toInt) (j := 0) rfl (by decide) c3
        subst hQ9
        have ho4 : (0 ≤ (gi0_2 0).toInt ∧ (gi0_2 0).toInt ≤ 600) := ⟨by omega, by omega⟩
        exact W.vret hx hb hr (fun t ht hW => ⟨⟨((zl 0 [(gi0_2 0)]), (zl 0 []), (zl (fun _ => 0) [(ga0_2 0)]), (zl (fun _ => 0) [])), rfl, ho4, ⟨by rw [ht]; exact hP, hD⟩⟩, hS.F ht⟩) hS.2.2 dX7_append_46
      ·
        have c3 := z_nlt (i := x2_2.toInt) (j := 0) rfl (by decide) c3
        refine lv_aload_n hx hb dX7_append_7 rfl (lv_at hl 0 rfl) ?_
        refine va_get (D := D) (ci := 7) (v := .int (gi0_2 0)) (C := RX7) (T := TX7) (N := 2) hx hb hts inX7 hown hK hP 0 rfl rfl 1 (by decide) lk15 (fun _ h9 => h9) rfl dX7_append_8 ?_
        refine lv_sipush (v := 600) hx hb dX7_append_11 (by decide) ?_
        refine lv_icmp_ge (tgt := 46) hx hb dX7_append_14 (by decide) (fun c5 => ?_) (fun c5 => ?_)
        ·
          have c5 := z_le (i := 600) (j := (gi0_2 0).toInt) (by decide) rfl c5
          subst hQ9
          have ho6 : (0 ≤ (gi0_2 0).toInt ∧ (gi0_2 0).toInt ≤ 600) := ⟨by omega, by omega⟩
          exact W.vret hx hb hr (fun t ht hW => ⟨⟨((zl 0 [(gi0_2 0)]), (zl 0 []), (zl (fun _ => 0) [(ga0_2 0)]), (zl (fun _ => 0) [])), rfl, ho6, ⟨by rw [ht]; exact hP, hD⟩⟩, hS.F ht⟩) hS.2.2 dX7_append_46
        ·
          have c5 := z_nle (i := 600) (j := (gi0_2 0).toInt) (by decide) rfl c5
          refine lv_aload_n hx hb dX7_append_17 rfl (lv_at hl 0 rfl) ?_
          refine va_get (D := D) (ci := 7) (v := .ref (r0 1)) (C := RX7) (T := TX7) (N := 2) hx hb hts inX7 hown hK hP 0 rfl rfl 0 (by decide) lk11 (fun _ h9 => h9) rfl dX7_append_18 ?_
          refine lv_aload_n hx hb dX7_append_21 rfl (lv_at hl 0 rfl) ?_
          refine va_get (D := D) (ci := 7) (v := .int (gi0_2 0)) (C := RX7) (T := TX7) (N := 2) hx hb hts inX7 hown hK hP 0 rfl rfl 1 (by decide) lk15 (fun _ h9 => h9) rfl dX7_append_22 ?_
          refine lv_iload_n hx hb dX7_append_25 rfl (lv_at hl 1 rfl) ?_
          refine lv_iload_n hx hb dX7_append_26 rfl (lv_at hl 2 rfl) ?_
          refine lv_iushr hx hb dX7_append_27 rfl ?_
          refine lv_topi (fun t7 et7 => ?_)
          refine lv_i2b hx hb dX7_append_28 rfl ?_
          refine lv_topi (fun t8 et8 => ?_)
          have hi9 : vp_in (gi0_2 0) 600 := z_in (i := (gi0_2 0).toInt) rfl (by omega) (by omega)
          refine va_bast hx hb hK hP hD hS 1 2 rfl rfl hi9 dX7_append_29 (fun H locs hP hD hS => ?_)
          generalize eg10 : upd (ga0_2 0) (gi0_2 0).toNatClampNeg (vp_nar .byte t8) = g10 at hP hD
          have hP : va_P D vwCl (((r0 0), .inr (7, [.ref (r0 1), .int (gi0_2 0)])) :: ((r0 1), .inl (ca 2, 600, .inl g10)) :: rest) H := hP
          have hD : va_D A (((r0 0), .inr (7, [.ref (r0 1), .int (gi0_2 0)])) :: ((r0 1), .inl (ca 2, 600, .inl g10)) :: rest) := hD
          refine lv_aload_n hx hb dX7_append_30 rfl (lv_at hl 0 rfl) ?_
          refine lv_dup hx hb dX7_append_31 rfl ?_
          refine va_get (D := D) (ci := 7) (v := .int (gi0_2 0)) (C := RX7) (T := TX7) (N := 2) hx hb hts inX7 hown hK hP 0 rfl rfl 1 (by decide) lk15 (fun _ h9 => h9) rfl dX7_append_32 ?_
          refine lv_iconst (v := 1) hx hb dX7_append_35 (by decide) ?_
          refine lv_iadd hx hb dX7_append_36 ?_
          refine lv_topi (fun t11 et11 => ?_)
          try have ht11 : t11.toInt = (gi0_2 0).toInt + 1 := z_add et11 rfl (by decide) (by omega) (by omega)
          refine va_put (D := D) (ci := 7) (v := .int t11) (ty := .int) (C := RX7) (T := TX7) (N := 2) hx hb hts inX7 tyX7 tyX7_ok nmX7 hown hK hP hD hS 0 rfl rfl 1 (by decide) lk15 (fun _ h9 => h9) rfl (by decide +kernel) rfl rfl (Nat.le_of_ble_eq_true rfl) dX7_append_37 (fun H locs hP hD hS => ?_)
          have hP : va_P D vwCl (((r0 0), .inr (7, [.ref (r0 1), .int t11])) :: ((r0 1), .inl (ca 2, 600, .inl g10)) :: rest) H := hP
          have hD : va_D A (((r0 0), .inr (7, [.ref (r0 1), .int t11])) :: ((r0 1), .inl (ca 2, 600, .inl g10)) :: rest) := hD
          obtain ⟨t12, et12⟩ : ∃ y : Int32, y = x2_2 + (-8) := ⟨_, rfl⟩
          try have ht12 : t12.toInt = x2_2.toInt + (-8) := z_add et12 rfl (by decide) (by omega) (by omega)
          refine lv_iinc (v := t12) (lv' := [(2, .int t12), (0, .ref (r0 0)), (1, .int p1)]) hx hb dX7_append_40 hl (k := 2) rfl (by rw [et12]; rfl) (by decide) rfl (fun ls hl => ?_)
          refine lv_goto (tgt := 3) hx hb dX7_append_43 (by decide) ?_
          have ho13 : (0 ≤ t11.toInt ∧ t11.toInt ≤ 600) := ⟨by omega, by omega⟩
          have hj14 : -8 ≤ t12.toInt ∧ t12.toInt ≤ 24 := by omega
          have hm15 : (t12.toInt + 9).toNat < n2 := by omega
          exact ih2 t12 (zl 0 [t11]) (zl 0 []) (zl (fun _ => 0) [g10]) (zl (fun _ => 0) []) _ _ hP hD hS ls (lv_sub hl [1, 2, 0] rfl) ho13 hj14 hm15
  have ho16 : (0 ≤ (fi0 0).toInt ∧ (fi0 0).toInt ≤ 600) := ⟨by omega, by omega⟩
  have hj17 : -8 ≤ t1.toInt ∧ t1.toInt ≤ 24 := by omega
  exact J3_2 ((t1.toInt + 9).toNat + 1) t1 (zl 0 [(fi0 0)]) (zl 0 []) (zl (fun _ => 0) [(fa0 0)]) (zl (fun _ => 0) []) _ _ hP hD hS ls (lv_sub hl [1, 2, 0] rfl) ho16 hj17 (Nat.lt_succ_self _)

set_option maxHeartbeats 8000000 in
set_option maxRecDepth 100000 in
theorem c_X7_isLetter (l : Launch) (D : va_G) (ca : Nat → ClassId) (sa : Nat → Nat) (A : Nat → Prop) (rest : va_W) (r0 : Nat → Nat) (fi0 : Nat → Int32) (fl0 : Nat → Int64) (fa0 : Nat → Nat → Int32) (fb0 : Nat → Nat → Int64) (hv0 : Ok_TAPE fi0 fa0) (p1 : Int32) (hpre0 : 0 ≤ p1.toInt ∧ p1.toInt ≤ 599) : Met l yX7_isLetter wsX7_isLetter ({ frames := 0, cells := 0, slots := 0, locals := 0 }) (va_Pc [.ref (r0 0), .int p1] (zPre D ca sa A (w_TAPE ca r0 fi0 fl0 fa0 fb0 (rest)))) (va_Qi (fun (r : Int32) (u : Unit) => (0 ≤ r.toInt ∧ r.toInt ≤ 1)) (fun u t => zPost D A (w_TAPE ca r0 fi0 fl0 fa0 fb0 (rest)) t) A) 0 0 A := by
  refine Met.ofW (cc := cX7_isLetter) (maxL := 2) (ret := (some .boolean)) (by decide) rfl ?_
  intro p e s m args below meth c s₁ B hml hv9
  obtain ⟨rfl, hE, hP, hD⟩ := hv9
  have hx := B.exec
  have hb := B.bytes
  have hr := B.returns
  have hts := atoms_spec (ws := wsX7_isLetter) B.pre
  have hown : s.vm.findClass RX7 = some m.cls := findClass_of_methodNamed B.named
  have hlocks := B.notSynchronized
  have hK := hE.1
  have hF : CallFix p m c cX7_isLetter 2 s _ wsX7_isLetter RX7 := ⟨hx, hb, hml, hown, hts⟩
  have hS : va_S A s.heap s.heap [] := va_S.rf
  have lk11 := hts (.fieldLink RX7 11 "BranchPlay$Tape" "bytes" "[B") (by decide +kernel)
  have inX7 : ∀ w ∈ wsX70, w ∈ wsX7_isLetter := by decide +kernel
  obtain ⟨hv0i0, hv0j0⟩ := hv0
  generalize hHe : s.heap = H at hP
  have hS : va_S A s.heap H [] := by rw [← hHe]; exact hS
  have hP : va_P D vwCl (((r0 0), .inr (7, [.ref (r0 1), .int (fi0 0)])) :: ((r0 1), .inl (ca 2, 600, .inl (fa0 0))) :: rest) H := hP
  have hD : va_D A (((r0 0), .inr (7, [.ref (r0 1), .int (fi0 0)])) :: ((r0 1), .inl (ca 2, 600, .inl (fa0 0))) :: rest) := hD
  have hl := lv_entry ([.ref (r0 0), .int p1]) (n := 2) (Nat.le_of_ble_eq_true rfl)
  rw [lg_entry_eq]
  generalize (lg_sl ([.ref (r0 0), .int p1]) ++ List.replicate (2 - (lg_sl ([.ref (r0 0), .int p1])).length) Slot.unset).toArray = ls at hl ⊢
  have hl : lv_has ls 2 [(0, .ref (r0 0)), (1, .int p1)] := hl
  generalize hQ9 : MQ below _ _ s 0 0 A = Q9
  refine lv_aload_n hx hb dX7_isLetter_0 rfl (lv_at hl 0 rfl) ?_
  refine va_get (D := D) (ci := 7) (v := .ref (r0 1)) (C := RX7) (T := TX7) (N := 2) hx hb hts inX7 hown hK hP 0 rfl rfl 0 (by decide) lk11 (fun _ h9 => h9) rfl dX7_isLetter_1 ?_
  refine lv_iload_n hx hb dX7_isLetter_4 rfl (lv_at hl 1 rfl) ?_
  have hi1 : vp_in p1 600 := z_in (i := p1.toInt) rfl (by omega) (by omega)
  refine va_bald hx hb hK hP 1 2 rfl rfl hi1 dX7_isLetter_5 ?_
  refine lv_topi (fun t2 et2 => ?_)
  refine lv_bipush (v := 97) hx hb dX7_isLetter_6 (by decide) ?_
  refine lv_icmp_lt (tgt := 26) hx hb dX7_isLetter_8 (by decide) (fun c3 => ?_) (fun c3 => ?_)
  ·
    have c3 := z_lt (i := t2.toInt) (j := 97) rfl (by decide) c3
    refine lv_iconst (v := 0) hx hb dX7_isLetter_26 (by decide) ?_
    subst hQ9
    refine lv_topi (fun t4 et4 => ?_)
    have ht4 : t4.toInt = 0 := by rw [et4]; decide
    have hq5 : 0 ≤ t4.toInt ∧ t4.toInt ≤ 1 := by omega
    have hz6 : narrow .boolean (.int t4) = .int t4 := z_nz (by constructor <;> omega)
    exact W.zret (v := t4) hx hb hr hz6 (fun t ht hW => ⟨⟨t4, (), rfl, hq5, ⟨by rw [ht]; exact hP, hD⟩⟩, hS.F ht⟩) hS.2.2 dX7_isLetter_27
  ·
    have c3 := z_nlt (i := t2.toInt) (j := 97) rfl (by decide) c3
    refine lv_aload_n hx hb dX7_isLetter_11 rfl (lv_at hl 0 rfl) ?_
    refine va_get (D := D) (ci := 7) (v := .ref (r0 1)) (C := RX7) (T := TX7) (N := 2) hx hb hts inX7 hown hK hP 0 rfl rfl 0 (by decide) lk11 (fun _ h9 => h9) rfl dX7_isLetter_12 ?_
    refine lv_iload_n hx hb dX7_isLetter_15 rfl (lv_at hl 1 rfl) ?_
    have hi7 : vp_in p1 600 := z_in (i := p1.toInt) rfl (by omega) (by omega)
    refine va_bald hx hb hK hP 1 2 rfl rfl hi7 dX7_isLetter_16 ?_
    refine lv_topi (fun t8 et8 => ?_)
    refine lv_bipush (v := 122) hx hb dX7_isLetter_17 (by decide) ?_
    refine lv_icmp_gt (tgt := 26) hx hb dX7_isLetter_19 (by decide) (fun c9 => ?_) (fun c9 => ?_)
    ·
      have c9 := z_lt (i := 122) (j := t8.toInt) (by decide) rfl c9
      refine lv_iconst (v := 0) hx hb dX7_isLetter_26 (by decide) ?_
      subst hQ9
      refine lv_topi (fun t10 et10 => ?_)
      have ht10 : t10.toInt = 0 := by rw [et10]; decide
      have hq11 : 0 ≤ t10.toInt ∧ t10.toInt ≤ 1 := by omega
      have hz12 : narrow .boolean (.int t10) = .int t10 := z_nz (by constructor <;> omega)
      exact W.zret (v := t10) hx hb hr hz12 (fun t ht hW => ⟨⟨t10, (), rfl, hq11, ⟨by rw [ht]; exact hP, hD⟩⟩, hS.F ht⟩) hS.2.2 dX7_isLetter_27
    ·
      have c9 := z_nlt (i := 122) (j := t8.toInt) (by decide) rfl c9
      refine lv_iconst (v := 1) hx hb dX7_isLetter_22 (by decide) ?_
      refine lv_goto (tgt := 27) hx hb dX7_isLetter_23 (by decide) ?_
      subst hQ9
      refine lv_topi (fun t13 et13 => ?_)
      have ht13 : t13.toInt = 1 := by rw [et13]; decide
      have hq14 : 0 ≤ t13.toInt ∧ t13.toInt ≤ 1 := by omega
      have hz15 : narrow .boolean (.int t13) = .int t13 := z_nz (by constructor <;> omega)
      exact W.zret (v := t13) hx hb hr hz15 (fun t ht hW => ⟨⟨t13, (), rfl, hq14, ⟨by rw [ht]; exact hP, hD⟩⟩, hS.F ht⟩) hS.2.2 dX7_isLetter_27

set_option maxHeartbeats 8000000 in
set_option maxRecDepth 100000 in
theorem c_X7_isDigit (l : Launch) (D : va_G) (ca : Nat → ClassId) (sa : Nat → Nat) (A : Nat → Prop) (rest : va_W) (r0 : Nat → Nat) (fi0 : Nat → Int32) (fl0 : Nat → Int64) (fa0 : Nat → Nat → Int32) (fb0 : Nat → Nat → Int64) (hv0 : Ok_TAPE fi0 fa0) (p1 : Int32) (hpre0 : 0 ≤ p1.toInt ∧ p1.toInt ≤ 599) : Met l yX7_isDigit wsX7_isDigit ({ frames := 0, cells := 0, slots := 0, locals := 0 }) (va_Pc [.ref (r0 0), .int p1] (zPre D ca sa A (w_TAPE ca r0 fi0 fl0 fa0 fb0 (rest)))) (va_Qi (fun (r : Int32) (u : Unit) => (0 ≤ r.toInt ∧ r.toInt ≤ 1)) (fun u t => zPost D A (w_TAPE ca r0 fi0 fl0 fa0 fb0 (rest)) t) A) 0 0 A := by
  refine Met.ofW (cc := cX7_isDigit) (maxL := 2) (ret := (some .boolean)) (by decide) rfl ?_
  intro p e s m args below meth c s₁ B hml hv9
  obtain ⟨rfl, hE, hP, hD⟩ := hv9
  have hx := B.exec
  have hb := B.bytes
  have hr := B.returns
  have hts := atoms_spec (ws := wsX7_isDigit) B.pre
  have hown : s.vm.findClass RX7 = some m.cls := findClass_of_methodNamed B.named
  have hlocks := B.notSynchronized
  have hK := hE.1
  have hF : CallFix p m c cX7_isDigit 2 s _ wsX7_isDigit RX7 := ⟨hx, hb, hml, hown, hts⟩
  have hS : va_S A s.heap s.heap [] := va_S.rf
  have lk11 := hts (.fieldLink RX7 11 "BranchPlay$Tape" "bytes" "[B") (by decide +kernel)
  have inX7 : ∀ w ∈ wsX70, w ∈ wsX7_isDigit := by decide +kernel
  obtain ⟨hv0i0, hv0j0⟩ := hv0
  generalize hHe : s.heap = H at hP
  have hS : va_S A s.heap H [] := by rw [← hHe]; exact hS
  have hP : va_P D vwCl (((r0 0), .inr (7, [.ref (r0 1), .int (fi0 0)])) :: ((r0 1), .inl (ca 2, 600, .inl (fa0 0))) :: rest) H := hP
  have hD : va_D A (((r0 0), .inr (7, [.ref (r0 1), .int (fi0 0)])) :: ((r0 1), .inl (ca 2, 600, .inl (fa0 0))) :: rest) := hD
  have hl := lv_entry ([.ref (r0 0), .int p1]) (n := 2) (Nat.le_of_ble_eq_true rfl)
  rw [lg_entry_eq]
  generalize (lg_sl ([.ref (r0 0), .int p1]) ++ List.replicate (2 - (lg_sl ([.ref (r0 0), .int p1])).length) Slot.unset).toArray = ls at hl ⊢
  have hl : lv_has ls 2 [(0, .ref (r0 0)), (1, .int p1)] := hl
  generalize hQ9 : MQ below _ _ s 0 0 A = Q9
  refine lv_aload_n hx hb dX7_isDigit_0 rfl (lv_at hl 0 rfl) ?_
  refine va_get (D := D) (ci := 7) (v := .ref (r0 1)) (C := RX7) (T := TX7) (N := 2) hx hb hts inX7 hown hK hP 0 rfl rfl 0 (by decide) lk11 (fun _ h9 => h9) rfl dX7_isDigit_1 ?_
  refine lv_iload_n hx hb dX7_isDigit_4 rfl (lv_at hl 1 rfl) ?_
  have hi1 : vp_in p1 600 := z_in (i := p1.toInt) rfl (by omega) (by omega)
  refine va_bald hx hb hK hP 1 2 rfl rfl hi1 dX7_isDigit_5 ?_
  refine lv_topi (fun t2 et2 => ?_)
  refine lv_bipush (v := 48) hx hb dX7_isDigit_6 (by decide) ?_
  refine lv_icmp_lt (tgt := 26) hx hb dX7_isDigit_8 (by decide) (fun c3 => ?_) (fun c3 => ?_)
  ·
    have c3 := z_lt (i := t2.toInt) (j := 48) rfl (by decide) c3
    refine lv_iconst (v := 0) hx hb dX7_isDigit_26 (by decide) ?_
    subst hQ9
    refine lv_topi (fun t4 et4 => ?_)
    have ht4 : t4.toInt = 0 := by rw [et4]; decide
    have hq5 : 0 ≤ t4.toInt ∧ t4.toInt ≤ 1 := by omega
    have hz6 : narrow .boolean (.int t4) = .int t4 := z_nz (by constructor <;> omega)
    exact W.zret (v := t4) hx hb hr hz6 (fun t ht hW => ⟨⟨t4, (), rfl, hq5, ⟨by rw [ht]; exact hP, hD⟩⟩, hS.F ht⟩) hS.2.2 dX7_isDigit_27
  ·
    have c3 := z_nlt (i := t2.toInt) (j := 48) rfl (by decide) c3
    refine lv_aload_n hx hb dX7_isDigit_11 rfl (lv_at hl 0 rfl) ?_
    refine va_get (D := D) (ci := 7) (v := .ref (r0 1)) (C := RX7) (T := TX7) (N := 2) hx hb hts inX7 hown hK hP 0 rfl rfl 0 (by decide) lk11 (fun _ h9 => h9) rfl dX7_isDigit_12 ?_
    refine lv_iload_n hx hb dX7_isDigit_15 rfl (lv_at hl 1 rfl) ?_
    have hi7 : vp_in p1 600 := z_in (i := p1.toInt) rfl (by omega) (by omega)
    refine va_bald hx hb hK hP 1 2 rfl rfl hi7 dX7_isDigit_16 ?_
    refine lv_topi (fun t8 et8 => ?_)
    refine lv_bipush (v := 57) hx hb dX7_isDigit_17 (by decide) ?_
    refine lv_icmp_gt (tgt := 26) hx hb dX7_isDigit_19 (by decide) (fun c9 => ?_) (fun c9 => ?_)
    ·
      have c9 := z_lt (i := 57) (j := t8.toInt) (by decide) rfl c9
      refine lv_iconst (v := 0) hx hb dX7_isDigit_26 (by decide) ?_
      subst hQ9
      refine lv_topi (fun t10 et10 => ?_)
      have ht10 : t10.toInt = 0 := by rw [et10]; decide
      have hq11 : 0 ≤ t10.toInt ∧ t10.toInt ≤ 1 := by omega
      have hz12 : narrow .boolean (.int t10) = .int t10 := z_nz (by constructor <;> omega)
      exact W.zret (v := t10) hx hb hr hz12 (fun t ht hW => ⟨⟨t10, (), rfl, hq11, ⟨by rw [ht]; exact hP, hD⟩⟩, hS.F ht⟩) hS.2.2 dX7_isDigit_27
    ·
      have c9 := z_nlt (i := 57) (j := t8.toInt) (by decide) rfl c9
      refine lv_iconst (v := 1) hx hb dX7_isDigit_22 (by decide) ?_
      refine lv_goto (tgt := 27) hx hb dX7_isDigit_23 (by decide) ?_
      subst hQ9
      refine lv_topi (fun t13 et13 => ?_)
      have ht13 : t13.toInt = 1 := by rw [et13]; decide
      have hq14 : 0 ≤ t13.toInt ∧ t13.toInt ≤ 1 := by omega
      have hz15 : narrow .boolean (.int t13) = .int t13 := z_nz (by constructor <;> omega)
      exact W.zret (v := t13) hx hb hr hz15 (fun t ht hW => ⟨⟨t13, (), rfl, hq14, ⟨by rw [ht]; exact hP, hD⟩⟩, hS.F ht⟩) hS.2.2 dX7_isDigit_27

set_option maxHeartbeats 8000000 in
set_option maxRecDepth 100000 in
theorem c_X7_isSemicolon (l : Launch) (D : va_G) (ca : Nat → ClassId) (sa : Nat → Nat) (A : Nat → Prop) (rest : va_W) (r0 : Nat → Nat) (fi0 : Nat → Int32) (fl0 : Nat → Int64) (fa0 : Nat → Nat → Int32) (fb0 : Nat → Nat → Int64) (hv0 : Ok_TAPE fi0 fa0) (p1 : Int32) (hpre0 : 0 ≤ p1.toInt ∧ p1.toInt ≤ 599) : Met l yX7_isSemicolon wsX7_isSemicolon ({ frames := 0, cells := 0, slots := 0, locals := 0 }) (va_Pc [.ref (r0 0), .int p1] (zPre D ca sa A (w_TAPE ca r0 fi0 fl0 fa0 fb0 (rest)))) (va_Qi (fun (r : Int32) (u : Unit) => (0 ≤ r.toInt ∧ r.toInt ≤ 1)) (fun u t => zPost D A (w_TAPE ca r0 fi0 fl0 fa0 fb0 (rest)) t) A) 0 0 A := by
  refine Met.ofW (cc := cX7_isSemicolon) (maxL := 2) (ret := (some .boolean)) (by decide) rfl ?_
  intro p e s m args below meth c s₁ B hml hv9
  obtain ⟨rfl, hE, hP, hD⟩ := hv9
  have hx := B.exec
  have hb := B.bytes
  have hr := B.returns
  have hts := atoms_spec (ws := wsX7_isSemicolon) B.pre
  have hown : s.vm.findClass RX7 = some m.cls := findClass_of_methodNamed B.named
  have hlocks := B.notSynchronized
  have hK := hE.1
  have hF : CallFix p m c cX7_isSemicolon 2 s _ wsX7_isSemicolon RX7 := ⟨hx, hb, hml, hown, hts⟩
  have hS : va_S A s.heap s.heap [] := va_S.rf
  have lk11 := hts (.fieldLink RX7 11 "BranchPlay$Tape" "bytes" "[B") (by decide +kernel)
  have inX7 : ∀ w ∈ wsX70, w ∈ wsX7_isSemicolon := by decide +kernel
  obtain ⟨hv0i0, hv0j0⟩ := hv0
  generalize hHe : s.heap = H at hP
  have hS : va_S A s.heap H [] := by rw [← hHe]; exact hS
  have hP : va_P D vwCl (((r0 0), .inr (7, [.ref (r0 1), .int (fi0 0)])) :: ((r0 1), .inl (ca 2, 600, .inl (fa0 0))) :: rest) H := hP
  have hD : va_D A (((r0 0), .inr (7, [.ref (r0 1), .int (fi0 0)])) :: ((r0 1), .inl (ca 2, 600, .inl (fa0 0))) :: rest) := hD
  have hl := lv_entry ([.ref (r0 0), .int p1]) (n := 2) (Nat.le_of_ble_eq_true rfl)
  rw [lg_entry_eq]
  generalize (lg_sl ([.ref (r0 0), .int p1]) ++ List.replicate (2 - (lg_sl ([.ref (r0 0), .int p1])).length) Slot.unset).toArray = ls at hl ⊢
  have hl : lv_has ls 2 [(0, .ref (r0 0)), (1, .int p1)] := hl
  generalize hQ9 : MQ below _ _ s 0 0 A = Q9
  refine lv_aload_n hx hb dX7_isSemicolon_0 rfl (lv_at hl 0 rfl) ?_
  refine va_get (D := D) (ci := 7) (v := .ref (r0 1)) (C := RX7) (T := TX7) (N := 2) hx hb hts inX7 hown hK hP 0 rfl rfl 0 (by decide) lk11 (fun _ h9 => h9) rfl dX7_isSemicolon_1 ?_
  refine lv_iload_n hx hb dX7_isSemicolon_4 rfl (lv_at hl 1 rfl) ?_
  have hi1 : vp_in p1 600 := z_in (i := p1.toInt) rfl (by omega) (by omega)
  refine va_bald hx hb hK hP 1 2 rfl rfl hi1 dX7_isSemicolon_5 ?_
  refine lv_topi (fun t2 et2 => ?_)
  refine lv_bipush (v := 59) hx hb dX7_isSemicolon_6 (by decide) ?_
  refine lv_icmp_ne (tgt := 15) hx hb dX7_isSemicolon_8 (by decide) (fun c3 => ?_) (fun c3 => ?_)
  ·
    have c3 := z_ne (i := t2.toInt) (j := 59) rfl (by decide) c3
    refine lv_iconst (v := 0) hx hb dX7_isSemicolon_15 (by decide) ?_
    subst hQ9
    refine lv_topi (fun t4 et4 => ?_)
    have ht4 : t4.toInt = 0 := by rw [et4]; decide
    have hq5 : 0 ≤ t4.toInt ∧ t4.toInt ≤ 1 := by omega
    have hz6 : narrow .boolean (.int t4) = .int t4 := z_nz (by constructor <;> omega)
    exact W.zret (v := t4) hx hb hr hz6 (fun t ht hW => ⟨⟨t4, (), rfl, hq5, ⟨by rw [ht]; exact hP, hD⟩⟩, hS.F ht⟩) hS.2.2 dX7_isSemicolon_16
  ·
    have c3 := z_eq (i := t2.toInt) (j := 59) rfl (by decide) c3
    refine lv_iconst (v := 1) hx hb dX7_isSemicolon_11 (by decide) ?_
    refine lv_goto (tgt := 16) hx hb dX7_isSemicolon_12 (by decide) ?_
    subst hQ9
    refine lv_topi (fun t7 et7 => ?_)
    have ht7 : t7.toInt = 1 := by rw [et7]; decide
    have hq8 : 0 ≤ t7.toInt ∧ t7.toInt ≤ 1 := by omega
    have hz9 : narrow .boolean (.int t7) = .int t7 := z_nz (by constructor <;> omega)
    exact W.zret (v := t7) hx hb hr hz9 (fun t ht hW => ⟨⟨t7, (), rfl, hq8, ⟨by rw [ht]; exact hP, hD⟩⟩, hS.F ht⟩) hS.2.2 dX7_isSemicolon_16

set_option maxHeartbeats 8000000 in
set_option maxRecDepth 100000 in
theorem c_X7_pastBlanks (l : Launch) (D : va_G) (ca : Nat → ClassId) (sa : Nat → Nat) (A : Nat → Prop) (rest : va_W) (r0 : Nat → Nat) (fi0 : Nat → Int32) (fl0 : Nat → Int64) (fa0 : Nat → Nat → Int32) (fb0 : Nat → Nat → Int64) (hv0 : Ok_TAPE fi0 fa0) (p1 : Int32) (hpre0 : 0 ≤ p1.toInt ∧ p1.toInt ≤ 600) : Met l yX7_pastBlanks wsX7_pastBlanks ({ frames := 0, cells := 0, slots := 0, locals := 0 }) (va_Pc [.ref (r0 0), .int p1] (zPre D ca sa A (w_TAPE ca r0 fi0 fl0 fa0 fb0 (rest)))) (va_Qi (fun (r : Int32) (u : Unit) => (p1.toInt ≤ r.toInt ∧ r.toInt ≤ 600)) (fun u t => zPost D A (w_TAPE ca r0 fi0 fl0 fa0 fb0 (rest)) t) A) 0 0 A := by
  refine Met.ofW (cc := cX7_pastBlanks) (maxL := 3) (ret := (some .int)) (by decide) rfl ?_
  intro p e s m args below meth c s₁ B hml hv9
  obtain ⟨rfl, hE, hP, hD⟩ := hv9
  have hx := B.exec
  have hb := B.bytes
  have hr := B.returns
  have hts := atoms_spec (ws := wsX7_pastBlanks) B.pre
  have hown : s.vm.findClass RX7 = some m.cls := findClass_of_methodNamed B.named
  have hlocks := B.notSynchronized
  have hK := hE.1
  have hF : CallFix p m c cX7_pastBlanks 3 s _ wsX7_pastBlanks RX7 := ⟨hx, hb, hml, hown, hts⟩
  have hS : va_S A s.heap s.heap [] := va_S.rf
  have lk15 := hts (.fieldLink RX7 15 "BranchPlay$Tape" "length" "I") (by decide +kernel)
  have inX7 : ∀ w ∈ wsX70, w ∈ wsX7_pastBlanks := by decide +kernel
  have lk11 := hts (.fieldLink RX7 11 "BranchPlay$Tape" "bytes" "[B") (by decide +kernel)
  obtain ⟨hv0i0, hv0j0⟩ := hv0
  generalize hHe : s.heap = H at hP
  have hS : va_S A s.heap H [] := by rw [← hHe]; exact hS
  have hP : va_P D vwCl (((r0 0), .inr (7, [.ref (r0 1), .int (fi0 0)])) :: ((r0 1), .inl (ca 2, 600, .inl (fa0 0))) :: rest) H := hP
  have hD : va_D A (((r0 0), .inr (7, [.ref (r0 1), .int (fi0 0)])) :: ((r0 1), .inl (ca 2, 600, .inl (fa0 0))) :: rest) := hD
  have hl := lv_entry ([.ref (r0 0), .int p1]) (n := 3) (Nat.le_of_ble_eq_true rfl)
  rw [lg_entry_eq]
  generalize (lg_sl ([.ref (r0 0), .int p1]) ++ List.replicate (3 - (lg_sl ([.ref (r0 0), .int p1])).length) Slot.unset).toArray = ls at hl ⊢
  have hl : lv_has ls 3 [(0, .ref (r0 0)), (1, .int p1)] := hl
  generalize hQ9 : MQ below _ _ s 0 0 A = Q9
  refine lv_iload_n hx hb dX7_pastBlanks_0 rfl (lv_at hl 1 rfl) ?_
  refine lv_istore_n (lv' := [(2, .int p1), (0, .ref (r0 0)), (1, .int p1)]) hx hb dX7_pastBlanks_1 rfl hl (by decide) rfl (fun ls hl => ?_)
  have J2_1 : ∀ (n1 : Nat) (x2_1 : Int32) (ls : Array Slot) (hl : lv_has ls 3 [(0, .ref (r0 0)), (2, .int x2_1)]) (hf1_0 : p1.toInt ≤ x2_1.toInt ∧ x2_1.toInt ≤ 600), (601 - x2_1.toInt).toNat < n1 → W p l e (headSpec wsX7_pastBlanks ({ frames := 0, cells := 0, slots := 0, locals := 0 })).room s m ([.ref (r0 0), .int p1] : List Value).toArray below meth c H [] 0 0 Q9 (F0 m 2 ls []) := by
    intro n1
    induction n1 with
    | zero => intro x2_1 ls hl hf1_0 hn9; exact absurd hn9 (Nat.not_lt_zero _)
    | succ n1 ih1 =>
      intro x2_1 ls hl hf1_0 hn9
      refine lv_iload_n hx hb dX7_pastBlanks_2 rfl (lv_at hl 1 rfl) ?_
      refine lv_aload_n hx hb dX7_pastBlanks_3 rfl (lv_at hl 0 rfl) ?_
      refine va_get (D := D) (ci := 7) (v := .int (fi0 0)) (C := RX7) (T := TX7) (N := 2) hx hb hts inX7 hown hK hP 0 rfl rfl 1 (by decide) lk15 (fun _ h9 => h9) rfl dX7_pastBlanks_4 ?_
      refine lv_icmp_ge (tgt := 38) hx hb dX7_pastBlanks_7 (by decide) (fun c2 => ?_) (fun c2 => ?_)
      ·
        have c2 := z_le (i := (fi0 0).toInt) (j := x2_1.toInt) rfl rfl c2
        refine lv_iload_n hx hb dX7_pastBlanks_38 rfl (lv_at hl 1 rfl) ?_
        subst hQ9
        have hq3 : p1.toInt ≤ x2_1.toInt ∧ x2_1.toInt ≤ 600 := by omega
        exact W.iret (v := x2_1) hx hb hr (fun t ht hW => ⟨⟨x2_1, (), rfl, hq3, ⟨by rw [ht]; exact hP, hD⟩⟩, hS.F ht⟩) hS.2.2 dX7_pastBlanks_39
      ·
        have c2 := z_nle (i := (fi0 0).toInt) (j := x2_1.toInt) rfl rfl c2
        refine lv_aload_n hx hb dX7_pastBlanks_10 rfl (lv_at hl 0 rfl) ?_
        refine va_get (D := D) (ci := 7) (v := .ref (r0 1)) (C := RX7) (T := TX7) (N := 2) hx hb hts inX7 hown hK hP 0 rfl rfl 0 (by decide) lk11 (fun _ h9 => h9) rfl dX7_pastBlanks_11 ?_
        refine lv_iload_n hx hb dX7_pastBlanks_14 rfl (lv_at hl 1 rfl) ?_
        have hi4 : vp_in x2_1 600 := z_in (i := x2_1.toInt) rfl (by omega) (by omega)
        refine va_bald hx hb hK hP 1 2 rfl rfl hi4 dX7_pastBlanks_15 ?_
        refine lv_topi (fun t5 et5 => ?_)
        refine lv_bipush (v := 32) hx hb dX7_pastBlanks_16 (by decide) ?_
        have J32_6 : ∀ (ls : Array Slot) (hl : lv_has ls 3 [(0, .ref (r0 0)), (2, .int x2_1)]), W p l e (headSpec wsX7_pastBlanks ({ frames := 0, cells := 0, slots := 0, locals := 0 })).room s m ([.ref (r0 0), .int p1] : List Value).toArray below meth c H [] 0 0 Q9 (F0 m 32 ls []) := by
          intro ls hl
          obtain ⟨t7, et7⟩ : ∃ y : Int32, y = x2_1 + 1 := ⟨_, rfl⟩
          try have ht7 : t7.toInt = x2_1.toInt + 1 := z_add et7 rfl (by decide) (by omega) (by omega)
          refine lv_iinc (v := t7) (lv' := [(2, .int t7), (0, .ref (r0 0))]) hx hb dX7_pastBlanks_32 hl (k := 1) rfl (by rw [et7]; rfl) (by decide) rfl (fun ls hl => ?_)
          refine lv_goto (tgt := 2) hx hb dX7_pastBlanks_35 (by decide) ?_
          have hj8 : p1.toInt ≤ t7.toInt ∧ t7.toInt ≤ 600 := by omega
          have hm9 : (601 - t7.toInt).toNat < n1 := by omega
          exact ih1 t7 ls (lv_sub hl [1, 0] rfl) hj8 hm9
        refine lv_icmp_eq (tgt := 32) hx hb dX7_pastBlanks_18 (by decide) (fun c10 => ?_) (fun c10 => ?_)
        ·
          have c10 := z_eq (i := t5.toInt) (j := 32) rfl (by decide) c10
          exact J32_6 ls (lv_sub hl [0, 1] rfl)
        ·
          have c10 := z_ne (i := t5.toInt) (j := 32) rfl (by decide) c10
          refine lv_aload_n hx hb dX7_pastBlanks_21 rfl (lv_at hl 0 rfl) ?_
          refine va_get (D := D) (ci := 7) (v := .ref (r0 1)) (C := RX7) (T := TX7) (N := 2) hx hb hts inX7 hown hK hP 0 rfl rfl 0 (by decide) lk11 (fun _ h9 => h9) rfl dX7_pastBlanks_22 ?_
          refine lv_iload_n hx hb dX7_pastBlanks_25 rfl (lv_at hl 1 rfl) ?_
          have hi11 : vp_in x2_1 600 := z_in (i := x2_1.toInt) rfl (by omega) (by omega)
          refine va_bald hx hb hK hP 1 2 rfl rfl hi11 dX7_pastBlanks_26 ?_
          refine lv_topi (fun t12 et12 => ?_)
          refine lv_bipush (v := 10) hx hb dX7_pastBlanks_27 (by decide) ?_
          refine lv_icmp_ne (tgt := 38) hx hb dX7_pastBlanks_29 (by decide) (fun c13 => ?_) (fun c13 => ?_)
          ·
            have c13 := z_ne (i := t12.toInt) (j := 10) rfl (by decide) c13
            refine lv_iload_n hx hb dX7_pastBlanks_38 rfl (lv_at hl 1 rfl) ?_
            subst hQ9
            have hq14 : p1.toInt ≤ x2_1.toInt ∧ x2_1.toInt ≤ 600 := by omega
            exact W.iret (v := x2_1) hx hb hr (fun t ht hW => ⟨⟨x2_1, (), rfl, hq14, ⟨by rw [ht]; exact hP, hD⟩⟩, hS.F ht⟩) hS.2.2 dX7_pastBlanks_39
          ·
            have c13 := z_eq (i := t12.toInt) (j := 10) rfl (by decide) c13
            exact J32_6 ls (lv_sub hl [0, 1] rfl)
  have hj15 : p1.toInt ≤ p1.toInt ∧ p1.toInt ≤ 600 := by omega
  exact J2_1 ((601 - p1.toInt).toNat + 1) p1 ls (lv_sub hl [1, 0] rfl) hj15 (Nat.lt_succ_self _)

set_option maxHeartbeats 8000000 in
set_option maxRecDepth 100000 in
theorem c_X7_pastToken (l : Launch) (D : va_G) (ca : Nat → ClassId) (sa : Nat → Nat) (A : Nat → Prop) (rest : va_W) (r0 : Nat → Nat) (fi0 : Nat → Int32) (fl0 : Nat → Int64) (fa0 : Nat → Nat → Int32) (fb0 : Nat → Nat → Int64) (hv0 : Ok_TAPE fi0 fa0) (p1 : Int32) (hpre0 : 0 ≤ p1.toInt ∧ p1.toInt ≤ 599) : Met l yX7_pastToken wsX7_pastToken ({ frames := 1, cells := 0, slots := 0, locals := 21 }) (va_Pc [.ref (r0 0), .int p1] (zPre D ca sa A (w_TAPE ca r0 fi0 fl0 fa0 fb0 (rest)))) (va_Qi (fun (r : Int32) (u : Unit) => (p1.toInt < r.toInt ∧ r.toInt ≤ 600)) (fun u t => zPost D A (w_TAPE ca r0 fi0 fl0 fa0 fb0 (rest)) t) A) 0 0 A := by
  refine Met.ofW (cc := cX7_pastToken) (maxL := 3) (ret := (some .int)) (by decide) rfl ?_
  intro p e s m args below meth c s₁ B hml hv9
  obtain ⟨rfl, hE, hP, hD⟩ := hv9
  have hx := B.exec
  have hb := B.bytes
  have hr := B.returns
  have hts := atoms_spec (ws := wsX7_pastToken) B.pre
  have hown : s.vm.findClass RX7 = some m.cls := findClass_of_methodNamed B.named
  have hlocks := B.notSynchronized
  have hK := hE.1
  have hF : CallFix p m c cX7_pastToken 3 s _ wsX7_pastToken RX7 := ⟨hx, hb, hml, hown, hts⟩
  have hS : va_S A s.heap s.heap [] := va_S.rf
  have lk15 := hts (.fieldLink RX7 15 "BranchPlay$Tape" "length" "I") (by decide +kernel)
  have inX7 : ∀ w ∈ wsX70, w ∈ wsX7_pastToken := by decide +kernel
  obtain ⟨hv0i0, hv0j0⟩ := hv0
  generalize hHe : s.heap = H at hP
  have hS : va_S A s.heap H [] := by rw [← hHe]; exact hS
  have hP : va_P D vwCl (((r0 0), .inr (7, [.ref (r0 1), .int (fi0 0)])) :: ((r0 1), .inl (ca 2, 600, .inl (fa0 0))) :: rest) H := hP
  have hD : va_D A (((r0 0), .inr (7, [.ref (r0 1), .int (fi0 0)])) :: ((r0 1), .inl (ca 2, 600, .inl (fa0 0))) :: rest) := hD
  have hl := lv_entry ([.ref (r0 0), .int p1]) (n := 3) (Nat.le_of_ble_eq_true rfl)
  rw [lg_entry_eq]
  generalize (lg_sl ([.ref (r0 0), .int p1]) ++ List.replicate (3 - (lg_sl ([.ref (r0 0), .int p1])).length) Slot.unset).toArray = ls at hl ⊢
  have hl : lv_has ls 3 [(0, .ref (r0 0)), (1, .int p1)] := hl
  generalize hQ9 : MQ below _ _ s 0 0 A = Q9
  refine lv_iload_n hx hb dX7_pastToken_0 rfl (lv_at hl 1 rfl) ?_
  refine lv_iconst (v := 1) hx hb dX7_pastToken_1 (by decide) ?_
  refine lv_iadd hx hb dX7_pastToken_2 ?_
  refine lv_topi (fun t1 et1 => ?_)
  try have ht1 : t1.toInt = p1.toInt + 1 := z_add et1 rfl (by decide) (by omega) (by omega)
  refine lv_istore_n (lv' := [(2, .int t1), (0, .ref (r0 0)), (1, .int p1)]) hx hb dX7_pastToken_3 rfl hl (by decide) rfl (fun ls hl => ?_)
  refine lv_aload_n hx hb dX7_pastToken_4 rfl (lv_at hl 1 rfl) ?_
  refine lv_iload_n hx hb dX7_pastToken_5 rfl (lv_at hl 2 rfl) ?_
  have ho2 : (0 ≤ (fi0 0).toInt ∧ (fi0 0).toInt ≤ 600) := ⟨by omega, by omega⟩
  have hp3 : 0 ≤ p1.toInt ∧ p1.toInt ≤ 599 := by omega
  refine z_iV (As := [.int p1]) (rest := []) hF (c_X7_isLetter l D ca sa A rest (zl 0 [(r0 0), (r0 1)]) (zl 0 [(fi0 0)]) (zl 0 []) (zl (fun _ => 0) [(fa0 0)]) (zl (fun _ => 0) []) ho2 p1 hp3) (cwV 1 hts gX7_pastToken_X7_isLetter rfl rfl rfl (by decide +kernel) ⟨Nat.le_of_ble_eq_true rfl, Nat.le_of_ble_eq_true rfl⟩) hE hP hD hS 7 0 rfl rfl rfl hl.1 rfl (Nat.le_of_ble_eq_true rfl) dX7_pastToken_6 ⟨Nat.zero_le _, Nat.zero_le _⟩ (fun t5 u4 H locs hw6 hP hD hS => ?_)
  have hw6 : (0 ≤ t5.toInt ∧ t5.toInt ≤ 1) := hw6
  obtain hq7 := hw6
  have hP : va_P D vwCl (((r0 0), .inr (7, [.ref (r0 1), .int (fi0 0)])) :: ((r0 1), .inl (ca 2, 600, .inl (fa0 0))) :: rest) H := hP
  have hD : va_D A (((r0 0), .inr (7, [.ref (r0 1), .int (fi0 0)])) :: ((r0 1), .inl (ca 2, 600, .inl (fa0 0))) :: rest) := hD
  have J12_8 : ∀ (n8 : Nat) (x2_8 : Int32) (H : Heap) (locs : List Loc) (hP : va_P D vwCl (((r0 0), .inr (7, [.ref (r0 1), .int (fi0 0)])) :: ((r0 1), .inl (ca 2, 600, .inl (fa0 0))) :: rest) H) (hD : va_D A (((r0 0), .inr (7, [.ref (r0 1), .int (fi0 0)])) :: ((r0 1), .inl (ca 2, 600, .inl (fa0 0))) :: rest)) (hS : va_S A s.heap H locs) (ls : Array Slot) (hl : lv_has ls 3 [(0, .ref (r0 0)), (2, .int x2_8)]) (hf8_0 : p1.toInt < x2_8.toInt ∧ x2_8.toInt ≤ 600), (601 - x2_8.toInt).toNat < n8 → W p l e (headSpec wsX7_pastToken ({ frames := 1, cells := 0, slots := 0, locals := 21 })).room s m ([.ref (r0 0), .int p1] : List Value).toArray below meth c H locs 0 0 Q9 (F0 m 12 ls []) := by
    intro n8
    induction n8 with
    | zero => intro x2_8 H locs hP hD hS ls hl hf8_0 hn9; exact absurd hn9 (Nat.not_lt_zero _)
    | succ n8 ih8 =>
      intro x2_8 H locs hP hD hS ls hl hf8_0 hn9
      refine lv_iload_n hx hb dX7_pastToken_12 rfl (lv_at hl 1 rfl) ?_
      refine lv_aload_n hx hb dX7_pastToken_13 rfl (lv_at hl 0 rfl) ?_
      refine va_get (D := D) (ci := 7) (v := .int (fi0 0)) (C := RX7) (T := TX7) (N := 2) hx hb hts inX7 hown hK hP 0 rfl rfl 1 (by decide) lk15 (fun _ h9 => h9) rfl dX7_pastToken_14 ?_
      refine lv_icmp_ge (tgt := 64) hx hb dX7_pastToken_17 (by decide) (fun c9 => ?_) (fun c9 => ?_)
      ·
        have c9 := z_le (i := (fi0 0).toInt) (j := x2_8.toInt) rfl rfl c9
        refine lv_iload_n hx hb dX7_pastToken_64 rfl (lv_at hl 1 rfl) ?_
        subst hQ9
        have hq10 : p1.toInt < x2_8.toInt ∧ x2_8.toInt ≤ 600 := by omega
        exact W.iret (v := x2_8) hx hb hr (fun t ht hW => ⟨⟨x2_8, (), rfl, hq10, ⟨by rw [ht]; exact hP, hD⟩⟩, hS.F ht⟩) hS.2.2 dX7_pastToken_65
      ·
        have c9 := z_nle (i := (fi0 0).toInt) (j := x2_8.toInt) rfl rfl c9
        refine lv_aload_n hx hb dX7_pastToken_20 rfl (lv_at hl 0 rfl) ?_
        refine lv_iload_n hx hb dX7_pastToken_21 rfl (lv_at hl 1 rfl) ?_
        have ho11 : (0 ≤ (fi0 0).toInt ∧ (fi0 0).toInt ≤ 600) := ⟨by omega, by omega⟩
        have hp12 : 0 ≤ x2_8.toInt ∧ x2_8.toInt ≤ 599 := by omega
        refine z_iV (As := [.int x2_8]) (rest := []) hF (c_X7_isLetter l D ca sa A rest (zl 0 [(r0 0), (r0 1)]) (zl 0 [(fi0 0)]) (zl 0 []) (zl (fun _ => 0) [(fa0 0)]) (zl (fun _ => 0) []) ho11 x2_8 hp12) (cwV 1 hts gX7_pastToken_X7_isLetter rfl rfl rfl (by decide +kernel) ⟨Nat.le_of_ble_eq_true rfl, Nat.le_of_ble_eq_true rfl⟩) hE hP hD hS 7 0 rfl rfl rfl hl.1 rfl (Nat.le_of_ble_eq_true rfl) dX7_pastToken_22 ⟨Nat.zero_le _, Nat.zero_le _⟩ (fun t14 u13 H locs hw15 hP hD hS => ?_)
        have hw15 : (0 ≤ t14.toInt ∧ t14.toInt ≤ 1) := hw15
        obtain hq16 := hw15
        have hP : va_P D vwCl (((r0 0), .inr (7, [.ref (r0 1), .int (fi0 0)])) :: ((r0 1), .inl (ca 2, 600, .inl (fa0 0))) :: rest) H := hP
        have hD : va_D A (((r0 0), .inr (7, [.ref (r0 1), .int (fi0 0)])) :: ((r0 1), .inl (ca 2, 600, .inl (fa0 0))) :: rest) := hD
        refine lv_if_eq (tgt := 64) hx hb dX7_pastToken_25 (by decide) (fun c17 => ?_) (fun c17 => ?_)
        ·
          have c17 := z_eq (i := t14.toInt) (j := 0) rfl (by decide) c17
          refine lv_iload_n hx hb dX7_pastToken_64 rfl (lv_at hl 1 rfl) ?_
          subst hQ9
          have hq18 : p1.toInt < x2_8.toInt ∧ x2_8.toInt ≤ 600 := by omega
          exact W.iret (v := x2_8) hx hb hr (fun t ht hW => ⟨⟨x2_8, (), rfl, hq18, ⟨by rw [ht]; exact hP, hD⟩⟩, hS.F ht⟩) hS.2.2 dX7_pastToken_65
        ·
          have c17 := z_ne (i := t14.toInt) (j := 0) rfl (by decide) c17
          obtain ⟨t19, et19⟩ : ∃ y : Int32, y = x2_8 + 1 := ⟨_, rfl⟩
          try have ht19 : t19.toInt = x2_8.toInt + 1 := z_add et19 rfl (by decide) (by omega) (by omega)
          refine lv_iinc (v := t19) (lv' := [(2, .int t19), (0, .ref (r0 0))]) hx hb dX7_pastToken_28 hl (k := 1) rfl (by rw [et19]; rfl) (by decide) rfl (fun ls hl => ?_)
          refine lv_goto (tgt := 12) hx hb dX7_pastToken_31 (by decide) ?_
          have hj20 : p1.toInt < t19.toInt ∧ t19.toInt ≤ 600 := by omega
          have hm21 : (601 - t19.toInt).toNat < n8 := by omega
          exact ih8 t19 _ _ hP hD hS ls (lv_sub hl [1, 0] rfl) hj20 hm21
  refine lv_if_eq (tgt := 34) hx hb dX7_pastToken_9 (by decide) (fun c22 => ?_) (fun c22 => ?_)
  ·
    have c22 := z_eq (i := t5.toInt) (j := 0) rfl (by decide) c22
    refine lv_aload_n hx hb dX7_pastToken_34 rfl (lv_at hl 1 rfl) ?_
    refine lv_iload_n hx hb dX7_pastToken_35 rfl (lv_at hl 2 rfl) ?_
    have ho23 : (0 ≤ (fi0 0).toInt ∧ (fi0 0).toInt ≤ 600) := ⟨by omega, by omega⟩
    have hp24 : 0 ≤ p1.toInt ∧ p1.toInt ≤ 599 := by omega
    refine z_iV (As := [.int p1]) (rest := []) hF (c_X7_isDigit l D ca sa A rest (zl 0 [(r0 0), (r0 1)]) (zl 0 [(fi0 0)]) (zl 0 []) (zl (fun _ => 0) [(fa0 0)]) (zl (fun _ => 0) []) ho23 p1 hp24) (cwV 1 hts gX7_pastToken_X7_isDigit rfl rfl rfl (by decide +kernel) ⟨Nat.le_of_ble_eq_true rfl, Nat.le_of_ble_eq_true rfl⟩) hE hP hD hS 7 0 rfl rfl rfl hl.1 rfl (Nat.le_of_ble_eq_true rfl) dX7_pastToken_36 ⟨Nat.zero_le _, Nat.zero_le _⟩ (fun t26 u25 H locs hw27 hP hD hS => ?_)
    have hw27 : (0 ≤ t26.toInt ∧ t26.toInt ≤ 1) := hw27
    obtain hq28 := hw27
    have hP : va_P D vwCl (((r0 0), .inr (7, [.ref (r0 1), .int (fi0 0)])) :: ((r0 1), .inl (ca 2, 600, .inl (fa0 0))) :: rest) H := hP
    have hD : va_D A (((r0 0), .inr (7, [.ref (r0 1), .int (fi0 0)])) :: ((r0 1), .inl (ca 2, 600, .inl (fa0 0))) :: rest) := hD
    have J42_29 : ∀ (n29 : Nat) (x2_29 : Int32) (H : Heap) (locs : List Loc) (hP : va_P D vwCl (((r0 0), .inr (7, [.ref (r0 1), .int (fi0 0)])) :: ((r0 1), .inl (ca 2, 600, .inl (fa0 0))) :: rest) H) (hD : va_D A (((r0 0), .inr (7, [.ref (r0 1), .int (fi0 0)])) :: ((r0 1), .inl (ca 2, 600, .inl (fa0 0))) :: rest)) (hS : va_S A s.heap H locs) (ls : Array Slot) (hl : lv_has ls 3 [(0, .ref (r0 0)), (2, .int x2_29)]) (hf29_0 : p1.toInt < x2_29.toInt ∧ x2_29.toInt ≤ 600), (601 - x2_29.toInt).toNat < n29 → W p l e (headSpec wsX7_pastToken ({ frames := 1, cells := 0, slots := 0, locals := 21 })).room s m ([.ref (r0 0), .int p1] : List Value).toArray below meth c H locs 0 0 Q9 (F0 m 42 ls []) := by
      intro n29
      induction n29 with
      | zero => intro x2_29 H locs hP hD hS ls hl hf29_0 hn9; exact absurd hn9 (Nat.not_lt_zero _)
      | succ n29 ih29 =>
        intro x2_29 H locs hP hD hS ls hl hf29_0 hn9
        refine lv_iload_n hx hb dX7_pastToken_42 rfl (lv_at hl 1 rfl) ?_
        refine lv_aload_n hx hb dX7_pastToken_43 rfl (lv_at hl 0 rfl) ?_
        refine va_get (D := D) (ci := 7) (v := .int (fi0 0)) (C := RX7) (T := TX7) (N := 2) hx hb hts inX7 hown hK hP 0 rfl rfl 1 (by decide) lk15 (fun _ h9 => h9) rfl dX7_pastToken_44 ?_
        refine lv_icmp_ge (tgt := 64) hx hb dX7_pastToken_47 (by decide) (fun c30 => ?_) (fun c30 => ?_)
        ·
          have c30 := z_le (i := (fi0 0).toInt) (j := x2_29.toInt) rfl rfl c30
          refine lv_iload_n hx hb dX7_pastToken_64 rfl (lv_at hl 1 rfl) ?_
          subst hQ9
          have hq31 : p1.toInt < x2_29.toInt ∧ x2_29.toInt ≤ 600 := by omega
          exact W.iret (v := x2_29) hx hb hr (fun t ht hW => ⟨⟨x2_29, (), rfl, hq31, ⟨by rw [ht]; exact hP, hD⟩⟩, hS.F ht⟩) hS.2.2 dX7_pastToken_65
        ·
          have c30 := z_nle (i := (fi0 0).toInt) (j := x2_29.toInt) rfl rfl c30
          refine lv_aload_n hx hb dX7_pastToken_50 rfl (lv_at hl 0 rfl) ?_
          refine lv_iload_n hx hb dX7_pastToken_51 rfl (lv_at hl 1 rfl) ?_
          have ho32 : (0 ≤ (fi0 0).toInt ∧ (fi0 0).toInt ≤ 600) := ⟨by omega, by omega⟩
          have hp33 : 0 ≤ x2_29.toInt ∧ x2_29.toInt ≤ 599 := by omega
          refine z_iV (As := [.int x2_29]) (rest := []) hF (c_X7_isDigit l D ca sa A rest (zl 0 [(r0 0), (r0 1)]) (zl 0 [(fi0 0)]) (zl 0 []) (zl (fun _ => 0) [(fa0 0)]) (zl (fun _ => 0) []) ho32 x2_29 hp33) (cwV 1 hts gX7_pastToken_X7_isDigit rfl rfl rfl (by decide +kernel) ⟨Nat.le_of_ble_eq_true rfl, Nat.le_of_ble_eq_true rfl⟩) hE hP hD hS 7 0 rfl rfl rfl hl.1 rfl (Nat.le_of_ble_eq_true rfl) dX7_pastToken_52 ⟨Nat.zero_le _, Nat.zero_le _⟩ (fun t35 u34 H locs hw36 hP hD hS => ?_)
          have hw36 : (0 ≤ t35.toInt ∧ t35.toInt ≤ 1) := hw36
          obtain hq37 := hw36
          have hP : va_P D vwCl (((r0 0), .inr (7, [.ref (r0 1), .int (fi0 0)])) :: ((r0 1), .inl (ca 2, 600, .inl (fa0 0))) :: rest) H := hP
          have hD : va_D A (((r0 0), .inr (7, [.ref (r0 1), .int (fi0 0)])) :: ((r0 1), .inl (ca 2, 600, .inl (fa0 0))) :: rest) := hD
          refine lv_if_eq (tgt := 64) hx hb dX7_pastToken_55 (by decide) (fun c38 => ?_) (fun c38 => ?_)
          ·
            have c38 := z_eq (i := t35.toInt) (j := 0) rfl (by decide) c38
            refine lv_iload_n hx hb dX7_pastToken_64 rfl (lv_at hl 1 rfl) ?_
            subst hQ9
            have hq39 : p1.toInt < x2_29.toInt ∧ x2_29.toInt ≤ 600 := by omega
            exact W.iret (v := x2_29) hx hb hr (fun t ht hW => ⟨⟨x2_29, (), rfl, hq39, ⟨by rw [ht]; exact hP, hD⟩⟩, hS.F ht⟩) hS.2.2 dX7_pastToken_65
          ·
            have c38 := z_ne (i := t35.toInt) (j := 0) rfl (by decide) c38
            obtain ⟨t40, et40⟩ : ∃ y : Int32, y = x2_29 + 1 := ⟨_, rfl⟩
            try have ht40 : t40.toInt = x2_29.toInt + 1 := z_add et40 rfl (by decide) (by omega) (by omega)
            refine lv_iinc (v := t40) (lv' := [(2, .int t40), (0, .ref (r0 0))]) hx hb dX7_pastToken_58 hl (k := 1) rfl (by rw [et40]; rfl) (by decide) rfl (fun ls hl => ?_)
            refine lv_goto (tgt := 42) hx hb dX7_pastToken_61 (by decide) ?_
            have hj41 : p1.toInt < t40.toInt ∧ t40.toInt ≤ 600 := by omega
            have hm42 : (601 - t40.toInt).toNat < n29 := by omega
            exact ih29 t40 _ _ hP hD hS ls (lv_sub hl [1, 0] rfl) hj41 hm42
    refine lv_if_eq (tgt := 64) hx hb dX7_pastToken_39 (by decide) (fun c43 => ?_) (fun c43 => ?_)
    ·
      have c43 := z_eq (i := t26.toInt) (j := 0) rfl (by decide) c43
      refine lv_iload_n hx hb dX7_pastToken_64 rfl (lv_at hl 0 rfl) ?_
      subst hQ9
      have hq44 : p1.toInt < t1.toInt ∧ t1.toInt ≤ 600 := by omega
      exact W.iret (v := t1) hx hb hr (fun t ht hW => ⟨⟨t1, (), rfl, hq44, ⟨by rw [ht]; exact hP, hD⟩⟩, hS.F ht⟩) hS.2.2 dX7_pastToken_65
    ·
      have c43 := z_ne (i := t26.toInt) (j := 0) rfl (by decide) c43
      have hj45 : p1.toInt < t1.toInt ∧ t1.toInt ≤ 600 := by omega
      exact J42_29 ((601 - t1.toInt).toNat + 1) t1 _ _ hP hD hS ls (lv_sub hl [1, 0] rfl) hj45 (Nat.lt_succ_self _)
  ·
    have c22 := z_ne (i := t5.toInt) (j := 0) rfl (by decide) c22
    have hj46 : p1.toInt < t1.toInt ∧ t1.toInt ≤ 600 := by omega
    exact J12_8 ((601 - t1.toInt).toNat + 1) t1 _ _ hP hD hS ls (lv_sub hl [1, 0] rfl) hj46 (Nat.lt_succ_self _)

set_option maxHeartbeats 8000000 in
set_option maxRecDepth 100000 in
theorem c_X7_numberAt (l : Launch) (D : va_G) (ca : Nat → ClassId) (sa : Nat → Nat) (A : Nat → Prop) (rest : va_W) (r0 : Nat → Nat) (fi0 : Nat → Int32) (fl0 : Nat → Int64) (fa0 : Nat → Nat → Int32) (fb0 : Nat → Nat → Int64) (hv0 : Ok_TAPE fi0 fa0) (p1 : Int32) (p2 : Int32) (hpre0 : 0 ≤ p1.toInt ∧ p1.toInt ≤ 599) (hpre1 : p2.toInt ≤ 600) : Met l yX7_numberAt wsX7_numberAt ({ frames := 1, cells := 0, slots := 0, locals := 21 }) (va_Pc [.ref (r0 0), .int p1, .int p2] (zPre D ca sa A (w_TAPE ca r0 fi0 fl0 fa0 fb0 (rest)))) (va_Qi (fun (r : Int32) (u : Unit) => True) (fun u t => zPost D A (w_TAPE ca r0 fi0 fl0 fa0 fb0 (rest)) t) A) 0 0 A := by
  refine Met.ofW (cc := cX7_numberAt) (maxL := 5) (ret := (some .int)) (by decide) rfl ?_
  intro p e s m args below meth c s₁ B hml hv9
  obtain ⟨rfl, hE, hP, hD⟩ := hv9
  have hx := B.exec
  have hb := B.bytes
  have hr := B.returns
  have hts := atoms_spec (ws := wsX7_numberAt) B.pre
  have hown : s.vm.findClass RX7 = some m.cls := findClass_of_methodNamed B.named
  have hlocks := B.notSynchronized
  have hK := hE.1
  have hF : CallFix p m c cX7_numberAt 5 s _ wsX7_numberAt RX7 := ⟨hx, hb, hml, hown, hts⟩
  have hS : va_S A s.heap s.heap [] := va_S.rf
  have lk11 := hts (.fieldLink RX7 11 "BranchPlay$Tape" "bytes" "[B") (by decide +kernel)
  have inX7 : ∀ w ∈ wsX70, w ∈ wsX7_numberAt := by decide +kernel
  obtain ⟨hv0i0, hv0j0⟩ := hv0
  generalize hHe : s.heap = H at hP
  have hS : va_S A s.heap H [] := by rw [← hHe]; exact hS
  have hP : va_P D vwCl (((r0 0), .inr (7, [.ref (r0 1), .int (fi0 0)])) :: ((r0 1), .inl (ca 2, 600, .inl (fa0 0))) :: rest) H := hP
  have hD : va_D A (((r0 0), .inr (7, [.ref (r0 1), .int (fi0 0)])) :: ((r0 1), .inl (ca 2, 600, .inl (fa0 0))) :: rest) := hD
  have hl := lv_entry ([.ref (r0 0), .int p1, .int p2]) (n := 5) (Nat.le_of_ble_eq_true rfl)
  rw [lg_entry_eq]
  generalize (lg_sl ([.ref (r0 0), .int p1, .int p2]) ++ List.replicate (5 - (lg_sl ([.ref (r0 0), .int p1, .int p2])).length) Slot.unset).toArray = ls at hl ⊢
  have hl : lv_has ls 5 [(0, .ref (r0 0)), (1, .int p1), (2, .int p2)] := hl
  generalize hQ9 : MQ below _ _ s 0 0 A = Q9
  refine lv_aload_n hx hb dX7_numberAt_0 rfl (lv_at hl 0 rfl) ?_
  refine lv_iload_n hx hb dX7_numberAt_1 rfl (lv_at hl 1 rfl) ?_
  have ho1 : (0 ≤ (fi0 0).toInt ∧ (fi0 0).toInt ≤ 600) := ⟨by omega, by omega⟩
  have hp2 : 0 ≤ p1.toInt ∧ p1.toInt ≤ 599 := by omega
  refine z_iV (As := [.int p1]) (rest := []) hF (c_X7_isDigit l D ca sa A rest (zl 0 [(r0 0), (r0 1)]) (zl 0 [(fi0 0)]) (zl 0 []) (zl (fun _ => 0) [(fa0 0)]) (zl (fun _ => 0) []) ho1 p1 hp2) (cwV 1 hts gX7_numberAt_X7_isDigit rfl rfl rfl (by decide +kernel) ⟨Nat.le_of_ble_eq_true rfl, Nat.le_of_ble_eq_true rfl⟩) hE hP hD hS 7 0 rfl rfl rfl hl.1 rfl (Nat.le_of_ble_eq_true rfl) dX7_numberAt_2 ⟨Nat.zero_le _, Nat.zero_le _⟩ (fun t4 u3 H locs hw5 hP hD hS => ?_)
  have hw5 : (0 ≤ t4.toInt ∧ t4.toInt ≤ 1) := hw5
  obtain hq6 := hw5
  have hP : va_P D vwCl (((r0 0), .inr (7, [.ref (r0 1), .int (fi0 0)])) :: ((r0 1), .inl (ca 2, 600, .inl (fa0 0))) :: rest) H := hP
  have hD : va_D A (((r0 0), .inr (7, [.ref (r0 1), .int (fi0 0)])) :: ((r0 1), .inl (ca 2, 600, .inl (fa0 0))) :: rest) := hD
  refine lv_if_eq (tgt := 15) hx hb dX7_numberAt_5 (by decide) (fun c7 => ?_) (fun c7 => ?_)
  ·
    have c7 := z_eq (i := t4.toInt) (j := 0) rfl (by decide) c7
    refine lv_iconst (v := (-1)) hx hb dX7_numberAt_15 (by decide) ?_
    subst hQ9
    refine lv_topi (fun t8 et8 => ?_)
    have ht8 : t8.toInt = (-1) := by rw [et8]; decide
    exact W.iret (v := t8) hx hb hr (fun t ht hW => ⟨⟨t8, (), rfl, trivial, ⟨by rw [ht]; exact hP, hD⟩⟩, hS.F ht⟩) hS.2.2 dX7_numberAt_16
  ·
    have c7 := z_ne (i := t4.toInt) (j := 0) rfl (by decide) c7
    refine lv_iload_n hx hb dX7_numberAt_8 rfl (lv_at hl 2 rfl) ?_
    refine lv_iload_n hx hb dX7_numberAt_9 rfl (lv_at hl 1 rfl) ?_
    refine lv_isub hx hb dX7_numberAt_10 ?_
    refine lv_topi (fun t9 et9 => ?_)
    try have ht9 : t9.toInt = p2.toInt - p1.toInt := z_sub et9 rfl rfl (by omega) (by omega)
    refine lv_iconst (v := 3) hx hb dX7_numberAt_11 (by decide) ?_
    refine lv_icmp_le (tgt := 17) hx hb dX7_numberAt_12 (by decide) (fun c10 => ?_) (fun c10 => ?_)
    ·
      have c10 := z_le (i := t9.toInt) (j := 3) rfl (by decide) c10
      refine lv_iconst (v := 0) hx hb dX7_numberAt_17 (by decide) ?_
      refine lv_topi (fun t11 et11 => ?_)
      have ht11 : t11.toInt = 0 := by rw [et11]; decide
      refine lv_istore_n (lv' := [(3, .int t11), (0, .ref (r0 0)), (1, .int p1), (2, .int p2)]) hx hb dX7_numberAt_18 rfl hl (by decide) rfl (fun ls hl => ?_)
      refine lv_iload_n hx hb dX7_numberAt_19 rfl (lv_at hl 2 rfl) ?_
      refine lv_istore (lv' := [(4, .int p1), (3, .int t11), (0, .ref (r0 0)), (1, .int p1), (2, .int p2)]) hx hb dX7_numberAt_20 hl (by decide) rfl (fun ls hl => ?_)
      have J22_12 : ∀ (n12 : Nat) (x3_12 : Int32) (x4_12 : Int32) (ls : Array Slot) (hl : lv_has ls 5 [(0, .ref (r0 0)), (2, .int p2), (3, .int x3_12), (4, .int x4_12)]) (hf12_0 : 0 ≤ x4_12.toInt ∧ x4_12.toInt ≤ 600), (601 - x4_12.toInt).toNat < n12 → W p l e (headSpec wsX7_numberAt ({ frames := 1, cells := 0, slots := 0, locals := 21 })).room s m ([.ref (r0 0), .int p1, .int p2] : List Value).toArray below meth c H locs 0 0 Q9 (F0 m 22 ls []) := by
        intro n12
        induction n12 with
        | zero => intro x3_12 x4_12 ls hl hf12_0 hn9; exact absurd hn9 (Nat.not_lt_zero _)
        | succ n12 ih12 =>
          intro x3_12 x4_12 ls hl hf12_0 hn9
          refine lv_iload hx hb dX7_numberAt_22 (lv_at hl 3 rfl) ?_
          refine lv_iload_n hx hb dX7_numberAt_24 rfl (lv_at hl 1 rfl) ?_
          refine lv_icmp_ge (tgt := 50) hx hb dX7_numberAt_25 (by decide) (fun c13 => ?_) (fun c13 => ?_)
          ·
            have c13 := z_le (i := p2.toInt) (j := x4_12.toInt) rfl rfl c13
            refine lv_iload_n hx hb dX7_numberAt_50 rfl (lv_at hl 2 rfl) ?_
            subst hQ9
            exact W.iret (v := x3_12) hx hb hr (fun t ht hW => ⟨⟨x3_12, (), rfl, trivial, ⟨by rw [ht]; exact hP, hD⟩⟩, hS.F ht⟩) hS.2.2 dX7_numberAt_51
          ·
            have c13 := z_nle (i := p2.toInt) (j := x4_12.toInt) rfl rfl c13
            refine lv_iload_n hx hb dX7_numberAt_28 rfl (lv_at hl 2 rfl) ?_
            refine lv_bipush (v := 10) hx hb dX7_numberAt_29 (by decide) ?_
            refine lv_imul hx hb dX7_numberAt_31 ?_
            refine lv_topi (fun t14 et14 => ?_)
            try have ht14 : t14.toInt = x3_12.toInt * 10 := z_mul et14 rfl (by decide) (by omega) (by omega)
            refine lv_aload_n hx hb dX7_numberAt_32 rfl (lv_at hl 0 rfl) ?_
            refine va_get (D := D) (ci := 7) (v := .ref (r0 1)) (C := RX7) (T := TX7) (N := 2) hx hb hts inX7 hown hK hP 0 rfl rfl 0 (by decide) lk11 (fun _ h9 => h9) rfl dX7_numberAt_33 ?_
            refine lv_iload hx hb dX7_numberAt_36 (lv_at hl 3 rfl) ?_
            have hi15 : vp_in x4_12 600 := z_in (i := x4_12.toInt) rfl (by omega) (by omega)
            refine va_bald hx hb hK hP 1 2 rfl rfl hi15 dX7_numberAt_38 ?_
            refine lv_topi (fun t16 et16 => ?_)
            refine lv_iadd hx hb dX7_numberAt_39 ?_
            refine lv_topi (fun t17 et17 => ?_)
            try have ht17 : t17.toInt = t14.toInt + t16.toInt := z_add et17 rfl rfl (by omega) (by omega)
            refine lv_bipush (v := 48) hx hb dX7_numberAt_40 (by decide) ?_
            refine lv_isub hx hb dX7_numberAt_42 ?_
            refine lv_topi (fun t18 et18 => ?_)
            try have ht18 : t18.toInt = t17.toInt - 48 := z_sub et18 rfl (by decide) (by omega) (by omega)
            refine lv_istore_n (lv' := [(3, .int t18), (0, .ref (r0 0)), (2, .int p2), (4, .int x4_12)]) hx hb dX7_numberAt_43 rfl hl (by decide) rfl (fun ls hl => ?_)
            obtain ⟨t19, et19⟩ : ∃ y : Int32, y = x4_12 + 1 := ⟨_, rfl⟩
            try have ht19 : t19.toInt = x4_12.toInt + 1 := z_add et19 rfl (by decide) (by omega) (by omega)
            refine lv_iinc (v := t19) (lv' := [(4, .int t19), (3, .int t18), (0, .ref (r0 0)), (2, .int p2)]) hx hb dX7_numberAt_44 hl (k := 3) rfl (by rw [et19]; rfl) (by decide) rfl (fun ls hl => ?_)
            refine lv_goto (tgt := 22) hx hb dX7_numberAt_47 (by decide) ?_
            have hj20 : 0 ≤ t19.toInt ∧ t19.toInt ≤ 600 := by omega
            have hm21 : (601 - t19.toInt).toNat < n12 := by omega
            exact ih12 t18 t19 ls (lv_sub hl [2, 3, 1, 0] rfl) hj20 hm21
      have hj22 : 0 ≤ p1.toInt ∧ p1.toInt ≤ 600 := by omega
      exact J22_12 ((601 - p1.toInt).toNat + 1) t11 p1 ls (lv_sub hl [2, 4, 1, 0] rfl) hj22 (Nat.lt_succ_self _)
    ·
      have c10 := z_nle (i := t9.toInt) (j := 3) rfl (by decide) c10
      refine lv_iconst (v := (-1)) hx hb dX7_numberAt_15 (by decide) ?_
      subst hQ9
      refine lv_topi (fun t23 et23 => ?_)
      have ht23 : t23.toInt = (-1) := by rw [et23]; decide
      exact W.iret (v := t23) hx hb hr (fun t ht hW => ⟨⟨t23, (), rfl, trivial, ⟨by rw [ht]; exact hP, hD⟩⟩, hS.F ht⟩) hS.2.2 dX7_numberAt_16

theorem z_least (j : Nat) : 0 ≤ (([2, 1, 0, 1, 0, 0, 1] : List Int32).getD j 0).toInt ∧ (([2, 1, 0, 1, 0, 0, 1] : List Int32).getD j 0).toInt ≤ 2 := by
  rcases (show j < 7 ∨ 7 ≤ j by omega) with h | h
  · rcases (show j = 0 ∨ j = 1 ∨ j = 2 ∨ j = 3 ∨ j = 4 ∨ j = 5 ∨ j = 6 by omega) with rfl | rfl | rfl | rfl | rfl | rfl | rfl <;> decide
  · rw [List.getD_eq_getElem?_getD, List.getElem?_eq_none (by simpa using h)]; decide
theorem z_most (j : Nat) : 0 ≤ (([100, 50, 50, 9, 50, 9, 50] : List Int32).getD j 0).toInt ∧ (([100, 50, 50, 9, 50, 9, 50] : List Int32).getD j 0).toInt ≤ 100 := by
  rcases (show j < 7 ∨ 7 ≤ j by omega) with h | h
  · rcases (show j = 0 ∨ j = 1 ∨ j = 2 ∨ j = 3 ∨ j = 4 ∨ j = 5 ∨ j = 6 by omega) with rfl | rfl | rfl | rfl | rfl | rfl | rfl <;> decide
  · rw [List.getD_eq_getElem?_getD, List.getElem?_eq_none (by simpa using h)]; decide

set_option maxHeartbeats 8000000 in
set_option maxRecDepth 100000 in
theorem c_X8_isWithinBounds (l : Launch) (D : va_G) (ca : Nat → ClassId) (sa : Nat → Nat) (A : Nat → Prop) (rest : va_W) (p0 : Int32) (p1 : Int32) (hpre0 : 0 ≤ p0.toInt ∧ p0.toInt ≤ 6) : Met l yX8_isWithinBounds wsX8_isWithinBounds ({ frames := 0, cells := 0, slots := 0, locals := 0 }) (va_Pc [.int p0, .int p1] (zPre D ca sa A (rest))) (va_Qi (fun (r : Int32) (u : Unit) => ((r.toInt = 1 ∧ 0 ≤ p1.toInt ∧ p1.toInt ≤ 100) ∨ r.toInt = 0)) (fun u t => zPost D A (rest) t) A) 0 0 A := by
  refine Met.ofW (cc := cX8_isWithinBounds) (maxL := 2) (ret := (some .boolean)) (by decide) rfl ?_
  intro p e s m args below meth c s₁ B hml hv9
  obtain ⟨rfl, hE, hP, hD⟩ := hv9
  have hx := B.exec
  have hb := B.bytes
  have hr := B.returns
  have hts := atoms_spec (ws := wsX8_isWithinBounds) B.pre
  have hown : s.vm.findClass RX8 = some m.cls := findClass_of_methodNamed B.named
  have hlocks := B.notSynchronized
  have hK := hE.1
  have hF : CallFix p m c cX8_isWithinBounds 2 s _ wsX8_isWithinBounds RX8 := ⟨hx, hb, hml, hown, hts⟩
  have hS : va_S A s.heap s.heap [] := va_S.rf
  have lk194 := hts (.fieldLink RX8 194 "BranchPlay" "LEAST" "[I") (by decide +kernel)
  have lk197 := hts (.fieldLink RX8 197 "BranchPlay" "MOST" "[I") (by decide +kernel)
  generalize hHe : s.heap = H at hP
  have hS : va_S A s.heap H [] := by rw [← hHe]; exact hS
  have hl := lv_entry ([.int p0, .int p1]) (n := 2) (Nat.le_of_ble_eq_true rfl)
  rw [lg_entry_eq]
  generalize (lg_sl ([.int p0, .int p1]) ++ List.replicate (2 - (lg_sl ([.int p0, .int p1])).length) Slot.unset).toArray = ls at hl ⊢
  have hl : lv_has ls 2 [(0, .int p0), (1, .int p1)] := hl
  generalize hQ9 : MQ below _ _ s 0 0 A = Q9
  refine lv_iload_n hx hb dX8_isWithinBounds_0 rfl (lv_at hl 1 rfl) ?_
  refine va_gets hx hb hE.2.2.1.2.1.1 hS hown lk194 (fun _ h9 => h9) dX8_isWithinBounds_1 ?_
  refine lv_iload_n hx hb dX8_isWithinBounds_4 rfl (lv_at hl 0 rfl) ?_
  have hi1 : vp_in p0 7 := z_in (i := p0.toInt) rfl (by omega) (by omega)
  refine va_ti hx hb hE.2.2.1.2.1.2 hS hi1 rfl dX8_isWithinBounds_5 ?_
  refine lv_topi (fun t2 et2 => ?_)
  have ht2 := z_least p0.toNatClampNeg
  rw [← et2] at ht2
  refine lv_icmp_lt (tgt := 22) hx hb dX8_isWithinBounds_6 (by decide) (fun c3 => ?_) (fun c3 => ?_)
  ·
    have c3 := z_lt (i := p1.toInt) (j := t2.toInt) rfl rfl c3
    refine lv_iconst (v := 0) hx hb dX8_isWithinBounds_22 (by decide) ?_
    subst hQ9
    refine lv_topi (fun t4 et4 => ?_)
    have ht4 : t4.toInt = 0 := by rw [et4]; decide
    have hq5 : (t4.toInt = 1 ∧ 0 ≤ p1.toInt ∧ p1.toInt ≤ 100) ∨ t4.toInt = 0 := by omega
    have hz6 : narrow .boolean (.int t4) = .int t4 := z_nz (by constructor <;> omega)
    exact W.zret (v := t4) hx hb hr hz6 (fun t ht hW => ⟨⟨t4, (), rfl, hq5, ⟨by rw [ht]; exact hP, hD⟩⟩, hS.F ht⟩) hS.2.2 dX8_isWithinBounds_23
  ·
    have c3 := z_nlt (i := p1.toInt) (j := t2.toInt) rfl rfl c3
    refine lv_iload_n hx hb dX8_isWithinBounds_9 rfl (lv_at hl 1 rfl) ?_
    refine va_gets hx hb hE.2.2.1.2.2.1.1 hS hown lk197 (fun _ h9 => h9) dX8_isWithinBounds_10 ?_
    refine lv_iload_n hx hb dX8_isWithinBounds_13 rfl (lv_at hl 0 rfl) ?_
    have hi7 : vp_in p0 7 := z_in (i := p0.toInt) rfl (by omega) (by omega)
    refine va_ti hx hb hE.2.2.1.2.2.1.2 hS hi7 rfl dX8_isWithinBounds_14 ?_
    refine lv_topi (fun t8 et8 => ?_)
    have ht8 := z_most p0.toNatClampNeg
    rw [← et8] at ht8
    refine lv_icmp_gt (tgt := 22) hx hb dX8_isWithinBounds_15 (by decide) (fun c9 => ?_) (fun c9 => ?_)
    ·
      have c9 := z_lt (i := t8.toInt) (j := p1.toInt) rfl rfl c9
      refine lv_iconst (v := 0) hx hb dX8_isWithinBounds_22 (by decide) ?_
      subst hQ9
      refine lv_topi (fun t10 et10 => ?_)
      have ht10 : t10.toInt = 0 := by rw [et10]; decide
      have hq11 : (t10.toInt = 1 ∧ 0 ≤ p1.toInt ∧ p1.toInt ≤ 100) ∨ t10.toInt = 0 := by omega
      have hz12 : narrow .boolean (.int t10) = .int t10 := z_nz (by constructor <;> omega)
      exact W.zret (v := t10) hx hb hr hz12 (fun t ht hW => ⟨⟨t10, (), rfl, hq11, ⟨by rw [ht]; exact hP, hD⟩⟩, hS.F ht⟩) hS.2.2 dX8_isWithinBounds_23
    ·
      have c9 := z_nlt (i := t8.toInt) (j := p1.toInt) rfl rfl c9
      refine lv_iconst (v := 1) hx hb dX8_isWithinBounds_18 (by decide) ?_
      refine lv_goto (tgt := 23) hx hb dX8_isWithinBounds_19 (by decide) ?_
      subst hQ9
      refine lv_topi (fun t13 et13 => ?_)
      have ht13 : t13.toInt = 1 := by rw [et13]; decide
      have hq14 : (t13.toInt = 1 ∧ 0 ≤ p1.toInt ∧ p1.toInt ≤ 100) ∨ t13.toInt = 0 := by omega
      have hz15 : narrow .boolean (.int t13) = .int t13 := z_nz (by constructor <;> omega)
      exact W.zret (v := t13) hx hb hr hz15 (fun t ht hW => ⟨⟨t13, (), rfl, hq14, ⟨by rw [ht]; exact hP, hD⟩⟩, hS.F ht⟩) hS.2.2 dX8_isWithinBounds_23
