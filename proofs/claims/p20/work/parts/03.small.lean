def w_LINE (ca : Nat → ClassId) (r : Nat → Nat) (fi : Nat → Int32) (fl : Nat → Int64) (fa : Nat → Nat → Int32) (fb : Nat → Nat → Int64) (tl : va_W) : va_W := ((r 0), .inr (2, [.ref (r 1), .int (fi 0)])) :: ((r 1), .inl (ca 0, 60, .inl (fa 0))) :: tl
def Ok_LINE (fi : Nat → Int32) (fa : Nat → Nat → Int32) : Prop := (0 ≤ (fi 0).toInt ∧ (fi 0).toInt ≤ 60) ∧ z_rng 0 59 (fa 0)

def w_AGD (ca : Nat → ClassId) (r : Nat → Nat) (fi : Nat → Int32) (fl : Nat → Int64) (fa : Nat → Nat → Int32) (fb : Nat → Nat → Int64) (tl : va_W) : va_W := ((r 0), .inr (0, [.ref (r 1)])) :: ((r 1), .inl (ca 1, 400, .inr (.inl (fb 0)))) :: tl
def Ok_AGD (fi : Nat → Int32) (fa : Nat → Nat → Int32) : Prop := True

def w_LOG (ca : Nat → ClassId) (r : Nat → Nat) (fi : Nat → Int32) (fl : Nat → Int64) (fa : Nat → Nat → Int32) (fb : Nat → Nat → Int64) (tl : va_W) : va_W := ((r 0), .inr (3, [.ref (r 1), .ref (r 2), .ref (r 3), .ref (r 4), .int (fi 0)])) :: ((r 1), .inl (ca 0, 259, .inl (fa 0))) :: ((r 2), .inl (ca 3, 259, .inl (fa 1))) :: ((r 3), .inl (ca 0, 259, .inl (fa 2))) :: ((r 4), .inl (ca 1, 259, .inr (.inl (fb 0)))) :: tl
def Ok_LOG (fi : Nat → Int32) (fa : Nat → Nat → Int32) : Prop := (0 ≤ (fi 0).toInt ∧ (fi 0).toInt ≤ 259)

set_option maxHeartbeats 8000000 in
set_option maxRecDepth 100000 in
theorem c_X8_isIn (l : Launch) (D : va_G) (ca : Nat → ClassId) (sa : Nat → Nat) (A : Nat → Prop) (rest : va_W) (p0 : Int64) (p2 : Int32) : Met l yX8_isIn wsX8_isIn ({ frames := 0, cells := 0, slots := 0, locals := 0 }) (va_Pc [.long p0, .int p2] (zPre D ca sa A (rest))) (va_Qi (fun (r : Int32) (u : Unit) => (0 ≤ r.toInt ∧ r.toInt ≤ 1)) (fun u t => zPost D A (rest) t) A) 0 0 A := by
  refine Met.ofW (cc := cX8_isIn) (maxL := 3) (ret := (some .boolean)) (by decide) rfl ?_
  intro p e s m args below meth c s₁ B hml hv9
  obtain ⟨rfl, hE, hP, hD⟩ := hv9
  have hx := B.exec
  have hb := B.bytes
  have hr := B.returns
  have hts := atoms_spec (ws := wsX8_isIn) B.pre
  have hown : s.vm.findClass RX8 = some m.cls := findClass_of_methodNamed B.named
  have hlocks := B.notSynchronized
  have hK := hE.1
  have hF : CallFix p m c cX8_isIn 3 s _ wsX8_isIn RX8 := ⟨hx, hb, hml, hown, hts⟩
  have hS : va_S A s.heap s.heap [] := va_S.rf
  generalize hHe : s.heap = H at hP
  have hS : va_S A s.heap H [] := by rw [← hHe]; exact hS
  have hl := lv_entry ([.long p0, .int p2]) (n := 3) (Nat.le_of_ble_eq_true rfl)
  rw [lg_entry_eq]
  generalize (lg_sl ([.long p0, .int p2]) ++ List.replicate (3 - (lg_sl ([.long p0, .int p2])).length) Slot.unset).toArray = ls at hl ⊢
  have hl : lv_has ls 3 [(0, .long p0), (2, .int p2)] := hl
  generalize hQ9 : MQ below _ _ s 0 0 A = Q9
  refine lv_lload_n hx hb dX8_isIn_0 rfl (lv_at hl 0 rfl) ?_
  refine lv_iload_n hx hb dX8_isIn_1 rfl (lv_at hl 1 rfl) ?_
  refine lv_lushr hx hb dX8_isIn_2 rfl ?_
  refine lv_topl (fun t1 et1 => ?_)
  refine lv_lconst (v := 1) hx hb dX8_isIn_3 (by decide) ?_
  refine lv_land hx hb dX8_isIn_4 ?_
  refine lv_topl (fun t2 et2 => ?_)
  refine lv_lconst (v := 0) hx hb dX8_isIn_5 (by decide) ?_
  refine W.lcmp hx hb dX8_isIn_6 ?_
  refine lv_topi (fun t3 et3 => ?_)
  refine lv_if_eq (tgt := 14) hx hb dX8_isIn_7 (by decide) (fun c4 => ?_) (fun c4 => ?_)
  ·
    have c4 := z_eq (i := t3.toInt) (j := 0) rfl (by decide) c4
    refine lv_iconst (v := 0) hx hb dX8_isIn_14 (by decide) ?_
    subst hQ9
    refine lv_topi (fun t5 et5 => ?_)
    have ht5 : t5.toInt = 0 := by rw [et5]; decide
    have hq6 : 0 ≤ t5.toInt ∧ t5.toInt ≤ 1 := by omega
    have hz7 : narrow .boolean (.int t5) = .int t5 := z_nz (by constructor <;> omega)
    exact W.zret (v := t5) hx hb hr hz7 (fun t ht hW => ⟨⟨t5, (), rfl, hq6, ⟨by rw [ht]; exact hP, hD⟩⟩, hS.F ht⟩) hS.2.2 dX8_isIn_15
  ·
    have c4 := z_ne (i := t3.toInt) (j := 0) rfl (by decide) c4
    refine lv_iconst (v := 1) hx hb dX8_isIn_10 (by decide) ?_
    refine lv_goto (tgt := 15) hx hb dX8_isIn_11 (by decide) ?_
    subst hQ9
    refine lv_topi (fun t8 et8 => ?_)
    have ht8 : t8.toInt = 1 := by rw [et8]; decide
    have hq9 : 0 ≤ t8.toInt ∧ t8.toInt ≤ 1 := by omega
    have hz10 : narrow .boolean (.int t8) = .int t8 := z_nz (by constructor <;> omega)
    exact W.zret (v := t8) hx hb hr hz10 (fun t ht hW => ⟨⟨t8, (), rfl, hq9, ⟨by rw [ht]; exact hP, hD⟩⟩, hS.F ht⟩) hS.2.2 dX8_isIn_15

set_option maxHeartbeats 8000000 in
set_option maxRecDepth 100000 in
theorem c_X8_only (l : Launch) (D : va_G) (ca : Nat → ClassId) (sa : Nat → Nat) (A : Nat → Prop) (rest : va_W) (p0 : Int32) : Met l yX8_only wsX8_only ({ frames := 0, cells := 0, slots := 0, locals := 0 }) (va_Pc [.int p0] (zPre D ca sa A (rest))) (va_Ql (fun (r : Int64) (u : Unit) => True) (fun u t => zPost D A (rest) t) A) 0 0 A := by
  refine Met.ofW (cc := cX8_only) (maxL := 1) (ret := (some .long)) (by decide) rfl ?_
  intro p e s m args below meth c s₁ B hml hv9
  obtain ⟨rfl, hE, hP, hD⟩ := hv9
  have hx := B.exec
  have hb := B.bytes
  have hr := B.returns
  have hts := atoms_spec (ws := wsX8_only) B.pre
  have hown : s.vm.findClass RX8 = some m.cls := findClass_of_methodNamed B.named
  have hlocks := B.notSynchronized
  have hK := hE.1
  have hF : CallFix p m c cX8_only 1 s _ wsX8_only RX8 := ⟨hx, hb, hml, hown, hts⟩
  have hS : va_S A s.heap s.heap [] := va_S.rf
  generalize hHe : s.heap = H at hP
  have hS : va_S A s.heap H [] := by rw [← hHe]; exact hS
  have hl := lv_entry ([.int p0]) (n := 1) (Nat.le_of_ble_eq_true rfl)
  rw [lg_entry_eq]
  generalize (lg_sl ([.int p0]) ++ List.replicate (1 - (lg_sl ([.int p0])).length) Slot.unset).toArray = ls at hl ⊢
  have hl : lv_has ls 1 [(0, .int p0)] := hl
  generalize hQ9 : MQ below _ _ s 0 0 A = Q9
  refine lv_lconst (v := 1) hx hb dX8_only_0 (by decide) ?_
  refine lv_iload_n hx hb dX8_only_1 rfl (lv_at hl 0 rfl) ?_
  refine lv_lshl hx hb dX8_only_2 rfl ?_
  refine lv_topl (fun t1 et1 => ?_)
  subst hQ9
  exact W.lret (v := t1) hx hb hr (fun t ht hW => ⟨⟨t1, (), rfl, trivial, ⟨by rw [ht]; exact hP, hD⟩⟩, hS.F ht⟩) hS.2.2 dX8_only_3

set_option maxHeartbeats 8000000 in
set_option maxRecDepth 100000 in
theorem c_X8_isWay (l : Launch) (D : va_G) (ca : Nat → ClassId) (sa : Nat → Nat) (A : Nat → Prop) (rest : va_W) (p0 : Int32) : Met l yX8_isWay wsX8_isWay ({ frames := 0, cells := 0, slots := 0, locals := 0 }) (va_Pc [.int p0] (zPre D ca sa A (rest))) (va_Qi (fun (r : Int32) (u : Unit) => ((r.toInt = 1 ∧ 0 ≤ p0.toInt ∧ p0.toInt ≤ 3) ∨ (r.toInt = 0 ∧ (p0.toInt < 0 ∨ 3 < p0.toInt)))) (fun u t => zPost D A (rest) t) A) 0 0 A := by
  refine Met.ofW (cc := cX8_isWay) (maxL := 1) (ret := (some .boolean)) (by decide) rfl ?_
  intro p e s m args below meth c s₁ B hml hv9
  obtain ⟨rfl, hE, hP, hD⟩ := hv9
  have hx := B.exec
  have hb := B.bytes
  have hr := B.returns
  have hts := atoms_spec (ws := wsX8_isWay) B.pre
  have hown : s.vm.findClass RX8 = some m.cls := findClass_of_methodNamed B.named
  have hlocks := B.notSynchronized
  have hK := hE.1
  have hF : CallFix p m c cX8_isWay 1 s _ wsX8_isWay RX8 := ⟨hx, hb, hml, hown, hts⟩
  have hS : va_S A s.heap s.heap [] := va_S.rf
  generalize hHe : s.heap = H at hP
  have hS : va_S A s.heap H [] := by rw [← hHe]; exact hS
  have hl := lv_entry ([.int p0]) (n := 1) (Nat.le_of_ble_eq_true rfl)
  rw [lg_entry_eq]
  generalize (lg_sl ([.int p0]) ++ List.replicate (1 - (lg_sl ([.int p0])).length) Slot.unset).toArray = ls at hl ⊢
  have hl : lv_has ls 1 [(0, .int p0)] := hl
  generalize hQ9 : MQ below _ _ s 0 0 A = Q9
  refine lv_iload_n hx hb dX8_isWay_0 rfl (lv_at hl 0 rfl) ?_
  refine lv_if_lt (tgt := 13) hx hb dX8_isWay_1 (by decide) (fun c1 => ?_) (fun c1 => ?_)
  ·
    have c1 := z_lt (i := p0.toInt) (j := 0) rfl (by decide) c1
    refine lv_iconst (v := 0) hx hb dX8_isWay_13 (by decide) ?_
    subst hQ9
    refine lv_topi (fun t2 et2 => ?_)
    have ht2 : t2.toInt = 0 := by rw [et2]; decide
    have hq3 : (t2.toInt = 1 ∧ 0 ≤ p0.toInt ∧ p0.toInt ≤ 3) ∨ (t2.toInt = 0 ∧ (p0.toInt < 0 ∨ 3 < p0.toInt)) := by omega
    have hz4 : narrow .boolean (.int t2) = .int t2 := z_nz (by constructor <;> omega)
    exact W.zret (v := t2) hx hb hr hz4 (fun t ht hW => ⟨⟨t2, (), rfl, hq3, ⟨by rw [ht]; exact hP, hD⟩⟩, hS.F ht⟩) hS.2.2 dX8_isWay_14
  ·
    have c1 := z_nlt (i := p0.toInt) (j := 0) rfl (by decide) c1
    refine lv_iload_n hx hb dX8_isWay_4 rfl (lv_at hl 0 rfl) ?_
    refine lv_iconst (v := 4) hx hb dX8_isWay_5 (by decide) ?_
    refine lv_icmp_ge (tgt := 13) hx hb dX8_isWay_6 (by decide) (fun c5 => ?_) (fun c5 => ?_)
    ·
      have c5 := z_le (i := 4) (j := p0.toInt) (by decide) rfl c5
      refine lv_iconst (v := 0) hx hb dX8_isWay_13 (by decide) ?_
      subst hQ9
      refine lv_topi (fun t6 et6 => ?_)
      have ht6 : t6.toInt = 0 := by rw [et6]; decide
      have hq7 : (t6.toInt = 1 ∧ 0 ≤ p0.toInt ∧ p0.toInt ≤ 3) ∨ (t6.toInt = 0 ∧ (p0.toInt < 0 ∨ 3 < p0.toInt)) := by omega
      have hz8 : narrow .boolean (.int t6) = .int t6 := z_nz (by constructor <;> omega)
      exact W.zret (v := t6) hx hb hr hz8 (fun t ht hW => ⟨⟨t6, (), rfl, hq7, ⟨by rw [ht]; exact hP, hD⟩⟩, hS.F ht⟩) hS.2.2 dX8_isWay_14
    ·
      have c5 := z_nle (i := 4) (j := p0.toInt) (by decide) rfl c5
      refine lv_iconst (v := 1) hx hb dX8_isWay_9 (by decide) ?_
      refine lv_goto (tgt := 14) hx hb dX8_isWay_10 (by decide) ?_
      subst hQ9
      refine lv_topi (fun t9 et9 => ?_)
      have ht9 : t9.toInt = 1 := by rw [et9]; decide
      have hq10 : (t9.toInt = 1 ∧ 0 ≤ p0.toInt ∧ p0.toInt ≤ 3) ∨ (t9.toInt = 0 ∧ (p0.toInt < 0 ∨ 3 < p0.toInt)) := by omega
      have hz11 : narrow .boolean (.int t9) = .int t9 := z_nz (by constructor <;> omega)
      exact W.zret (v := t9) hx hb hr hz11 (fun t ht hW => ⟨⟨t9, (), rfl, hq10, ⟨by rw [ht]; exact hP, hD⟩⟩, hS.F ht⟩) hS.2.2 dX8_isWay_14

set_option maxHeartbeats 8000000 in
set_option maxRecDepth 100000 in
theorem c_X8_isPrice (l : Launch) (D : va_G) (ca : Nat → ClassId) (sa : Nat → Nat) (A : Nat → Prop) (rest : va_W) (p0 : Int32) : Met l yX8_isPrice wsX8_isPrice ({ frames := 0, cells := 0, slots := 0, locals := 0 }) (va_Pc [.int p0] (zPre D ca sa A (rest))) (va_Qi (fun (r : Int32) (u : Unit) => ((r.toInt = 1 ∧ 0 ≤ p0.toInt ∧ p0.toInt ≤ 1000) ∨ (r.toInt = 0 ∧ (p0.toInt < 0 ∨ 1000 < p0.toInt)))) (fun u t => zPost D A (rest) t) A) 0 0 A := by
  refine Met.ofW (cc := cX8_isPrice) (maxL := 1) (ret := (some .boolean)) (by decide) rfl ?_
  intro p e s m args below meth c s₁ B hml hv9
  obtain ⟨rfl, hE, hP, hD⟩ := hv9
  have hx := B.exec
  have hb := B.bytes
  have hr := B.returns
  have hts := atoms_spec (ws := wsX8_isPrice) B.pre
  have hown : s.vm.findClass RX8 = some m.cls := findClass_of_methodNamed B.named
  have hlocks := B.notSynchronized
  have hK := hE.1
  have hF : CallFix p m c cX8_isPrice 1 s _ wsX8_isPrice RX8 := ⟨hx, hb, hml, hown, hts⟩
  have hS : va_S A s.heap s.heap [] := va_S.rf
  generalize hHe : s.heap = H at hP
  have hS : va_S A s.heap H [] := by rw [← hHe]; exact hS
  have hl := lv_entry ([.int p0]) (n := 1) (Nat.le_of_ble_eq_true rfl)
  rw [lg_entry_eq]
  generalize (lg_sl ([.int p0]) ++ List.replicate (1 - (lg_sl ([.int p0])).length) Slot.unset).toArray = ls at hl ⊢
  have hl : lv_has ls 1 [(0, .int p0)] := hl
  generalize hQ9 : MQ below _ _ s 0 0 A = Q9
  refine lv_iload_n hx hb dX8_isPrice_0 rfl (lv_at hl 0 rfl) ?_
  refine lv_if_lt (tgt := 15) hx hb dX8_isPrice_1 (by decide) (fun c1 => ?_) (fun c1 => ?_)
  ·
    have c1 := z_lt (i := p0.toInt) (j := 0) rfl (by decide) c1
    refine lv_iconst (v := 0) hx hb dX8_isPrice_15 (by decide) ?_
    subst hQ9
    refine lv_topi (fun t2 et2 => ?_)
    have ht2 : t2.toInt = 0 := by rw [et2]; decide
    have hq3 : (t2.toInt = 1 ∧ 0 ≤ p0.toInt ∧ p0.toInt ≤ 1000) ∨ (t2.toInt = 0 ∧ (p0.toInt < 0 ∨ 1000 < p0.toInt)) := by omega
    have hz4 : narrow .boolean (.int t2) = .int t2 := z_nz (by constructor <;> omega)
    exact W.zret (v := t2) hx hb hr hz4 (fun t ht hW => ⟨⟨t2, (), rfl, hq3, ⟨by rw [ht]; exact hP, hD⟩⟩, hS.F ht⟩) hS.2.2 dX8_isPrice_16
  ·
    have c1 := z_nlt (i := p0.toInt) (j := 0) rfl (by decide) c1
    refine lv_iload_n hx hb dX8_isPrice_4 rfl (lv_at hl 0 rfl) ?_
    refine lv_sipush (v := 1000) hx hb dX8_isPrice_5 (by decide) ?_
    refine lv_icmp_gt (tgt := 15) hx hb dX8_isPrice_8 (by decide) (fun c5 => ?_) (fun c5 => ?_)
    ·
      have c5 := z_lt (i := 1000) (j := p0.toInt) (by decide) rfl c5
      refine lv_iconst (v := 0) hx hb dX8_isPrice_15 (by decide) ?_
      subst hQ9
      refine lv_topi (fun t6 et6 => ?_)
      have ht6 : t6.toInt = 0 := by rw [et6]; decide
      have hq7 : (t6.toInt = 1 ∧ 0 ≤ p0.toInt ∧ p0.toInt ≤ 1000) ∨ (t6.toInt = 0 ∧ (p0.toInt < 0 ∨ 1000 < p0.toInt)) := by omega
      have hz8 : narrow .boolean (.int t6) = .int t6 := z_nz (by constructor <;> omega)
      exact W.zret (v := t6) hx hb hr hz8 (fun t ht hW => ⟨⟨t6, (), rfl, hq7, ⟨by rw [ht]; exact hP, hD⟩⟩, hS.F ht⟩) hS.2.2 dX8_isPrice_16
    ·
      have c5 := z_nlt (i := 1000) (j := p0.toInt) (by decide) rfl c5
      refine lv_iconst (v := 1) hx hb dX8_isPrice_11 (by decide) ?_
      refine lv_goto (tgt := 16) hx hb dX8_isPrice_12 (by decide) ?_
      subst hQ9
      refine lv_topi (fun t9 et9 => ?_)
      have ht9 : t9.toInt = 1 := by rw [et9]; decide
      have hq10 : (t9.toInt = 1 ∧ 0 ≤ p0.toInt ∧ p0.toInt ≤ 1000) ∨ (t9.toInt = 0 ∧ (p0.toInt < 0 ∨ 1000 < p0.toInt)) := by omega
      have hz11 : narrow .boolean (.int t9) = .int t9 := z_nz (by constructor <;> omega)
      exact W.zret (v := t9) hx hb hr hz11 (fun t ht hW => ⟨⟨t9, (), rfl, hq10, ⟨by rw [ht]; exact hP, hD⟩⟩, hS.F ht⟩) hS.2.2 dX8_isPrice_16

set_option maxHeartbeats 8000000 in
set_option maxRecDepth 100000 in
theorem c_X9_in (l : Launch) (D : va_G) (ca : Nat → ClassId) (sa : Nat → Nat) (A : Nat → Prop) (rest : va_W) (p0 : Int32) (p1 : Int32) (p2 : Int32) : Met l yX9_in wsX9_in ({ frames := 0, cells := 0, slots := 0, locals := 0 }) (va_Pc [.int p0, .int p1, .int p2] (zPre D ca sa A (rest))) (va_Qi (fun (r : Int32) (u : Unit) => ((r.toInt = 1 ∧ p1.toInt ≤ p0.toInt ∧ p0.toInt ≤ p2.toInt) ∨ (r.toInt = 0 ∧ (p0.toInt < p1.toInt ∨ p2.toInt < p0.toInt)))) (fun u t => zPost D A (rest) t) A) 0 0 A := by
  refine Met.ofW (cc := cX9_in) (maxL := 3) (ret := (some .boolean)) (by decide) rfl ?_
  intro p e s m args below meth c s₁ B hml hv9
  obtain ⟨rfl, hE, hP, hD⟩ := hv9
  have hx := B.exec
  have hb := B.bytes
  have hr := B.returns
  have hts := atoms_spec (ws := wsX9_in) B.pre
  have hown : s.vm.findClass RX9 = some m.cls := findClass_of_methodNamed B.named
  have hlocks := B.notSynchronized
  have hK := hE.1
  have hF : CallFix p m c cX9_in 3 s _ wsX9_in RX9 := ⟨hx, hb, hml, hown, hts⟩
  have hS : va_S A s.heap s.heap [] := va_S.rf
  generalize hHe : s.heap = H at hP
  have hS : va_S A s.heap H [] := by rw [← hHe]; exact hS
  have hl := lv_entry ([.int p0, .int p1, .int p2]) (n := 3) (Nat.le_of_ble_eq_true rfl)
  rw [lg_entry_eq]
  generalize (lg_sl ([.int p0, .int p1, .int p2]) ++ List.replicate (3 - (lg_sl ([.int p0, .int p1, .int p2])).length) Slot.unset).toArray = ls at hl ⊢
  have hl : lv_has ls 3 [(0, .int p0), (1, .int p1), (2, .int p2)] := hl
  generalize hQ9 : MQ below _ _ s 0 0 A = Q9
  refine lv_iload_n hx hb dX9_in_0 rfl (lv_at hl 0 rfl) ?_
  refine lv_iload_n hx hb dX9_in_1 rfl (lv_at hl 1 rfl) ?_
  refine lv_icmp_lt (tgt := 14) hx hb dX9_in_2 (by decide) (fun c1 => ?_) (fun c1 => ?_)
  ·
    have c1 := z_lt (i := p0.toInt) (j := p1.toInt) rfl rfl c1
    refine lv_iconst (v := 0) hx hb dX9_in_14 (by decide) ?_
    subst hQ9
    refine lv_topi (fun t2 et2 => ?_)
    have ht2 : t2.toInt = 0 := by rw [et2]; decide
    have hq3 : (t2.toInt = 1 ∧ p1.toInt ≤ p0.toInt ∧ p0.toInt ≤ p2.toInt) ∨ (t2.toInt = 0 ∧ (p0.toInt < p1.toInt ∨ p2.toInt < p0.toInt)) := by omega
    have hz4 : narrow .boolean (.int t2) = .int t2 := z_nz (by constructor <;> omega)
    exact W.zret (v := t2) hx hb hr hz4 (fun t ht hW => ⟨⟨t2, (), rfl, hq3, ⟨by rw [ht]; exact hP, hD⟩⟩, hS.F ht⟩) hS.2.2 dX9_in_15
  ·
    have c1 := z_nlt (i := p0.toInt) (j := p1.toInt) rfl rfl c1
    refine lv_iload_n hx hb dX9_in_5 rfl (lv_at hl 0 rfl) ?_
    refine lv_iload_n hx hb dX9_in_6 rfl (lv_at hl 2 rfl) ?_
    refine lv_icmp_gt (tgt := 14) hx hb dX9_in_7 (by decide) (fun c5 => ?_) (fun c5 => ?_)
    ·
      have c5 := z_lt (i := p2.toInt) (j := p0.toInt) rfl rfl c5
      refine lv_iconst (v := 0) hx hb dX9_in_14 (by decide) ?_
      subst hQ9
      refine lv_topi (fun t6 et6 => ?_)
      have ht6 : t6.toInt = 0 := by rw [et6]; decide
      have hq7 : (t6.toInt = 1 ∧ p1.toInt ≤ p0.toInt ∧ p0.toInt ≤ p2.toInt) ∨ (t6.toInt = 0 ∧ (p0.toInt < p1.toInt ∨ p2.toInt < p0.toInt)) := by omega
      have hz8 : narrow .boolean (.int t6) = .int t6 := z_nz (by constructor <;> omega)
      exact W.zret (v := t6) hx hb hr hz8 (fun t ht hW => ⟨⟨t6, (), rfl, hq7, ⟨by rw [ht]; exact hP, hD⟩⟩, hS.F ht⟩) hS.2.2 dX9_in_15
    ·
      have c5 := z_nlt (i := p2.toInt) (j := p0.toInt) rfl rfl c5
      refine lv_iconst (v := 1) hx hb dX9_in_10 (by decide) ?_
      refine lv_goto (tgt := 15) hx hb dX9_in_11 (by decide) ?_
      subst hQ9
      refine lv_topi (fun t9 et9 => ?_)
      have ht9 : t9.toInt = 1 := by rw [et9]; decide
      have hq10 : (t9.toInt = 1 ∧ p1.toInt ≤ p0.toInt ∧ p0.toInt ≤ p2.toInt) ∨ (t9.toInt = 0 ∧ (p0.toInt < p1.toInt ∨ p2.toInt < p0.toInt)) := by omega
      have hz11 : narrow .boolean (.int t9) = .int t9 := z_nz (by constructor <;> omega)
      exact W.zret (v := t9) hx hb hr hz11 (fun t ht hW => ⟨⟨t9, (), rfl, hq10, ⟨by rw [ht]; exact hP, hD⟩⟩, hS.F ht⟩) hS.2.2 dX9_in_15

set_option maxHeartbeats 8000000 in
set_option maxRecDepth 100000 in
theorem c_X9_isIn (l : Launch) (D : va_G) (ca : Nat → ClassId) (sa : Nat → Nat) (A : Nat → Prop) (rest : va_W) (p0 : Int64) (p2 : Int32) : Met l yX9_isIn wsX9_isIn ({ frames := 0, cells := 0, slots := 0, locals := 0 }) (va_Pc [.long p0, .int p2] (zPre D ca sa A (rest))) (va_Qi (fun (r : Int32) (u : Unit) => (0 ≤ r.toInt ∧ r.toInt ≤ 1)) (fun u t => zPost D A (rest) t) A) 0 0 A := by
  refine Met.ofW (cc := cX9_isIn) (maxL := 3) (ret := (some .boolean)) (by decide) rfl ?_
  intro p e s m args below meth c s₁ B hml hv9
  obtain ⟨rfl, hE, hP, hD⟩ := hv9
  have hx := B.exec
  have hb := B.bytes
  have hr := B.returns
  have hts := atoms_spec (ws := wsX9_isIn) B.pre
  have hown : s.vm.findClass RX9 = some m.cls := findClass_of_methodNamed B.named
  have hlocks := B.notSynchronized
  have hK := hE.1
  have hF : CallFix p m c cX9_isIn 3 s _ wsX9_isIn RX9 := ⟨hx, hb, hml, hown, hts⟩
  have hS : va_S A s.heap s.heap [] := va_S.rf
  generalize hHe : s.heap = H at hP
  have hS : va_S A s.heap H [] := by rw [← hHe]; exact hS
  have hl := lv_entry ([.long p0, .int p2]) (n := 3) (Nat.le_of_ble_eq_true rfl)
  rw [lg_entry_eq]
  generalize (lg_sl ([.long p0, .int p2]) ++ List.replicate (3 - (lg_sl ([.long p0, .int p2])).length) Slot.unset).toArray = ls at hl ⊢
  have hl : lv_has ls 3 [(0, .long p0), (2, .int p2)] := hl
  generalize hQ9 : MQ below _ _ s 0 0 A = Q9
  refine lv_lload_n hx hb dX9_isIn_0 rfl (lv_at hl 0 rfl) ?_
  refine lv_iload_n hx hb dX9_isIn_1 rfl (lv_at hl 1 rfl) ?_
  refine lv_lshr hx hb dX9_isIn_2 rfl ?_
  refine lv_topl (fun t1 et1 => ?_)
  refine lv_lconst (v := 1) hx hb dX9_isIn_3 (by decide) ?_
  refine lv_land hx hb dX9_isIn_4 ?_
  refine lv_topl (fun t2 et2 => ?_)
  refine lv_lconst (v := 1) hx hb dX9_isIn_5 (by decide) ?_
  refine W.lcmp hx hb dX9_isIn_6 ?_
  refine lv_topi (fun t3 et3 => ?_)
  refine lv_if_ne (tgt := 14) hx hb dX9_isIn_7 (by decide) (fun c4 => ?_) (fun c4 => ?_)
  ·
    have c4 := z_ne (i := t3.toInt) (j := 0) rfl (by decide) c4
    refine lv_iconst (v := 0) hx hb dX9_isIn_14 (by decide) ?_
    subst hQ9
    refine lv_topi (fun t5 et5 => ?_)
    have ht5 : t5.toInt = 0 := by rw [et5]; decide
    have hq6 : 0 ≤ t5.toInt ∧ t5.toInt ≤ 1 := by omega
    have hz7 : narrow .boolean (.int t5) = .int t5 := z_nz (by constructor <;> omega)
    exact W.zret (v := t5) hx hb hr hz7 (fun t ht hW => ⟨⟨t5, (), rfl, hq6, ⟨by rw [ht]; exact hP, hD⟩⟩, hS.F ht⟩) hS.2.2 dX9_isIn_15
  ·
    have c4 := z_eq (i := t3.toInt) (j := 0) rfl (by decide) c4
    refine lv_iconst (v := 1) hx hb dX9_isIn_10 (by decide) ?_
    refine lv_goto (tgt := 15) hx hb dX9_isIn_11 (by decide) ?_
    subst hQ9
    refine lv_topi (fun t8 et8 => ?_)
    have ht8 : t8.toInt = 1 := by rw [et8]; decide
    have hq9 : 0 ≤ t8.toInt ∧ t8.toInt ≤ 1 := by omega
    have hz10 : narrow .boolean (.int t8) = .int t8 := z_nz (by constructor <;> omega)
    exact W.zret (v := t8) hx hb hr hz10 (fun t ht hW => ⟨⟨t8, (), rfl, hq9, ⟨by rw [ht]; exact hP, hD⟩⟩, hS.F ht⟩) hS.2.2 dX9_isIn_15

set_option maxHeartbeats 8000000 in
set_option maxRecDepth 100000 in
theorem c_X0_put (l : Launch) (D : va_G) (ca : Nat → ClassId) (sa : Nat → Nat) (A : Nat → Prop) (rest : va_W) (r0 : Nat → Nat) (fi0 : Nat → Int32) (fl0 : Nat → Int64) (fa0 : Nat → Nat → Int32) (fb0 : Nat → Nat → Int64) (hv0 : Ok_AGD fi0 fa0) (p1 : Int32) (p2 : Int32) : Met l yX0_put wsX0_put ({ frames := 0, cells := 0, slots := 0, locals := 0 }) (va_Pc [.ref (r0 0), .int p1, .int p2] (zPre D ca sa A (w_AGD ca r0 fi0 fl0 fa0 fb0 (rest)))) (va_Qv (fun (u : zS) => Ok_AGD u.1 u.2.2.1) (fun u t => zPost D A (w_AGD ca r0 u.1 u.2.1 u.2.2.1 u.2.2.2 (rest)) t) A) 0 0 A := by
  refine Met.ofW (cc := cX0_put) (maxL := 3) (ret := none) (by decide) rfl ?_
  intro p e s m args below meth c s₁ B hml hv9
  obtain ⟨rfl, hE, hP, hD⟩ := hv9
  have hx := B.exec
  have hb := B.bytes
  have hr := B.returns
  have hts := atoms_spec (ws := wsX0_put) B.pre
  have hown : s.vm.findClass RX0 = some m.cls := findClass_of_methodNamed B.named
  have hlocks := B.notSynchronized
  have hK := hE.1
  have hF : CallFix p m c cX0_put 3 s _ wsX0_put RX0 := ⟨hx, hb, hml, hown, hts⟩
  have hS : va_S A s.heap s.heap [] := va_S.rf
  have lk9 := hts (.fieldLink RX0 9 "BranchPlay$Agenda" "sets" "[J") (by decide +kernel)
  have inX0 : ∀ w ∈ wsX00, w ∈ wsX0_put := by decide +kernel
  generalize hHe : s.heap = H at hP
  have hS : va_S A s.heap H [] := by rw [← hHe]; exact hS
  have hP : va_P D vwCl (((r0 0), .inr (0, [.ref (r0 1)])) :: ((r0 1), .inl (ca 1, 400, .inr (.inl (fb0 0)))) :: rest) H := hP
  have hD : va_D A (((r0 0), .inr (0, [.ref (r0 1)])) :: ((r0 1), .inl (ca 1, 400, .inr (.inl (fb0 0)))) :: rest) := hD
  have hl := lv_entry ([.ref (r0 0), .int p1, .int p2]) (n := 3) (Nat.le_of_ble_eq_true rfl)
  rw [lg_entry_eq]
  generalize (lg_sl ([.ref (r0 0), .int p1, .int p2]) ++ List.replicate (3 - (lg_sl ([.ref (r0 0), .int p1, .int p2])).length) Slot.unset).toArray = ls at hl ⊢
  have hl : lv_has ls 3 [(0, .ref (r0 0)), (1, .int p1), (2, .int p2)] := hl
  generalize hQ9 : MQ below _ _ s 0 0 A = Q9
  refine lv_iload_n hx hb dX0_put_0 rfl (lv_at hl 1 rfl) ?_
  refine lv_if_lt (tgt := 23) hx hb dX0_put_1 (by decide) (fun c1 => ?_) (fun c1 => ?_)
  ·
    have c1 := z_lt (i := p1.toInt) (j := 0) rfl (by decide) c1
    subst hQ9
    have ho2 : True := trivial
    exact W.vret hx hb hr (fun t ht hW => ⟨⟨((zl 0 []), (zl 0 []), (zl (fun _ => 0) []), (zl (fun _ => 0) [(fb0 0)])), rfl, ho2, ⟨by rw [ht]; exact hP, hD⟩⟩, hS.F ht⟩) hS.2.2 dX0_put_23
  ·
    have c1 := z_nlt (i := p1.toInt) (j := 0) rfl (by decide) c1
    refine lv_iload_n hx hb dX0_put_4 rfl (lv_at hl 1 rfl) ?_
    refine lv_sipush (v := 399) hx hb dX0_put_5 (by decide) ?_
    refine lv_icmp_gt (tgt := 23) hx hb dX0_put_8 (by decide) (fun c3 => ?_) (fun c3 => ?_)
    ·
      have c3 := z_lt (i := 399) (j := p1.toInt) (by decide) rfl c3
      subst hQ9
      have ho4 : True := trivial
      exact W.vret hx hb hr (fun t ht hW => ⟨⟨((zl 0 []), (zl 0 []), (zl (fun _ => 0) []), (zl (fun _ => 0) [(fb0 0)])), rfl, ho4, ⟨by rw [ht]; exact hP, hD⟩⟩, hS.F ht⟩) hS.2.2 dX0_put_23
    ·
      have c3 := z_nlt (i := 399) (j := p1.toInt) (by decide) rfl c3
      refine lv_aload_n hx hb dX0_put_11 rfl (lv_at hl 0 rfl) ?_
      refine va_get (D := D) (ci := 0) (v := .ref (r0 1)) (C := RX0) (T := TX0) (N := 1) hx hb hts inX0 hown hK hP 0 rfl rfl 0 (by decide) lk9 (fun _ h9 => h9) rfl dX0_put_12 ?_
      refine lv_iload_n hx hb dX0_put_15 rfl (lv_at hl 1 rfl) ?_
      refine lv_dup2_11 hx hb dX0_put_16 rfl rfl ?_
      have hi5 : vp_in p1 400 := z_in (i := p1.toInt) rfl (by omega) (by omega)
      refine va_lald hx hb hK hP 1 1 rfl rfl hi5 dX0_put_17 ?_
      refine lv_topl (fun t6 et6 => ?_)
      refine lv_lconst (v := 1) hx hb dX0_put_18 (by decide) ?_
      refine lv_iload_n hx hb dX0_put_19 rfl (lv_at hl 2 rfl) ?_
      refine lv_lshl hx hb dX0_put_20 rfl ?_
      refine lv_topl (fun t7 et7 => ?_)
      refine lv_lor hx hb dX0_put_21 ?_
      refine lv_topl (fun t8 et8 => ?_)
      have hi9 : vp_in p1 400 := z_in (i := p1.toInt) rfl (by omega) (by omega)
      refine va_last hx hb hK hP hD hS 1 1 rfl rfl hi9 dX0_put_22 (fun H locs hP hD hS => ?_)
      generalize eg10 : vp_updL (fb0 0) p1.toNatClampNeg t8 = g10 at hP hD
      have hP : va_P D vwCl (((r0 0), .inr (0, [.ref (r0 1)])) :: ((r0 1), .inl (ca 1, 400, .inr (.inl g10))) :: rest) H := hP
      have hD : va_D A (((r0 0), .inr (0, [.ref (r0 1)])) :: ((r0 1), .inl (ca 1, 400, .inr (.inl g10))) :: rest) := hD
      subst hQ9
      have ho11 : True := trivial
      exact W.vret hx hb hr (fun t ht hW => ⟨⟨((zl 0 []), (zl 0 []), (zl (fun _ => 0) []), (zl (fun _ => 0) [g10])), rfl, ho11, ⟨by rw [ht]; exact hP, hD⟩⟩, hS.F ht⟩) hS.2.2 dX0_put_23

set_option maxHeartbeats 8000000 in
set_option maxRecDepth 100000 in
theorem c_X0_drop (l : Launch) (D : va_G) (ca : Nat → ClassId) (sa : Nat → Nat) (A : Nat → Prop) (rest : va_W) (r0 : Nat → Nat) (fi0 : Nat → Int32) (fl0 : Nat → Int64) (fa0 : Nat → Nat → Int32) (fb0 : Nat → Nat → Int64) (hv0 : Ok_AGD fi0 fa0) (p1 : Int32) (p2 : Int32) : Met l yX0_drop wsX0_drop ({ frames := 0, cells := 0, slots := 0, locals := 0 }) (va_Pc [.ref (r0 0), .int p1, .int p2] (zPre D ca sa A (w_AGD ca r0 fi0 fl0 fa0 fb0 (rest)))) (va_Qv (fun (u : zS) => Ok_AGD u.1 u.2.2.1) (fun u t => zPost D A (w_AGD ca r0 u.1 u.2.1 u.2.2.1 u.2.2.2 (rest)) t) A) 0 0 A := by
  refine Met.ofW (cc := cX0_drop) (maxL := 3) (ret := none) (by decide) rfl ?_
  intro p e s m args below meth c s₁ B hml hv9
  obtain ⟨rfl, hE, hP, hD⟩ := hv9
  have hx := B.exec
  have hb := B.bytes
  have hr := B.returns
  have hts := atoms_spec (ws := wsX0_drop) B.pre
  have hown : s.vm.findClass RX0 = some m.cls := findClass_of_methodNamed B.named
  have hlocks := B.notSynchronized
  have hK := hE.1
  have hF : CallFix p m c cX0_drop 3 s _ wsX0_drop RX0 := ⟨hx, hb, hml, hown, hts⟩
  have hS : va_S A s.heap s.heap [] := va_S.rf
  have lk9 := hts (.fieldLink RX0 9 "BranchPlay$Agenda" "sets" "[J") (by decide +kernel)
  have inX0 : ∀ w ∈ wsX00, w ∈ wsX0_drop := by decide +kernel
  have lc15 := hts (.constantLong RX0 15 (-1)) (by decide +kernel)
  generalize hHe : s.heap = H at hP
  have hS : va_S A s.heap H [] := by rw [← hHe]; exact hS
  have hP : va_P D vwCl (((r0 0), .inr (0, [.ref (r0 1)])) :: ((r0 1), .inl (ca 1, 400, .inr (.inl (fb0 0)))) :: rest) H := hP
  have hD : va_D A (((r0 0), .inr (0, [.ref (r0 1)])) :: ((r0 1), .inl (ca 1, 400, .inr (.inl (fb0 0)))) :: rest) := hD
  have hl := lv_entry ([.ref (r0 0), .int p1, .int p2]) (n := 3) (Nat.le_of_ble_eq_true rfl)
  rw [lg_entry_eq]
  generalize (lg_sl ([.ref (r0 0), .int p1, .int p2]) ++ List.replicate (3 - (lg_sl ([.ref (r0 0), .int p1, .int p2])).length) Slot.unset).toArray = ls at hl ⊢
  have hl : lv_has ls 3 [(0, .ref (r0 0)), (1, .int p1), (2, .int p2)] := hl
  generalize hQ9 : MQ below _ _ s 0 0 A = Q9
  refine lv_iload_n hx hb dX0_drop_0 rfl (lv_at hl 1 rfl) ?_
  refine lv_if_lt (tgt := 27) hx hb dX0_drop_1 (by decide) (fun c1 => ?_) (fun c1 => ?_)
  ·
    have c1 := z_lt (i := p1.toInt) (j := 0) rfl (by decide) c1
    subst hQ9
    have ho2 : True := trivial
    exact W.vret hx hb hr (fun t ht hW => ⟨⟨((zl 0 []), (zl 0 []), (zl (fun _ => 0) []), (zl (fun _ => 0) [(fb0 0)])), rfl, ho2, ⟨by rw [ht]; exact hP, hD⟩⟩, hS.F ht⟩) hS.2.2 dX0_drop_27
  ·
    have c1 := z_nlt (i := p1.toInt) (j := 0) rfl (by decide) c1
    refine lv_iload_n hx hb dX0_drop_4 rfl (lv_at hl 1 rfl) ?_
    refine lv_sipush (v := 399) hx hb dX0_drop_5 (by decide) ?_
    refine lv_icmp_gt (tgt := 27) hx hb dX0_drop_8 (by decide) (fun c3 => ?_) (fun c3 => ?_)
    ·
      have c3 := z_lt (i := 399) (j := p1.toInt) (by decide) rfl c3
      subst hQ9
      have ho4 : True := trivial
      exact W.vret hx hb hr (fun t ht hW => ⟨⟨((zl 0 []), (zl 0 []), (zl (fun _ => 0) []), (zl (fun _ => 0) [(fb0 0)])), rfl, ho4, ⟨by rw [ht]; exact hP, hD⟩⟩, hS.F ht⟩) hS.2.2 dX0_drop_27
    ·
      have c3 := z_nlt (i := 399) (j := p1.toInt) (by decide) rfl c3
      refine lv_aload_n hx hb dX0_drop_11 rfl (lv_at hl 0 rfl) ?_
      refine va_get (D := D) (ci := 0) (v := .ref (r0 1)) (C := RX0) (T := TX0) (N := 1) hx hb hts inX0 hown hK hP 0 rfl rfl 0 (by decide) lk9 (fun _ h9 => h9) rfl dX0_drop_12 ?_
      refine lv_iload_n hx hb dX0_drop_15 rfl (lv_at hl 1 rfl) ?_
      refine lv_dup2_11 hx hb dX0_drop_16 rfl rfl ?_
      have hi5 : vp_in p1 400 := z_in (i := p1.toInt) rfl (by omega) (by omega)
      refine va_lald hx hb hK hP 1 1 rfl rfl hi5 dX0_drop_17 ?_
      refine lv_topl (fun t6 et6 => ?_)
      refine lv_lconst (v := 1) hx hb dX0_drop_18 (by decide) ?_
      refine lv_iload_n hx hb dX0_drop_19 rfl (lv_at hl 2 rfl) ?_
      refine lv_lshl hx hb dX0_drop_20 rfl ?_
      refine lv_topl (fun t7 et7 => ?_)
      refine lv_ldc2 hx hb hown lc15 dX0_drop_21 ?_
      refine lv_lxor hx hb dX0_drop_24 ?_
      refine lv_topl (fun t8 et8 => ?_)
      refine lv_land hx hb dX0_drop_25 ?_
      refine lv_topl (fun t9 et9 => ?_)
      have hi10 : vp_in p1 400 := z_in (i := p1.toInt) rfl (by omega) (by omega)
      refine va_last hx hb hK hP hD hS 1 1 rfl rfl hi10 dX0_drop_26 (fun H locs hP hD hS => ?_)
      generalize eg11 : vp_updL (fb0 0) p1.toNatClampNeg t9 = g11 at hP hD
      have hP : va_P D vwCl (((r0 0), .inr (0, [.ref (r0 1)])) :: ((r0 1), .inl (ca 1, 400, .inr (.inl g11))) :: rest) H := hP
      have hD : va_D A (((r0 0), .inr (0, [.ref (r0 1)])) :: ((r0 1), .inl (ca 1, 400, .inr (.inl g11))) :: rest) := hD
      subst hQ9
      have ho12 : True := trivial
      exact W.vret hx hb hr (fun t ht hW => ⟨⟨((zl 0 []), (zl 0 []), (zl (fun _ => 0) []), (zl (fun _ => 0) [g11])), rfl, ho12, ⟨by rw [ht]; exact hP, hD⟩⟩, hS.F ht⟩) hS.2.2 dX0_drop_27

set_option maxHeartbeats 8000000 in
set_option maxRecDepth 100000 in
theorem c_X0_at (l : Launch) (D : va_G) (ca : Nat → ClassId) (sa : Nat → Nat) (A : Nat → Prop) (rest : va_W) (r0 : Nat → Nat) (fi0 : Nat → Int32) (fl0 : Nat → Int64) (fa0 : Nat → Nat → Int32) (fb0 : Nat → Nat → Int64) (hv0 : Ok_AGD fi0 fa0) (p1 : Int32) : Met l yX0_at wsX0_at ({ frames := 0, cells := 0, slots := 0, locals := 0 }) (va_Pc [.ref (r0 0), .int p1] (zPre D ca sa A (w_AGD ca r0 fi0 fl0 fa0 fb0 (rest)))) (va_Ql (fun (r : Int64) (u : Unit) => True) (fun u t => zPost D A (w_AGD ca r0 fi0 fl0 fa0 fb0 (rest)) t) A) 0 0 A := by
  refine Met.ofW (cc := cX0_at) (maxL := 2) (ret := (some .long)) (by decide) rfl ?_
  intro p e s m args below meth c s₁ B hml hv9
  obtain ⟨rfl, hE, hP, hD⟩ := hv9
  have hx := B.exec
  have hb := B.bytes
  have hr := B.returns
  have hts := atoms_spec (ws := wsX0_at) B.pre
  have hown : s.vm.findClass RX0 = some m.cls := findClass_of_methodNamed B.named
  have hlocks := B.notSynchronized
  have hK := hE.1
  have hF : CallFix p m c cX0_at 2 s _ wsX0_at RX0 := ⟨hx, hb, hml, hown, hts⟩
  have hS : va_S A s.heap s.heap [] := va_S.rf
  have lk9 := hts (.fieldLink RX0 9 "BranchPlay$Agenda" "sets" "[J") (by decide +kernel)
  have inX0 : ∀ w ∈ wsX00, w ∈ wsX0_at := by decide +kernel
  generalize hHe : s.heap = H at hP
  have hS : va_S A s.heap H [] := by rw [← hHe]; exact hS
  have hP : va_P D vwCl (((r0 0), .inr (0, [.ref (r0 1)])) :: ((r0 1), .inl (ca 1, 400, .inr (.inl (fb0 0)))) :: rest) H := hP
  have hD : va_D A (((r0 0), .inr (0, [.ref (r0 1)])) :: ((r0 1), .inl (ca 1, 400, .inr (.inl (fb0 0)))) :: rest) := hD
  have hl := lv_entry ([.ref (r0 0), .int p1]) (n := 2) (Nat.le_of_ble_eq_true rfl)
  rw [lg_entry_eq]
  generalize (lg_sl ([.ref (r0 0), .int p1]) ++ List.replicate (2 - (lg_sl ([.ref (r0 0), .int p1])).length) Slot.unset).toArray = ls at hl ⊢
  have hl : lv_has ls 2 [(0, .ref (r0 0)), (1, .int p1)] := hl
  generalize hQ9 : MQ below _ _ s 0 0 A = Q9
  refine lv_iload_n hx hb dX0_at_0 rfl (lv_at hl 1 rfl) ?_
  refine lv_if_lt (tgt := 20) hx hb dX0_at_1 (by decide) (fun c1 => ?_) (fun c1 => ?_)
  ·
    have c1 := z_lt (i := p1.toInt) (j := 0) rfl (by decide) c1
    refine lv_lconst (v := 0) hx hb dX0_at_20 (by decide) ?_
    subst hQ9
    exact W.lret (v := 0) hx hb hr (fun t ht hW => ⟨⟨0, (), rfl, trivial, ⟨by rw [ht]; exact hP, hD⟩⟩, hS.F ht⟩) hS.2.2 dX0_at_21
  ·
    have c1 := z_nlt (i := p1.toInt) (j := 0) rfl (by decide) c1
    refine lv_iload_n hx hb dX0_at_4 rfl (lv_at hl 1 rfl) ?_
    refine lv_sipush (v := 399) hx hb dX0_at_5 (by decide) ?_
    refine lv_icmp_gt (tgt := 20) hx hb dX0_at_8 (by decide) (fun c2 => ?_) (fun c2 => ?_)
    ·
      have c2 := z_lt (i := 399) (j := p1.toInt) (by decide) rfl c2
      refine lv_lconst (v := 0) hx hb dX0_at_20 (by decide) ?_
      subst hQ9
      exact W.lret (v := 0) hx hb hr (fun t ht hW => ⟨⟨0, (), rfl, trivial, ⟨by rw [ht]; exact hP, hD⟩⟩, hS.F ht⟩) hS.2.2 dX0_at_21
    ·
      have c2 := z_nlt (i := 399) (j := p1.toInt) (by decide) rfl c2
      refine lv_aload_n hx hb dX0_at_11 rfl (lv_at hl 0 rfl) ?_
      refine va_get (D := D) (ci := 0) (v := .ref (r0 1)) (C := RX0) (T := TX0) (N := 1) hx hb hts inX0 hown hK hP 0 rfl rfl 0 (by decide) lk9 (fun _ h9 => h9) rfl dX0_at_12 ?_
      refine lv_iload_n hx hb dX0_at_15 rfl (lv_at hl 1 rfl) ?_
      have hi3 : vp_in p1 400 := z_in (i := p1.toInt) rfl (by omega) (by omega)
      refine va_lald hx hb hK hP 1 1 rfl rfl hi3 dX0_at_16 ?_
      refine lv_topl (fun t4 et4 => ?_)
      refine lv_goto (tgt := 21) hx hb dX0_at_17 (by decide) ?_
      subst hQ9
      exact W.lret (v := t4) hx hb hr (fun t ht hW => ⟨⟨t4, (), rfl, trivial, ⟨by rw [ht]; exact hP, hD⟩⟩, hS.F ht⟩) hS.2.2 dX0_at_21

set_option maxHeartbeats 8000000 in
set_option maxRecDepth 100000 in
theorem c_X2_join (l : Launch) (D : va_G) (ca : Nat → ClassId) (sa : Nat → Nat) (A : Nat → Prop) (rest : va_W) (r0 : Nat → Nat) (fi0 : Nat → Int32) (fl0 : Nat → Int64) (fa0 : Nat → Nat → Int32) (fb0 : Nat → Nat → Int64) (hv0 : Ok_LINE fi0 fa0) (p1 : Int32) (hpre0 : 0 ≤ p1.toInt ∧ p1.toInt ≤ 59) : Met l yX2_join wsX2_join ({ frames := 0, cells := 0, slots := 0, locals := 0 }) (va_Pc [.ref (r0 0), .int p1] (zPre D ca sa A (w_LINE ca r0 fi0 fl0 fa0 fb0 (rest)))) (va_Qv (fun (u : zS) => Ok_LINE u.1 u.2.2.1) (fun u t => zPost D A (w_LINE ca r0 u.1 u.2.1 u.2.2.1 u.2.2.2 (rest)) t) A) 0 0 A := by
  refine Met.ofW (cc := cX2_join) (maxL := 2) (ret := none) (by decide) rfl ?_
  intro p e s m args below meth c s₁ B hml hv9
  obtain ⟨rfl, hE, hP, hD⟩ := hv9
  have hx := B.exec
  have hb := B.bytes
  have hr := B.returns
  have hts := atoms_spec (ws := wsX2_join) B.pre
  have hown : s.vm.findClass RX2 = some m.cls := findClass_of_methodNamed B.named
  have hlocks := B.notSynchronized
  have hK := hE.1
  have hF : CallFix p m c cX2_join 2 s _ wsX2_join RX2 := ⟨hx, hb, hml, hown, hts⟩
  have hS : va_S A s.heap s.heap [] := va_S.rf
  have lk15 := hts (.fieldLink RX2 15 "BranchPlay$Line" "length" "I") (by decide +kernel)
  have inX2 : ∀ w ∈ wsX20, w ∈ wsX2_join := by decide +kernel
  have lk9 := hts (.fieldLink RX2 9 "BranchPlay$Line" "members" "[I") (by decide +kernel)
  obtain ⟨⟨hv0i0, hv0j0⟩, hv0a0⟩ := hv0
  generalize hHe : s.heap = H at hP
  have hS : va_S A s.heap H [] := by rw [← hHe]; exact hS
  have hP : va_P D vwCl (((r0 0), .inr (2, [.ref (r0 1), .int (fi0 0)])) :: ((r0 1), .inl (ca 0, 60, .inl (fa0 0))) :: rest) H := hP
  have hD : va_D A (((r0 0), .inr (2, [.ref (r0 1), .int (fi0 0)])) :: ((r0 1), .inl (ca 0, 60, .inl (fa0 0))) :: rest) := hD
  have hl := lv_entry ([.ref (r0 0), .int p1]) (n := 2) (Nat.le_of_ble_eq_true rfl)
  rw [lg_entry_eq]
  generalize (lg_sl ([.ref (r0 0), .int p1]) ++ List.replicate (2 - (lg_sl ([.ref (r0 0), .int p1])).length) Slot.unset).toArray = ls at hl ⊢
  have hl : lv_has ls 2 [(0, .ref (r0 0)), (1, .int p1)] := hl
  generalize hQ9 : MQ below _ _ s 0 0 A = Q9
  refine lv_aload_n hx hb dX2_join_0 rfl (lv_at hl 0 rfl) ?_
  refine va_get (D := D) (ci := 2) (v := .int (fi0 0)) (C := RX2) (T := TX2) (N := 2) hx hb hts inX2 hown hK hP 0 rfl rfl 1 (by decide) lk15 (fun _ h9 => h9) rfl dX2_join_1 ?_
  refine lv_bipush (v := 60) hx hb dX2_join_4 (by decide) ?_
  refine lv_icmp_ge (tgt := 29) hx hb dX2_join_6 (by decide) (fun c1 => ?_) (fun c1 => ?_)
  ·
    have c1 := z_le (i := 60) (j := (fi0 0).toInt) (by decide) rfl c1
    subst hQ9
    have ho2 : (0 ≤ (fi0 0).toInt ∧ (fi0 0).toInt ≤ 60) ∧ z_rng 0 59 (fa0 0) := ⟨⟨by omega, by omega⟩, hv0a0⟩
    exact W.vret hx hb hr (fun t ht hW => ⟨⟨((zl 0 [(fi0 0)]), (zl 0 []), (zl (fun _ => 0) [(fa0 0)]), (zl (fun _ => 0) [])), rfl, ho2, ⟨by rw [ht]; exact hP, hD⟩⟩, hS.F ht⟩) hS.2.2 dX2_join_29
  ·
    have c1 := z_nle (i := 60) (j := (fi0 0).toInt) (by decide) rfl c1
    refine lv_aload_n hx hb dX2_join_9 rfl (lv_at hl 0 rfl) ?_
    refine va_get (D := D) (ci := 2) (v := .ref (r0 1)) (C := RX2) (T := TX2) (N := 2) hx hb hts inX2 hown hK hP 0 rfl rfl 0 (by decide) lk9 (fun _ h9 => h9) rfl dX2_join_10 ?_
    refine lv_aload_n hx hb dX2_join_13 rfl (lv_at hl 0 rfl) ?_
    refine va_get (D := D) (ci := 2) (v := .int (fi0 0)) (C := RX2) (T := TX2) (N := 2) hx hb hts inX2 hown hK hP 0 rfl rfl 1 (by decide) lk15 (fun _ h9 => h9) rfl dX2_join_14 ?_
    refine lv_iload_n hx hb dX2_join_17 rfl (lv_at hl 1 rfl) ?_
    have hi3 : vp_in (fi0 0) 60 := z_in (i := (fi0 0).toInt) rfl (by omega) (by omega)
    refine va_iast hx hb hK hP hD hS 1 0 rfl rfl hi3 dX2_join_18 (fun H locs hP hD hS => ?_)
    generalize eg4 : upd (fa0 0) (fi0 0).toNatClampNeg p1 = g4 at hP hD
    have hg4 : z_rng 0 59 g4 := z_upd (i := p1.toInt) eg4.symm hv0a0 rfl (by omega) (by omega)
    have hP : va_P D vwCl (((r0 0), .inr (2, [.ref (r0 1), .int (fi0 0)])) :: ((r0 1), .inl (ca 0, 60, .inl g4)) :: rest) H := hP
    have hD : va_D A (((r0 0), .inr (2, [.ref (r0 1), .int (fi0 0)])) :: ((r0 1), .inl (ca 0, 60, .inl g4)) :: rest) := hD
    refine lv_aload_n hx hb dX2_join_19 rfl (lv_at hl 0 rfl) ?_
    refine lv_dup hx hb dX2_join_20 rfl ?_
    refine va_get (D := D) (ci := 2) (v := .int (fi0 0)) (C := RX2) (T := TX2) (N := 2) hx hb hts inX2 hown hK hP 0 rfl rfl 1 (by decide) lk15 (fun _ h9 => h9) rfl dX2_join_21 ?_
    refine lv_iconst (v := 1) hx hb dX2_join_24 (by decide) ?_
    refine lv_iadd hx hb dX2_join_25 ?_
    refine lv_topi (fun t5 et5 => ?_)
    try have ht5 : t5.toInt = (fi0 0).toInt + 1 := z_add et5 rfl (by decide) (by omega) (by omega)
    refine va_put (D := D) (ci := 2) (v := .int t5) (ty := .int) (C := RX2) (T := TX2) (N := 2) hx hb hts inX2 tyX2 tyX2_ok nmX2 hown hK hP hD hS 0 rfl rfl 1 (by decide) lk15 (fun _ h9 => h9) rfl (by decide +kernel) rfl rfl (Nat.le_of_ble_eq_true rfl) dX2_join_26 (fun H locs hP hD hS => ?_)
    have hP : va_P D vwCl (((r0 0), .inr (2, [.ref (r0 1), .int t5])) :: ((r0 1), .inl (ca 0, 60, .inl g4)) :: rest) H := hP
    have hD : va_D A (((r0 0), .inr (2, [.ref (r0 1), .int t5])) :: ((r0 1), .inl (ca 0, 60, .inl g4)) :: rest) := hD
    subst hQ9
    have ho6 : (0 ≤ t5.toInt ∧ t5.toInt ≤ 60) ∧ z_rng 0 59 g4 := ⟨⟨by omega, by omega⟩, hg4⟩
    exact W.vret hx hb hr (fun t ht hW => ⟨⟨((zl 0 [t5]), (zl 0 []), (zl (fun _ => 0) [g4]), (zl (fun _ => 0) [])), rfl, ho6, ⟨by rw [ht]; exact hP, hD⟩⟩, hS.F ht⟩) hS.2.2 dX2_join_29

set_option maxHeartbeats 8000000 in
set_option maxRecDepth 100000 in
theorem c_X3_add (l : Launch) (D : va_G) (ca : Nat → ClassId) (sa : Nat → Nat) (A : Nat → Prop) (rest : va_W) (r0 : Nat → Nat) (fi0 : Nat → Int32) (fl0 : Nat → Int64) (fa0 : Nat → Nat → Int32) (fb0 : Nat → Nat → Int64) (hv0 : Ok_LOG fi0 fa0) (p1 : Int32) (p2 : Int32) (p3 : Int64) (p5 : Int32) : Met l yX3_add wsX3_add ({ frames := 0, cells := 0, slots := 0, locals := 0 }) (va_Pc [.ref (r0 0), .int p1, .int p2, .long p3, .int p5] (zPre D ca sa A (w_LOG ca r0 fi0 fl0 fa0 fb0 (rest)))) (va_Qv (fun (u : zS) => Ok_LOG u.1 u.2.2.1) (fun u t => zPost D A (w_LOG ca r0 u.1 u.2.1 u.2.2.1 u.2.2.2 (rest)) t) A) 0 0 A := by
  refine Met.ofW (cc := cX3_add) (maxL := 6) (ret := none) (by decide) rfl ?_
  intro p e s m args below meth c s₁ B hml hv9
  obtain ⟨rfl, hE, hP, hD⟩ := hv9
  have hx := B.exec
  have hb := B.bytes
  have hr := B.returns
  have hts := atoms_spec (ws := wsX3_add) B.pre
  have hown : s.vm.findClass RX3 = some m.cls := findClass_of_methodNamed B.named
  have hlocks := B.notSynchronized
  have hK := hE.1
  have hF : CallFix p m c cX3_add 6 s _ wsX3_add RX3 := ⟨hx, hb, hml, hown, hts⟩
  have hS : va_S A s.heap s.heap [] := va_S.rf
  have lk26 := hts (.fieldLink RX3 26 "BranchPlay$Log" "length" "I") (by decide +kernel)
  have inX3 : ∀ w ∈ wsX30, w ∈ wsX3_add := by decide +kernel
  have lk11 := hts (.fieldLink RX3 11 "BranchPlay$Log" "ticks" "[I") (by decide +kernel)
  have lk15 := hts (.fieldLink RX3 15 "BranchPlay$Log" "hot" "[Z") (by decide +kernel)
  have lk19 := hts (.fieldLink RX3 19 "BranchPlay$Log" "held" "[I") (by decide +kernel)
  have lk22 := hts (.fieldLink RX3 22 "BranchPlay$Log" "contents" "[J") (by decide +kernel)
  obtain ⟨hv0i0, hv0j0⟩ := hv0
  generalize hHe : s.heap = H at hP
  have hS : va_S A s.heap H [] := by rw [← hHe]; exact hS
  have hP : va_P D vwCl (((r0 0), .inr (3, [.ref (r0 1), .ref (r0 2), .ref (r0 3), .ref (r0 4), .int (fi0 0)])) :: ((r0 1), .inl (ca 0, 259, .inl (fa0 0))) :: ((r0 2), .inl (ca 3, 259, .inl (fa0 1))) :: ((r0 3), .inl (ca 0, 259, .inl (fa0 2))) :: ((r0 4), .inl (ca 1, 259, .inr (.inl (fb0 0)))) :: rest) H := hP
  have hD : va_D A (((r0 0), .inr (3, [.ref (r0 1), .ref (r0 2), .ref (r0 3), .ref (r0 4), .int (fi0 0)])) :: ((r0 1), .inl (ca 0, 259, .inl (fa0 0))) :: ((r0 2), .inl (ca 3, 259, .inl (fa0 1))) :: ((r0 3), .inl (ca 0, 259, .inl (fa0 2))) :: ((r0 4), .inl (ca 1, 259, .inr (.inl (fb0 0)))) :: rest) := hD
  have hl := lv_entry ([.ref (r0 0), .int p1, .int p2, .long p3, .int p5]) (n := 6) (Nat.le_of_ble_eq_true rfl)
  rw [lg_entry_eq]
  generalize (lg_sl ([.ref (r0 0), .int p1, .int p2, .long p3, .int p5]) ++ List.replicate (6 - (lg_sl ([.ref (r0 0), .int p1, .int p2, .long p3, .int p5])).length) Slot.unset).toArray = ls at hl ⊢
  have hl : lv_has ls 6 [(0, .ref (r0 0)), (1, .int p1), (2, .int p2), (3, .long p3), (5, .int p5)] := hl
  generalize hQ9 : MQ below _ _ s 0 0 A = Q9
  refine lv_aload_n hx hb dX3_add_0 rfl (lv_at hl 0 rfl) ?_
  refine va_get (D := D) (ci := 3) (v := .int (fi0 0)) (C := RX3) (T := TX3) (N := 5) hx hb hts inX3 hown hK hP 0 rfl rfl 4 (by decide) lk26 (fun _ h9 => h9) rfl dX3_add_1 ?_
  refine lv_sipush (v := 259) hx hb dX3_add_4 (by decide) ?_
  refine lv_icmp_ge (tgt := 61) hx hb dX3_add_7 (by decide) (fun c1 => ?_) (fun c1 => ?_)
  ·
    have c1 := z_le (i := 259) (j := (fi0 0).toInt) (by decide) rfl c1
    subst hQ9
    have ho2 : (0 ≤ (fi0 0).toInt ∧ (fi0 0).toInt ≤ 259) := ⟨by omega, by omega⟩
    exact W.vret hx hb hr (fun t ht hW => ⟨⟨((zl 0 [(fi0 0)]), (zl 0 []), (zl (fun _ => 0) [(fa0 0), (fa0 1), (fa0 2)]), (zl (fun _ => 0) [(fb0 0)])), rfl, ho2, ⟨by rw [ht]; exact hP, hD⟩⟩, hS.F ht⟩) hS.2.2 dX3_add_61
  ·
    have c1 := z_nle (i := 259) (j := (fi0 0).toInt) (by decide) rfl c1
    refine lv_aload_n hx hb dX3_add_10 rfl (lv_at hl 0 rfl) ?_
    refine va_get (D := D) (ci := 3) (v := .ref (r0 1)) (C := RX3) (T := TX3) (N := 5) hx hb hts inX3 hown hK hP 0 rfl rfl 0 (by decide) lk11 (fun _ h9 => h9) rfl dX3_add_11 ?_
    refine lv_aload_n hx hb dX3_add_14 rfl (lv_at hl 0 rfl) ?_
    refine va_get (D := D) (ci := 3) (v := .int (fi0 0)) (C := RX3) (T := TX3) (N := 5) hx hb hts inX3 hown hK hP 0 rfl rfl 4 (by decide) lk26 (fun _ h9 => h9) rfl dX3_add_15 ?_
    refine lv_iload_n hx hb dX3_add_18 rfl (lv_at hl 1 rfl) ?_
    have hi3 : vp_in (fi0 0) 259 := z_in (i := (fi0 0).toInt) rfl (by omega) (by omega)
    refine va_iast hx hb hK hP hD hS 1 0 rfl rfl hi3 dX3_add_19 (fun H locs hP hD hS => ?_)
    generalize eg4 : upd (fa0 0) (fi0 0).toNatClampNeg p1 = g4 at hP hD
    have hP : va_P D vwCl (((r0 0), .inr (3, [.ref (r0 1), .ref (r0 2), .ref (r0 3), .ref (r0 4), .int (fi0 0)])) :: ((r0 1), .inl (ca 0, 259, .inl g4)) :: ((r0 2), .inl (ca 3, 259, .inl (fa0 1))) :: ((r0 3), .inl (ca 0, 259, .inl (fa0 2))) :: ((r0 4), .inl (ca 1, 259, .inr (.inl (fb0 0)))) :: rest) H := hP
    have hD : va_D A (((r0 0), .inr (3, [.ref (r0 1), .ref (r0 2), .ref (r0 3), .ref (r0 4), .int (fi0 0)])) :: ((r0 1), .inl (ca 0, 259, .inl g4)) :: ((r0 2), .inl (ca 3, 259, .inl (fa0 1))) :: ((r0 3), .inl (ca 0, 259, .inl (fa0 2))) :: ((r0 4), .inl (ca 1, 259, .inr (.inl (fb0 0)))) :: rest) := hD
    refine lv_aload_n hx hb dX3_add_20 rfl (lv_at hl 0 rfl) ?_
    refine va_get (D := D) (ci := 3) (v := .ref (r0 2)) (C := RX3) (T := TX3) (N := 5) hx hb hts inX3 hown hK hP 0 rfl rfl 1 (by decide) lk15 (fun _ h9 => h9) rfl dX3_add_21 ?_
    refine lv_aload_n hx hb dX3_add_24 rfl (lv_at hl 0 rfl) ?_
    refine va_get (D := D) (ci := 3) (v := .int (fi0 0)) (C := RX3) (T := TX3) (N := 5) hx hb hts inX3 hown hK hP 0 rfl rfl 4 (by decide) lk26 (fun _ h9 => h9) rfl dX3_add_25 ?_
    refine lv_iload_n hx hb dX3_add_28 rfl (lv_at hl 2 rfl) ?_
    have hi5 : vp_in (fi0 0) 259 := z_in (i := (fi0 0).toInt) rfl (by omega) (by omega)
    refine va_zast hx hb hK hP hD hS 2 3 rfl rfl hi5 dX3_add_29 (fun H locs hP hD hS => ?_)
    generalize eg6 : upd (fa0 1) (fi0 0).toNatClampNeg (vp_nar .boolean p2) = g6 at hP hD
    have hP : va_P D vwCl (((r0 0), .inr (3, [.ref (r0 1), .ref (r0 2), .ref (r0 3), .ref (r0 4), .int (fi0 0)])) :: ((r0 1), .inl (ca 0, 259, .inl g4)) :: ((r0 2), .inl (ca 3, 259, .inl g6)) :: ((r0 3), .inl (ca 0, 259, .inl (fa0 2))) :: ((r0 4), .inl (ca 1, 259, .inr (.inl (fb0 0)))) :: rest) H := hP
    have hD : va_D A (((r0 0), .inr (3, [.ref (r0 1), .ref (r0 2), .ref (r0 3), .ref (r0 4), .int (fi0 0)])) :: ((r0 1), .inl (ca 0, 259, .inl g4)) :: ((r0 2), .inl (ca 3, 259, .inl g6)) :: ((r0 3), .inl (ca 0, 259, .inl (fa0 2))) :: ((r0 4), .inl (ca 1, 259, .inr (.inl (fb0 0)))) :: rest) := hD
    refine lv_aload_n hx hb dX3_add_30 rfl (lv_at hl 0 rfl) ?_
    refine va_get (D := D) (ci := 3) (v := .ref (r0 3)) (C := RX3) (T := TX3) (N := 5) hx hb hts inX3 hown hK hP 0 rfl rfl 2 (by decide) lk19 (fun _ h9 => h9) rfl dX3_add_31 ?_
    refine lv_aload_n hx hb dX3_add_34 rfl (lv_at hl 0 rfl) ?_
    refine va_get (D := D) (ci := 3) (v := .int (fi0 0)) (C := RX3) (T := TX3) (N := 5) hx hb hts inX3 hown hK hP 0 rfl rfl 4 (by decide) lk26 (fun _ h9 => h9) rfl dX3_add_35 ?_
    refine lv_iload hx hb dX3_add_38 (lv_at hl 4 rfl) ?_
    have hi7 : vp_in (fi0 0) 259 := z_in (i := (fi0 0).toInt) rfl (by omega) (by omega)
    refine va_iast hx hb hK hP hD hS 3 0 rfl rfl hi7 dX3_add_40 (fun H locs hP hD hS => ?_)
    generalize eg8 : upd (fa0 2) (fi0 0).toNatClampNeg p5 = g8 at hP hD
    have hP : va_P D vwCl (((r0 0), .inr (3, [.ref (r0 1), .ref (r0 2), .ref (r0 3), .ref (r0 4), .int (fi0 0)])) :: ((r0 1), .inl (ca 0, 259, .inl g4)) :: ((r0 2), .inl (ca 3, 259, .inl g6)) :: ((r0 3), .inl (ca 0, 259, .inl g8)) :: ((r0 4), .inl (ca 1, 259, .inr (.inl (fb0 0)))) :: rest) H := hP
    have hD : va_D A (((r0 0), .inr (3, [.ref (r0 1), .ref (r0 2), .ref (r0 3), .ref (r0 4), .int (fi0 0)])) :: ((r0 1), .inl (ca 0, 259, .inl g4)) :: ((r0 2), .inl (ca 3, 259, .inl g6)) :: ((r0 3), .inl (ca 0, 259, .inl g8)) :: ((r0 4), .inl (ca 1, 259, .inr (.inl (fb0 0)))) :: rest) := hD
    refine lv_aload_n hx hb dX3_add_41 rfl (lv_at hl 0 rfl) ?_
    refine va_get (D := D) (ci := 3) (v := .ref (r0 4)) (C := RX3) (T := TX3) (N := 5) hx hb hts inX3 hown hK hP 0 rfl rfl 3 (by decide) lk22 (fun _ h9 => h9) rfl dX3_add_42 ?_
    refine lv_aload_n hx hb dX3_add_45 rfl (lv_at hl 0 rfl) ?_
    refine va_get (D := D) (ci := 3) (v := .int (fi0 0)) (C := RX3) (T := TX3) (N := 5) hx hb hts inX3 hown hK hP 0 rfl rfl 4 (by decide) lk26 (fun _ h9 => h9) rfl dX3_add_46 ?_
    refine lv_lload_n hx hb dX3_add_49 rfl (lv_at hl 3 rfl) ?_
    have hi9 : vp_in (fi0 0) 259 := z_in (i := (fi0 0).toInt) rfl (by omega) (by omega)
    refine va_last hx hb hK hP hD hS 4 1 rfl rfl hi9 dX3_add_50 (fun H locs hP hD hS => ?_)
    generalize eg10 : vp_updL (fb0 0) (fi0 0).toNatClampNeg p3 = g10 at hP hD
    have hP : va_P D vwCl (((r0 0), .inr (3, [.ref (r0 1), .ref (r0 2), .ref (r0 3), .ref (r0 4), .int (fi0 0)])) :: ((r0 1), .inl (ca 0, 259, .inl g4)) :: ((r0 2), .inl (ca 3, 259, .inl g6)) :: ((r0 3), .inl (ca 0, 259, .inl g8)) :: ((r0 4), .inl (ca 1, 259, .inr (.inl g10))) :: rest) H := hP
    have hD : va_D A (((r0 0), .inr (3, [.ref (r0 1), .ref (r0 2), .ref (r0 3), .ref (r0 4), .int (fi0 0)])) :: ((r0 1), .inl (ca 0, 259, .inl g4)) :: ((r0 2), .inl (ca 3, 259, .inl g6)) :: ((r0 3), .inl (ca 0, 259, .inl g8)) :: ((r0 4), .inl (ca 1, 259, .inr (.inl g10))) :: rest) := hD
    refine lv_aload_n hx hb dX3_add_51 rfl (lv_at hl 0 rfl) ?_
    refine lv_dup hx hb dX3_add_52 rfl ?_
    refine va_get (D := D) (ci := 3) (v := .int (fi0 0)) (C := RX3) (T := TX3) (N := 5) hx hb hts inX3 hown hK hP 0 rfl rfl 4 (by decide) lk26 (fun _ h9 => h9) rfl dX3_add_53 ?_
    refine lv_iconst (v := 1) hx hb dX3_add_56 (by decide) ?_
    refine lv_iadd hx hb dX3_add_57 ?_
    refine lv_topi (fun t11 et11 => ?_)
    try have ht11 : t11.toInt = (fi0 0).toInt + 1 := z_add et11 rfl (by decide) (by omega) (by omega)
    refine va_put (D := D) (ci := 3) (v := .int t11) (ty := .int) (C := RX3) (T := TX3) (N := 5) hx hb hts inX3 tyX3 tyX3_ok nmX3 hown hK hP hD hS 0 rfl rfl 4 (by decide) lk26 (fun _ h9 => h9) rfl (by decide +kernel) rfl rfl (Nat.le_of_ble_eq_true rfl) dX3_add_58 (fun H locs hP hD hS => ?_)
    have hP : va_P D vwCl (((r0 0), .inr (3, [.ref (r0 1), .ref (r0 2), .ref (r0 3), .ref (r0 4), .int t11])) :: ((r0 1), .inl (ca 0, 259, .inl g4)) :: ((r0 2), .inl (ca 3, 259, .inl g6)) :: ((r0 3), .inl (ca 0, 259, .inl g8)) :: ((r0 4), .inl (ca 1, 259, .inr (.inl g10))) :: rest) H := hP
    have hD : va_D A (((r0 0), .inr (3, [.ref (r0 1), .ref (r0 2), .ref (r0 3), .ref (r0 4), .int t11])) :: ((r0 1), .inl (ca 0, 259, .inl g4)) :: ((r0 2), .inl (ca 3, 259, .inl g6)) :: ((r0 3), .inl (ca 0, 259, .inl g8)) :: ((r0 4), .inl (ca 1, 259, .inr (.inl g10))) :: rest) := hD
    subst hQ9
    have ho12 : (0 ≤ t11.toInt ∧ t11.toInt ≤ 259) := ⟨by omega, by omega⟩
    exact W.vret hx hb hr (fun t ht hW => ⟨⟨((zl 0 [t11]), (zl 0 []), (zl (fun _ => 0) [g4, g6, g8]), (zl (fun _ => 0) [g10])), rfl, ho12, ⟨by rw [ht]; exact hP, hD⟩⟩, hS.F ht⟩) hS.2.2 dX3_add_61

set_option maxHeartbeats 8000000 in
set_option maxRecDepth 100000 in
theorem c_J6_bitCount_0f7a4 (l : Launch) (D : va_G) (ca : Nat → ClassId) (sa : Nat → Nat) (A : Nat → Prop) (rest : va_W) (p0 : Int32) : Met l yJ6_bitCount_0f7a4 wsJ6_bitCount_0f7a4 ({ frames := 0, cells := 0, slots := 0, locals := 0 }) (va_Pc [.int p0] (zPre D ca sa A (rest))) (va_Qi (fun (r : Int32) (u : Unit) => True) (fun u t => zPost D A (rest) t) A) 0 0 A := by
  refine Met.ofW (cc := cJ6_bitCount_0f7a4) (maxL := 1) (ret := (some .int)) (by decide) rfl ?_
  intro p e s m args below meth c s₁ B hml hv9
  obtain ⟨rfl, hE, hP, hD⟩ := hv9
  have hx := B.exec
  have hb := B.bytes
  have hr := B.returns
  have hts := atoms_spec (ws := wsJ6_bitCount_0f7a4) B.pre
  have hown : s.vm.findClass RJ6 = some m.cls := findClass_of_methodNamed B.named
  have hlocks := B.notSynchronized
  have hK := hE.1
  have hF : CallFix p m c cJ6_bitCount_0f7a4 1 s _ wsJ6_bitCount_0f7a4 RJ6 := ⟨hx, hb, hml, hown, hts⟩
  have hS : va_S A s.heap s.heap [] := va_S.rf
  have lc265 := hts (.constant RJ6 265 1431655765) (by decide +kernel)
  have lc266 := hts (.constant RJ6 266 858993459) (by decide +kernel)
  have lc267 := hts (.constant RJ6 267 252645135) (by decide +kernel)
  generalize hHe : s.heap = H at hP
  have hS : va_S A s.heap H [] := by rw [← hHe]; exact hS
  have hl := lv_entry ([.int p0]) (n := 1) (Nat.le_of_ble_eq_true rfl)
  rw [lg_entry_eq]
  generalize (lg_sl ([.int p0]) ++ List.replicate (1 - (lg_sl ([.int p0])).length) Slot.unset).toArray = ls at hl ⊢
  have hl : lv_has ls 1 [(0, .int p0)] := hl
  generalize hQ9 : MQ below _ _ s 0 0 A = Q9
  refine lv_iload_n hx hb dJ6_bitCount_0f7a4_0 rfl (lv_at hl 0 rfl) ?_
  refine lv_iload_n hx hb dJ6_bitCount_0f7a4_1 rfl (lv_at hl 0 rfl) ?_
  refine lv_iconst (v := 1) hx hb dJ6_bitCount_0f7a4_2 (by decide) ?_
  refine lv_iushr hx hb dJ6_bitCount_0f7a4_3 rfl ?_
  refine lv_topi (fun t1 et1 => ?_)
  refine lv_ldcw hx hb hown lc265 dJ6_bitCount_0f7a4_4 ?_
  refine lv_iand hx hb dJ6_bitCount_0f7a4_7 ?_
  refine lv_topi (fun t2 et2 => ?_)
  refine lv_isub hx hb dJ6_bitCount_0f7a4_8 ?_
  refine lv_topi (fun t3 et3 => ?_)
  try have ht3 : t3.toInt = p0.toInt - t2.toInt := z_sub et3 rfl rfl (by omega) (by omega)
  refine lv_istore_n (lv' := [(0, .int t3)]) hx hb dJ6_bitCount_0f7a4_9 rfl hl (by decide) rfl (fun ls hl => ?_)
  refine lv_iload_n hx hb dJ6_bitCount_0f7a4_10 rfl (lv_at hl 0 rfl) ?_
  refine lv_ldcw hx hb hown lc266 dJ6_bitCount_0f7a4_11 ?_
  refine lv_iand hx hb dJ6_bitCount_0f7a4_14 ?_
  refine lv_topi (fun t4 et4 => ?_)
  refine lv_iload_n hx hb dJ6_bitCount_0f7a4_15 rfl (lv_at hl 0 rfl) ?_
  refine lv_iconst (v := 2) hx hb dJ6_bitCount_0f7a4_16 (by decide) ?_
  refine lv_iushr hx hb dJ6_bitCount_0f7a4_17 rfl ?_
  refine lv_topi (fun t5 et5 => ?_)
  refine lv_ldcw hx hb hown lc266 dJ6_bitCount_0f7a4_18 ?_
  refine lv_iand hx hb dJ6_bitCount_0f7a4_21 ?_
  refine lv_topi (fun t6 et6 => ?_)
  refine lv_iadd hx hb dJ6_bitCount_0f7a4_22 ?_
  refine lv_topi (fun t7 et7 => ?_)
  try have ht7 : t7.toInt = t4.toInt + t6.toInt := z_add et7 rfl rfl (by omega) (by omega)
  refine lv_istore_n (lv' := [(0, .int t7)]) hx hb dJ6_bitCount_0f7a4_23 rfl hl (by decide) rfl (fun ls hl => ?_)
  refine lv_iload_n hx hb dJ6_bitCount_0f7a4_24 rfl (lv_at hl 0 rfl) ?_
  refine lv_iload_n hx hb dJ6_bitCount_0f7a4_25 rfl (lv_at hl 0 rfl) ?_
  refine lv_iconst (v := 4) hx hb dJ6_bitCount_0f7a4_26 (by decide) ?_
  refine lv_iushr hx hb dJ6_bitCount_0f7a4_27 rfl ?_
  refine lv_topi (fun t8 et8 => ?_)
  refine lv_iadd hx hb dJ6_bitCount_0f7a4_28 ?_
  refine lv_topi (fun t9 et9 => ?_)
  try have ht9 : t9.toInt = t7.toInt + t8.toInt := z_add et9 rfl rfl (by omega) (by omega)
  refine lv_ldcw hx hb hown lc267 dJ6_bitCount_0f7a4_29 ?_
  refine lv_iand hx hb dJ6_bitCount_0f7a4_32 ?_
  refine lv_topi (fun t10 et10 => ?_)
  refine lv_istore_n (lv' := [(0, .int t10)]) hx hb dJ6_bitCount_0f7a4_33 rfl hl (by decide) rfl (fun ls hl => ?_)
  refine lv_iload_n hx hb dJ6_bitCount_0f7a4_34 rfl (lv_at hl 0 rfl) ?_
  refine lv_iload_n hx hb dJ6_bitCount_0f7a4_35 rfl (lv_at hl 0 rfl) ?_
  refine lv_bipush (v := 8) hx hb dJ6_bitCount_0f7a4_36 (by decide) ?_
  refine lv_iushr hx hb dJ6_bitCount_0f7a4_38 rfl ?_
  refine lv_topi (fun t11 et11 => ?_)
  refine lv_iadd hx hb dJ6_bitCount_0f7a4_39 ?_
  refine lv_topi (fun t12 et12 => ?_)
  try have ht12 : t12.toInt = t10.toInt + t11.toInt := z_add et12 rfl rfl (by omega) (by omega)
  refine lv_istore_n (lv' := [(0, .int t12)]) hx hb dJ6_bitCount_0f7a4_40 rfl hl (by decide) rfl (fun ls hl => ?_)
  refine lv_iload_n hx hb dJ6_bitCount_0f7a4_41 rfl (lv_at hl 0 rfl) ?_
  refine lv_iload_n hx hb dJ6_bitCount_0f7a4_42 rfl (lv_at hl 0 rfl) ?_
  refine lv_bipush (v := 16) hx hb dJ6_bitCount_0f7a4_43 (by decide) ?_
  refine lv_iushr hx hb dJ6_bitCount_0f7a4_45 rfl ?_
  refine lv_topi (fun t13 et13 => ?_)
  refine lv_iadd hx hb dJ6_bitCount_0f7a4_46 ?_
  refine lv_topi (fun t14 et14 => ?_)
  try have ht14 : t14.toInt = t12.toInt + t13.toInt := z_add et14 rfl rfl (by omega) (by omega)
  refine lv_istore_n (lv' := [(0, .int t14)]) hx hb dJ6_bitCount_0f7a4_47 rfl hl (by decide) rfl (fun ls hl => ?_)
  refine lv_iload_n hx hb dJ6_bitCount_0f7a4_48 rfl (lv_at hl 0 rfl) ?_
  refine lv_bipush (v := 63) hx hb dJ6_bitCount_0f7a4_49 (by decide) ?_
  refine lv_iand hx hb dJ6_bitCount_0f7a4_51 ?_
  refine lv_topi (fun t15 et15 => ?_)
  subst hQ9
  exact W.iret (v := t15) hx hb hr (fun t ht hW => ⟨⟨t15, (), rfl, trivial, ⟨by rw [ht]; exact hP, hD⟩⟩, hS.F ht⟩) hS.2.2 dJ6_bitCount_0f7a4_52

set_option maxHeartbeats 8000000 in
set_option maxRecDepth 100000 in
theorem c_J13_bitCount_95d88 (l : Launch) (D : va_G) (ca : Nat → ClassId) (sa : Nat → Nat) (A : Nat → Prop) (rest : va_W) (p0 : Int64) : Met l yJ13_bitCount_95d88 wsJ13_bitCount_95d88 ({ frames := 0, cells := 0, slots := 0, locals := 0 }) (va_Pc [.long p0] (zPre D ca sa A (rest))) (va_Qi (fun (r : Int32) (u : Unit) => True) (fun u t => zPost D A (rest) t) A) 0 0 A := by
  refine Met.ofW (cc := cJ13_bitCount_95d88) (maxL := 2) (ret := (some .int)) (by decide) rfl ?_
  intro p e s m args below meth c s₁ B hml hv9
  obtain ⟨rfl, hE, hP, hD⟩ := hv9
  have hx := B.exec
  have hb := B.bytes
  have hr := B.returns
  have hts := atoms_spec (ws := wsJ13_bitCount_95d88) B.pre
  have hown : s.vm.findClass RJ13 = some m.cls := findClass_of_methodNamed B.named
  have hlocks := B.notSynchronized
  have hK := hE.1
  have hF : CallFix p m c cJ13_bitCount_95d88 2 s _ wsJ13_bitCount_95d88 RJ13 := ⟨hx, hb, hml, hown, hts⟩
  have hS : va_S A s.heap s.heap [] := va_S.rf
  have lc314 := hts (.constantLong RJ13 314 6148914691236517205) (by decide +kernel)
  have lc316 := hts (.constantLong RJ13 316 3689348814741910323) (by decide +kernel)
  have lc318 := hts (.constantLong RJ13 318 1085102592571150095) (by decide +kernel)
  generalize hHe : s.heap = H at hP
  have hS : va_S A s.heap H [] := by rw [← hHe]; exact hS
  have hl := lv_entry ([.long p0]) (n := 2) (Nat.le_of_ble_eq_true rfl)
  rw [lg_entry_eq]
  generalize (lg_sl ([.long p0]) ++ List.replicate (2 - (lg_sl ([.long p0])).length) Slot.unset).toArray = ls at hl ⊢
  have hl : lv_has ls 2 [(0, .long p0)] := hl
  generalize hQ9 : MQ below _ _ s 0 0 A = Q9
  refine lv_lload_n hx hb dJ13_bitCount_95d88_0 rfl (lv_at hl 0 rfl) ?_
  refine lv_lload_n hx hb dJ13_bitCount_95d88_1 rfl (lv_at hl 0 rfl) ?_
  refine lv_iconst (v := 1) hx hb dJ13_bitCount_95d88_2 (by decide) ?_
  refine lv_lushr hx hb dJ13_bitCount_95d88_3 rfl ?_
  refine lv_topl (fun t1 et1 => ?_)
  refine lv_ldc2 hx hb hown lc314 dJ13_bitCount_95d88_4 ?_
  refine lv_land hx hb dJ13_bitCount_95d88_7 ?_
  refine lv_topl (fun t2 et2 => ?_)
  refine lv_lsub hx hb dJ13_bitCount_95d88_8 ?_
  refine lv_topl (fun t3 et3 => ?_)
  refine lv_lstore_n (lv' := [(0, .long t3)]) hx hb dJ13_bitCount_95d88_9 rfl hl (by decide) rfl (fun ls hl => ?_)
  refine lv_lload_n hx hb dJ13_bitCount_95d88_10 rfl (lv_at hl 0 rfl) ?_
  refine lv_ldc2 hx hb hown lc316 dJ13_bitCount_95d88_11 ?_
  refine lv_land hx hb dJ13_bitCount_95d88_14 ?_
  refine lv_topl (fun t4 et4 => ?_)
  refine lv_lload_n hx hb dJ13_bitCount_95d88_15 rfl (lv_at hl 0 rfl) ?_
  refine lv_iconst (v := 2) hx hb dJ13_bitCount_95d88_16 (by decide) ?_
  refine lv_lushr hx hb dJ13_bitCount_95d88_17 rfl ?_
  refine lv_topl (fun t5 et5 => ?_)
  refine lv_ldc2 hx hb hown lc316 dJ13_bitCount_95d88_18 ?_
  refine lv_land hx hb dJ13_bitCount_95d88_21 ?_
  refine lv_topl (fun t6 et6 => ?_)
  refine lv_ladd hx hb dJ13_bitCount_95d88_22 ?_
  refine lv_topl (fun t7 et7 => ?_)
  refine lv_lstore_n (lv' := [(0, .long t7)]) hx hb dJ13_bitCount_95d88_23 rfl hl (by decide) rfl (fun ls hl => ?_)
  refine lv_lload_n hx hb dJ13_bitCount_95d88_24 rfl (lv_at hl 0 rfl) ?_
  refine lv_lload_n hx hb dJ13_bitCount_95d88_25 rfl (lv_at hl 0 rfl) ?_
  refine lv_iconst (v := 4) hx hb dJ13_bitCount_95d88_26 (by decide) ?_
  refine lv_lushr hx hb dJ13_bitCount_95d88_27 rfl ?_
  refine lv_topl (fun t8 et8 => ?_)
  refine lv_ladd hx hb dJ13_bitCount_95d88_28 ?_
  refine lv_topl (fun t9 et9 => ?_)
  refine lv_ldc2 hx hb hown lc318 dJ13_bitCount_95d88_29 ?_
  refine lv_land hx hb dJ13_bitCount_95d88_32 ?_
  refine lv_topl (fun t10 et10 => ?_)
  refine lv_lstore_n (lv' := [(0, .long t10)]) hx hb dJ13_bitCount_95d88_33 rfl hl (by decide) rfl (fun ls hl => ?_)
  refine lv_lload_n hx hb dJ13_bitCount_95d88_34 rfl (lv_at hl 0 rfl) ?_
  refine lv_lload_n hx hb dJ13_bitCount_95d88_35 rfl (lv_at hl 0 rfl) ?_
  refine lv_bipush (v := 8) hx hb dJ13_bitCount_95d88_36 (by decide) ?_
  refine lv_lushr hx hb dJ13_bitCount_95d88_38 rfl ?_
  refine lv_topl (fun t11 et11 => ?_)
  refine lv_ladd hx hb dJ13_bitCount_95d88_39 ?_
  refine lv_topl (fun t12 et12 => ?_)
  refine lv_lstore_n (lv' := [(0, .long t12)]) hx hb dJ13_bitCount_95d88_40 rfl hl (by decide) rfl (fun ls hl => ?_)
  refine lv_lload_n hx hb dJ13_bitCount_95d88_41 rfl (lv_at hl 0 rfl) ?_
  refine lv_lload_n hx hb dJ13_bitCount_95d88_42 rfl (lv_at hl 0 rfl) ?_
  refine lv_bipush (v := 16) hx hb dJ13_bitCount_95d88_43 (by decide) ?_
  refine lv_lushr hx hb dJ13_bitCount_95d88_45 rfl ?_
  refine lv_topl (fun t13 et13 => ?_)
  refine lv_ladd hx hb dJ13_bitCount_95d88_46 ?_
  refine lv_topl (fun t14 et14 => ?_)
  refine lv_lstore_n (lv' := [(0, .long t14)]) hx hb dJ13_bitCount_95d88_47 rfl hl (by decide) rfl (fun ls hl => ?_)
  refine lv_lload_n hx hb dJ13_bitCount_95d88_48 rfl (lv_at hl 0 rfl) ?_
  refine lv_lload_n hx hb dJ13_bitCount_95d88_49 rfl (lv_at hl 0 rfl) ?_
  refine lv_bipush (v := 32) hx hb dJ13_bitCount_95d88_50 (by decide) ?_
  refine lv_lushr hx hb dJ13_bitCount_95d88_52 rfl ?_
  refine lv_topl (fun t15 et15 => ?_)
  refine lv_ladd hx hb dJ13_bitCount_95d88_53 ?_
  refine lv_topl (fun t16 et16 => ?_)
  refine lv_lstore_n (lv' := [(0, .long t16)]) hx hb dJ13_bitCount_95d88_54 rfl hl (by decide) rfl (fun ls hl => ?_)
  refine lv_lload_n hx hb dJ13_bitCount_95d88_55 rfl (lv_at hl 0 rfl) ?_
  refine lv_l2i hx hb dJ13_bitCount_95d88_56 rfl ?_
  refine lv_topi (fun t17 et17 => ?_)
  refine lv_bipush (v := 127) hx hb dJ13_bitCount_95d88_57 (by decide) ?_
  refine lv_iand hx hb dJ13_bitCount_95d88_59 ?_
  refine lv_topi (fun t18 et18 => ?_)
  subst hQ9
  exact W.iret (v := t18) hx hb hr (fun t ht hW => ⟨⟨t18, (), rfl, trivial, ⟨by rw [ht]; exact hP, hD⟩⟩, hS.F ht⟩) hS.2.2 dJ13_bitCount_95d88_60

set_option maxHeartbeats 8000000 in
set_option maxRecDepth 100000 in
theorem c_X3_tell (l : Launch) (D : va_G) (ca : Nat → ClassId) (sa : Nat → Nat) (A : Nat → Prop) (rest : va_W) (r0 : Nat → Nat) (fi0 : Nat → Int32) (fl0 : Nat → Int64) (fa0 : Nat → Nat → Int32) (fb0 : Nat → Nat → Int64) (hv0 : Ok_LOG fi0 fa0) (p1 : Int32) (p2 : Int32) (hpre0 : 0 ≤ p1.toInt ∧ p1.toInt ≤ 258) : Met l yX3_tell wsX3_tell ({ frames := 1, cells := 0, slots := 0, locals := 21 }) (va_Pc [.ref (r0 0), .int p1, .int p2] (zPre D ca sa A (w_LOG ca r0 fi0 fl0 fa0 fb0 (rest)))) (va_Qi (fun (r : Int32) (u : Unit) => True) (fun u t => zPost D A (w_LOG ca r0 fi0 fl0 fa0 fb0 (rest)) t) A) 0 0 A := by
  refine Met.ofW (cc := cX3_tell) (maxL := 3) (ret := (some .int)) (by decide) rfl ?_
  intro p e s m args below meth c s₁ B hml hv9
  obtain ⟨rfl, hE, hP, hD⟩ := hv9
  have hx := B.exec
  have hb := B.bytes
  have hr := B.returns
  have hts := atoms_spec (ws := wsX3_tell) B.pre
  have hown : s.vm.findClass RX3 = some m.cls := findClass_of_methodNamed B.named
  have hlocks := B.notSynchronized
  have hK := hE.1
  have hF : CallFix p m c cX3_tell 3 s _ wsX3_tell RX3 := ⟨hx, hb, hml, hown, hts⟩
  have hS : va_S A s.heap s.heap [] := va_S.rf
  have lk11 := hts (.fieldLink RX3 11 "BranchPlay$Log" "ticks" "[I") (by decide +kernel)
  have inX3 : ∀ w ∈ wsX30, w ∈ wsX3_tell := by decide +kernel
  have lk15 := hts (.fieldLink RX3 15 "BranchPlay$Log" "hot" "[Z") (by decide +kernel)
  have lk22 := hts (.fieldLink RX3 22 "BranchPlay$Log" "contents" "[J") (by decide +kernel)
  have lk19 := hts (.fieldLink RX3 19 "BranchPlay$Log" "held" "[I") (by decide +kernel)
  obtain ⟨hv0i0, hv0j0⟩ := hv0
  generalize hHe : s.heap = H at hP
  have hS : va_S A s.heap H [] := by rw [← hHe]; exact hS
  have hP : va_P D vwCl (((r0 0), .inr (3, [.ref (r0 1), .ref (r0 2), .ref (r0 3), .ref (r0 4), .int (fi0 0)])) :: ((r0 1), .inl (ca 0, 259, .inl (fa0 0))) :: ((r0 2), .inl (ca 3, 259, .inl (fa0 1))) :: ((r0 3), .inl (ca 0, 259, .inl (fa0 2))) :: ((r0 4), .inl (ca 1, 259, .inr (.inl (fb0 0)))) :: rest) H := hP
  have hD : va_D A (((r0 0), .inr (3, [.ref (r0 1), .ref (r0 2), .ref (r0 3), .ref (r0 4), .int (fi0 0)])) :: ((r0 1), .inl (ca 0, 259, .inl (fa0 0))) :: ((r0 2), .inl (ca 3, 259, .inl (fa0 1))) :: ((r0 3), .inl (ca 0, 259, .inl (fa0 2))) :: ((r0 4), .inl (ca 1, 259, .inr (.inl (fb0 0)))) :: rest) := hD
  have hl := lv_entry ([.ref (r0 0), .int p1, .int p2]) (n := 3) (Nat.le_of_ble_eq_true rfl)
  rw [lg_entry_eq]
  generalize (lg_sl ([.ref (r0 0), .int p1, .int p2]) ++ List.replicate (3 - (lg_sl ([.ref (r0 0), .int p1, .int p2])).length) Slot.unset).toArray = ls at hl ⊢
  have hl : lv_has ls 3 [(0, .ref (r0 0)), (1, .int p1), (2, .int p2)] := hl
  generalize hQ9 : MQ below _ _ s 0 0 A = Q9
  refine lv_iload_n hx hb dX3_tell_0 rfl (lv_at hl 2 rfl) ?_
  by_cases c1 : p2.toInt = 0
  ·
    refine lv_tableIn (tgt := 32) hx hb dX3_tell_1 (by omega) (by omega) (by rw [c1]; rfl) (by decide) ?_
    refine lv_aload_n hx hb dX3_tell_32 rfl (lv_at hl 0 rfl) ?_
    refine va_get (D := D) (ci := 3) (v := .ref (r0 1)) (C := RX3) (T := TX3) (N := 5) hx hb hts inX3 hown hK hP 0 rfl rfl 0 (by decide) lk11 (fun _ h9 => h9) rfl dX3_tell_33 ?_
    refine lv_iload_n hx hb dX3_tell_36 rfl (lv_at hl 1 rfl) ?_
    have hi2 : vp_in p1 259 := z_in (i := p1.toInt) rfl (by omega) (by omega)
    refine va_iald hx hb hK hP 1 0 rfl rfl hi2 dX3_tell_37 ?_
    refine lv_topi (fun t3 et3 => ?_)
    subst hQ9
    exact W.iret (v := t3) hx hb hr (fun t ht hW => ⟨⟨t3, (), rfl, trivial, ⟨by rw [ht]; exact hP, hD⟩⟩, hS.F ht⟩) hS.2.2 dX3_tell_38
  by_cases c4 : p2.toInt = 1
  ·
    refine lv_tableIn (tgt := 39) hx hb dX3_tell_1 (by omega) (by omega) (by rw [c4]; rfl) (by decide) ?_
    refine lv_aload_n hx hb dX3_tell_39 rfl (lv_at hl 0 rfl) ?_
    refine va_get (D := D) (ci := 3) (v := .ref (r0 2)) (C := RX3) (T := TX3) (N := 5) hx hb hts inX3 hown hK hP 0 rfl rfl 1 (by decide) lk15 (fun _ h9 => h9) rfl dX3_tell_40 ?_
    refine lv_iload_n hx hb dX3_tell_43 rfl (lv_at hl 1 rfl) ?_
    have hi5 : vp_in p1 259 := z_in (i := p1.toInt) rfl (by omega) (by omega)
    refine va_zald hx hb hK hP 2 3 rfl rfl hi5 dX3_tell_44 ?_
    refine lv_topi (fun t6 et6 => ?_)
    refine lv_if_eq (tgt := 52) hx hb dX3_tell_45 (by decide) (fun c7 => ?_) (fun c7 => ?_)
    ·
      have c7 := z_eq (i := t6.toInt) (j := 0) rfl (by decide) c7
      refine lv_iconst (v := 0) hx hb dX3_tell_52 (by decide) ?_
      subst hQ9
      refine lv_topi (fun t8 et8 => ?_)
      have ht8 : t8.toInt = 0 := by rw [et8]; decide
      exact W.iret (v := t8) hx hb hr (fun t ht hW => ⟨⟨t8, (), rfl, trivial, ⟨by rw [ht]; exact hP, hD⟩⟩, hS.F ht⟩) hS.2.2 dX3_tell_53
    ·
      have c7 := z_ne (i := t6.toInt) (j := 0) rfl (by decide) c7
      refine lv_iconst (v := 1) hx hb dX3_tell_48 (by decide) ?_
      refine lv_goto (tgt := 53) hx hb dX3_tell_49 (by decide) ?_
      subst hQ9
      refine lv_topi (fun t9 et9 => ?_)
      have ht9 : t9.toInt = 1 := by rw [et9]; decide
      exact W.iret (v := t9) hx hb hr (fun t ht hW => ⟨⟨t9, (), rfl, trivial, ⟨by rw [ht]; exact hP, hD⟩⟩, hS.F ht⟩) hS.2.2 dX3_tell_53
  by_cases c10 : p2.toInt = 2
  ·
    refine lv_tableIn (tgt := 54) hx hb dX3_tell_1 (by omega) (by omega) (by rw [c10]; rfl) (by decide) ?_
    refine lv_aload_n hx hb dX3_tell_54 rfl (lv_at hl 0 rfl) ?_
    refine va_get (D := D) (ci := 3) (v := .ref (r0 4)) (C := RX3) (T := TX3) (N := 5) hx hb hts inX3 hown hK hP 0 rfl rfl 3 (by decide) lk22 (fun _ h9 => h9) rfl dX3_tell_55 ?_
    refine lv_iload_n hx hb dX3_tell_58 rfl (lv_at hl 1 rfl) ?_
    have hi11 : vp_in p1 259 := z_in (i := p1.toInt) rfl (by omega) (by omega)
    refine va_lald hx hb hK hP 4 1 rfl rfl hi11 dX3_tell_59 ?_
    refine lv_topl (fun t12 et12 => ?_)
    refine z_iS (As := [.long t12]) (rest := []) hF (c_J13_bitCount_95d88 l D ca sa A _ t12) (va_cwS 1 hts gX3_tell_J13_bitCount_95d88 rfl rfl rfl (by decide +kernel) ⟨Nat.le_of_ble_eq_true rfl, Nat.le_of_ble_eq_true rfl⟩) hE hP hD hS rfl hl.1 rfl (Nat.le_of_ble_eq_true rfl) dX3_tell_60 ⟨Nat.zero_le _, Nat.zero_le _⟩ (fun t14 u13 H locs hw15 hP hD hS => ?_)
    subst hQ9
    exact W.iret (v := t14) hx hb hr (fun t ht hW => ⟨⟨t14, (), rfl, trivial, ⟨by rw [ht]; exact hP, hD⟩⟩, hS.F ht⟩) hS.2.2 dX3_tell_63
  by_cases c16 : p2.toInt = 3
  ·
    refine lv_tableIn (tgt := 64) hx hb dX3_tell_1 (by omega) (by omega) (by rw [c16]; rfl) (by decide) ?_
    refine lv_aload_n hx hb dX3_tell_64 rfl (lv_at hl 0 rfl) ?_
    refine va_get (D := D) (ci := 3) (v := .ref (r0 3)) (C := RX3) (T := TX3) (N := 5) hx hb hts inX3 hown hK hP 0 rfl rfl 2 (by decide) lk19 (fun _ h9 => h9) rfl dX3_tell_65 ?_
    refine lv_iload_n hx hb dX3_tell_68 rfl (lv_at hl 1 rfl) ?_
    have hi17 : vp_in p1 259 := z_in (i := p1.toInt) rfl (by omega) (by omega)
    refine va_iald hx hb hK hP 3 0 rfl rfl hi17 dX3_tell_69 ?_
    refine lv_topi (fun t18 et18 => ?_)
    subst hQ9
    exact W.iret (v := t18) hx hb hr (fun t ht hW => ⟨⟨t18, (), rfl, trivial, ⟨by rw [ht]; exact hP, hD⟩⟩, hS.F ht⟩) hS.2.2 dX3_tell_70
  refine lv_tableOut (tgt := 71) hx hb dX3_tell_1 (by omega) (by decide) ?_
  refine lv_bipush (v := (-9)) hx hb dX3_tell_71 (by decide) ?_
  subst hQ9
  refine lv_topi (fun t19 et19 => ?_)
  have ht19 : t19.toInt = (-9) := by rw [et19]; decide
  exact W.iret (v := t19) hx hb hr (fun t ht hW => ⟨⟨t19, (), rfl, trivial, ⟨by rw [ht]; exact hP, hD⟩⟩, hS.F ht⟩) hS.2.2 dX3_tell_73
