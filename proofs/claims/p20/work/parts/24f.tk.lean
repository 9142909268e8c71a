def zLt (x : Int32) : Prop := 97 ≤ x.toInt ∧ x.toInt ≤ 122
def zDg (x : Int32) : Prop := 48 ≤ x.toInt ∧ x.toInt ≤ 57
def zBk (x : Int32) : Prop := x.toInt = 32 ∨ x.toInt = 10
/-- from p to q all are of a kind, q is not (or the text's end) -/
def zRun (P : Int32 → Prop) (f : Nat → Int32) (n : Int) (p q : Nat) : Prop := p ≤ q ∧ (∀ i : Nat, p ≤ i → i < q → (i : Int) < n ∧ P (f i)) ∧ ¬ ((q : Int) < n ∧ P (f q))
theorem zRun_u {P : Int32 → Prop} {f : Nat → Int32} {n : Int} {p q r : Nat} (h : zRun P f n p q) (h2 : zRun P f n p r) : q = r := by
  rcases (show q < r ∨ r < q ∨ q = r by omega) with a | a | a
  · exact absurd (h2.2.1 q h.1 a) h.2.2
  · exact absurd (h.2.1 r h2.1 a) h2.2.2
  · exact a
/-- where a token that begins at p ends -/
def zTk (f : Nat → Int32) (n : Int) (p q : Nat) : Prop := (zLt (f p) ∧ zRun zLt f n (p + 1) q) ∨ (¬ zLt (f p) ∧ zDg (f p) ∧ zRun zDg f n (p + 1) q) ∨ (¬ zLt (f p) ∧ ¬ zDg (f p) ∧ q = p + 1)
theorem zTk_u {f : Nat → Int32} {n : Int} {p q r : Nat} (h : zTk f n p q) (h2 : zTk f n p r) : q = r := by
  rcases h with ⟨a, b⟩ | ⟨a, b, d⟩ | ⟨a, b, d⟩ <;> rcases h2 with ⟨a2, b2⟩ | ⟨a2, b2, d2⟩ | ⟨a2, b2, d2⟩
  · exact zRun_u b b2
  · exact absurd a a2
  · exact absurd a a2
  · exact absurd a2 a
  · exact zRun_u d d2
  · exact absurd b b2
  · exact absurd a2 a
  · exact absurd b2 b
  · omega

set_option maxHeartbeats 8000000 in
set_option maxRecDepth 100000 in
theorem c_X7_isLetter_R (l : Launch) (D : va_G) (ca : Nat → ClassId) (sa : Nat → Nat) (A : Nat → Prop) (rest : va_W) (r0 : Nat → Nat) (fi0 : Nat → Int32) (fl0 : Nat → Int64) (fa0 : Nat → Nat → Int32) (fb0 : Nat → Nat → Int64) (hv0 : Ok_TAPE fi0 fa0) (p1 : Int32) (hpre0 : 0 ≤ p1.toInt ∧ p1.toInt ≤ 599) : Met l yX7_isLetter wsX7_isLetter ({ frames := 0, cells := 0, slots := 0, locals := 0 }) (va_Pc [.ref (r0 0), .int p1] (zPre D ca sa A (w_TAPE ca r0 fi0 fl0 fa0 fb0 (rest)))) (va_Qi (fun (r : Int32) (u : Unit) => (0 ≤ r.toInt ∧ r.toInt ≤ 1) ∧ (((r).toInt = 1 ∧ zLt ((fa0 0) p1.toNatClampNeg)) ∨ ((r).toInt = 0 ∧ ¬ zLt ((fa0 0) p1.toNatClampNeg)))) (fun u t => zPost D A (w_TAPE ca r0 fi0 fl0 fa0 fb0 (rest)) t) A) 0 0 A := by
  refine Met.ofW (cc := cX7_isLetter) (maxL := 2) (ret := (some .boolean)) (by decide) rfl ?_
  intro p e s m args below meth c s₁ B hml hv9
  obtain ⟨rfl, hE, hP, hD⟩ := hv9
  have hx := B.exec
  have hb := B.bytes
  have hr := B.returns
  have hts := atoms_spec (ws := wsX7_isLetter) B.pre
  have hown : s.vm.findClass RX7 = some m.cls := findClass_of_methodNamed B.named
  have hlocks := B.notSynchronized
  have hK := hE.1
  have hF : CallFix p m c cX7_isLetter 2 s _ wsX7_isLetter RX7 := ⟨hx, hb, hml, hown, hts⟩
  have hS : va_S A s.heap s.heap [] := va_S.rf
  have lk11 := hts (.fieldLink RX7 11 "BranchPlay$Tape" "bytes" "[B") (by decide +kernel)
  have inX7 : ∀ w ∈ wsX70, w ∈ wsX7_isLetter := by decide +kernel
  obtain ⟨hv0i0, hv0j0⟩ := hv0
  generalize hHe : s.heap = H at hP
  have hS : va_S A s.heap H [] := by rw [← hHe]; exact hS
  have hP : va_P D vwCl (((r0 0), .inr (7, [.ref (r0 1), .int (fi0 0)])) :: ((r0 1), .inl (ca 2, 600, .inl (fa0 0))) :: rest) H := hP
  have hD : va_D A (((r0 0), .inr (7, [.ref (r0 1), .int (fi0 0)])) :: ((r0 1), .inl (ca 2, 600, .inl (fa0 0))) :: rest) := hD
  have hl := lv_entry ([.ref (r0 0), .int p1]) (n := 2) (Nat.le_of_ble_eq_true rfl)
  rw [lg_entry_eq]
  generalize (lg_sl ([.ref (r0 0), .int p1]) ++ List.replicate (2 - (lg_sl ([.ref (r0 0), .int p1])).length) Slot.unset).toArray = ls at hl ⊢
  have hl : lv_has ls 2 [(0, .ref (r0 0)), (1, .int p1)] := hl
  generalize hQ9 : MQ below _ _ s 0 0 A = Q9
  refine lv_aload_n hx hb dX7_isLetter_0 rfl (lv_at hl 0 rfl) ?_
  refine va_get (D := D) (ci := 7) (v := .ref (r0 1)) (C := RX7) (T := TX7) (N := 2) hx hb hts inX7 hown hK hP 0 rfl rfl 0 (by decide) lk11 (fun _ h9 => h9) rfl dX7_isLetter_1 ?_
  refine lv_iload_n hx hb dX7_isLetter_4 rfl (lv_at hl 1 rfl) ?_
  have hi1 : vp_in p1 600 := z_in (i := p1.toInt) rfl (by omega) (by omega)
  refine va_bald hx hb hK hP 1 2 rfl rfl hi1 dX7_isLetter_5 ?_
  refine lv_topi (fun t2 et2 => ?_)
  have ht2v : t2.toInt = ((fa0 0) p1.toNatClampNeg).toInt := by rw [et2]
  refine lv_bipush (v := 97) hx hb dX7_isLetter_6 (by decide) ?_
  refine lv_icmp_lt (tgt := 26) hx hb dX7_isLetter_8 (by decide) (fun c3 => ?_) (fun c3 => ?_)
  ·
    have c3 := z_lt (i := t2.toInt) (j := 97) rfl (by decide) c3
    refine lv_iconst (v := 0) hx hb dX7_isLetter_26 (by decide) ?_
    rw [← hQ9]
    refine lv_topi (fun t4 et4 => ?_)
    have ht4 : t4.toInt = 0 := by rw [et4]; decide
    have hq5 : 0 ≤ t4.toInt ∧ t4.toInt ≤ 1 := by omega
    have hq6 : ((t4).toInt = 1 ∧ zLt ((fa0 0) p1.toNatClampNeg)) ∨ ((t4).toInt = 0 ∧ ¬ zLt ((fa0 0) p1.toNatClampNeg)) := Or.inr ⟨by omega, by unfold zLt; omega⟩
    have hz7 : narrow .boolean (.int t4) = .int t4 := z_nz (by constructor <;> omega)
    exact W.zret (v := t4) hx hb hr hz7 (fun t ht hW => ⟨⟨t4, (), rfl, ⟨hq5, hq6⟩, ⟨by rw [ht]; exact hP, hD⟩⟩, hS.F ht⟩) hS.2.2 dX7_isLetter_27
  ·
    have c3 := z_nlt (i := t2.toInt) (j := 97) rfl (by decide) c3
    refine lv_aload_n hx hb dX7_isLetter_11 rfl (lv_at hl 0 rfl) ?_
    refine va_get (D := D) (ci := 7) (v := .ref (r0 1)) (C := RX7) (T := TX7) (N := 2) hx hb hts inX7 hown hK hP 0 rfl rfl 0 (by decide) lk11 (fun _ h9 => h9) rfl dX7_isLetter_12 ?_
    refine lv_iload_n hx hb dX7_isLetter_15 rfl (lv_at hl 1 rfl) ?_
    have hi8 : vp_in p1 600 := z_in (i := p1.toInt) rfl (by omega) (by omega)
    refine va_bald hx hb hK hP 1 2 rfl rfl hi8 dX7_isLetter_16 ?_
    refine lv_topi (fun t9 et9 => ?_)
    have ht9q : t9.toInt = t2.toInt := by rw [et9, et2]
    have ht9v : t9.toInt = ((fa0 0) p1.toNatClampNeg).toInt := by rw [et9]
    refine lv_bipush (v := 122) hx hb dX7_isLetter_17 (by decide) ?_
    refine lv_icmp_gt (tgt := 26) hx hb dX7_isLetter_19 (by decide) (fun c10 => ?_) (fun c10 => ?_)
    ·
      have c10 := z_lt (i := 122) (j := t9.toInt) (by decide) rfl c10
      refine lv_iconst (v := 0) hx hb dX7_isLetter_26 (by decide) ?_
      rw [← hQ9]
      refine lv_topi (fun t11 et11 => ?_)
      have ht11 : t11.toInt = 0 := by rw [et11]; decide
      have hq12 : 0 ≤ t11.toInt ∧ t11.toInt ≤ 1 := by omega
      have hq13 : ((t11).toInt = 1 ∧ zLt ((fa0 0) p1.toNatClampNeg)) ∨ ((t11).toInt = 0 ∧ ¬ zLt ((fa0 0) p1.toNatClampNeg)) := Or.inr ⟨by omega, by unfold zLt; omega⟩
      have hz14 : narrow .boolean (.int t11) = .int t11 := z_nz (by constructor <;> omega)
      exact W.zret (v := t11) hx hb hr hz14 (fun t ht hW => ⟨⟨t11, (), rfl, ⟨hq12, hq13⟩, ⟨by rw [ht]; exact hP, hD⟩⟩, hS.F ht⟩) hS.2.2 dX7_isLetter_27
    ·
      have c10 := z_nlt (i := 122) (j := t9.toInt) (by decide) rfl c10
      refine lv_iconst (v := 1) hx hb dX7_isLetter_22 (by decide) ?_
      refine lv_goto (tgt := 27) hx hb dX7_isLetter_23 (by decide) ?_
      rw [← hQ9]
      refine lv_topi (fun t15 et15 => ?_)
      have ht15 : t15.toInt = 1 := by rw [et15]; decide
      have hq16 : 0 ≤ t15.toInt ∧ t15.toInt ≤ 1 := by omega
      have hq17 : ((t15).toInt = 1 ∧ zLt ((fa0 0) p1.toNatClampNeg)) ∨ ((t15).toInt = 0 ∧ ¬ zLt ((fa0 0) p1.toNatClampNeg)) := Or.inl ⟨by omega, by unfold zLt; omega⟩
      have hz18 : narrow .boolean (.int t15) = .int t15 := z_nz (by constructor <;> omega)
      exact W.zret (v := t15) hx hb hr hz18 (fun t ht hW => ⟨⟨t15, (), rfl, ⟨hq16, hq17⟩, ⟨by rw [ht]; exact hP, hD⟩⟩, hS.F ht⟩) hS.2.2 dX7_isLetter_27

set_option maxHeartbeats 8000000 in
set_option maxRecDepth 100000 in
theorem c_X7_isDigit_R (l : Launch) (D : va_G) (ca : Nat → ClassId) (sa : Nat → Nat) (A : Nat → Prop) (rest : va_W) (r0 : Nat → Nat) (fi0 : Nat → Int32) (fl0 : Nat → Int64) (fa0 : Nat → Nat → Int32) (fb0 : Nat → Nat → Int64) (hv0 : Ok_TAPE fi0 fa0) (p1 : Int32) (hpre0 : 0 ≤ p1.toInt ∧ p1.toInt ≤ 599) : Met l yX7_isDigit wsX7_isDigit ({ frames := 0, cells := 0, slots := 0, locals := 0 }) (va_Pc [.ref (r0 0), .int p1] (zPre D ca sa A (w_TAPE ca r0 fi0 fl0 fa0 fb0 (rest)))) (va_Qi (fun (r : Int32) (u : Unit) => (0 ≤ r.toInt ∧ r.toInt ≤ 1) ∧ (((r).toInt = 1 ∧ zDg ((fa0 0) p1.toNatClampNeg)) ∨ ((r).toInt = 0 ∧ ¬ zDg ((fa0 0) p1.toNatClampNeg)))) (fun u t => zPost D A (w_TAPE ca r0 fi0 fl0 fa0 fb0 (rest)) t) A) 0 0 A := by
  refine Met.ofW (cc := cX7_isDigit) (maxL := 2) (ret := (some .boolean)) (by decide) rfl ?_
  intro p e s m args below meth c s₁ B hml hv9
  obtain ⟨rfl, hE, hP, hD⟩ := hv9
  have hx := B.exec
  have hb := B.bytes
  have hr := B.returns
  have hts := atoms_spec (ws := wsX7_isDigit) B.pre
  have hown : s.vm.findClass RX7 = some m.cls := findClass_of_methodNamed B.named
  have hlocks := B.notSynchronized
  have hK := hE.1
  have hF : CallFix p m c cX7_isDigit 2 s _ wsX7_isDigit RX7 := ⟨hx, hb, hml, hown, hts⟩
  have hS : va_S A s.heap s.heap [] := va_S.rf
  have lk11 := hts (.fieldLink RX7 11 "BranchPlay$Tape" "bytes" "[B") (by decide +kernel)
  have inX7 : ∀ w ∈ wsX70, w ∈ wsX7_isDigit := by decide +kernel
  obtain ⟨hv0i0, hv0j0⟩ := hv0
  generalize hHe : s.heap = H at hP
  have hS : va_S A s.heap H [] := by rw [← hHe]; exact hS
  have hP : va_P D vwCl (((r0 0), .inr (7, [.ref (r0 1), .int (fi0 0)])) :: ((r0 1), .inl (ca 2, 600, .inl (fa0 0))) :: rest) H := hP
  have hD : va_D A (((r0 0), .inr (7, [.ref (r0 1), .int (fi0 0)])) :: ((r0 1), .inl (ca 2, 600, .inl (fa0 0))) :: rest) := hD
  have hl := lv_entry ([.ref (r0 0), .int p1]) (n := 2) (Nat.le_of_ble_eq_true rfl)
  rw [lg_entry_eq]
  generalize (lg_sl ([.ref (r0 0), .int p1]) ++ List.replicate (2 - (lg_sl ([.ref (r0 0), .int p1])).length) Slot.unset).toArray = ls at hl ⊢
  have hl : lv_has ls 2 [(0, .ref (r0 0)), (1, .int p1)] := hl
  generalize hQ9 : MQ below _ _ s 0 0 A = Q9
  refine lv_aload_n hx hb dX7_isDigit_0 rfl (lv_at hl 0 rfl) ?_
  refine va_get (D := D) (ci := 7) (v := .ref (r0 1)) (C := RX7) (T := TX7) (N := 2) hx hb hts inX7 hown hK hP 0 rfl rfl 0 (by decide) lk11 (fun _ h9 => h9) rfl dX7_isDigit_1 ?_
  refine lv_iload_n hx hb dX7_isDigit_4 rfl (lv_at hl 1 rfl) ?_
  have hi1 : vp_in p1 600 := z_in (i := p1.toInt) rfl (by omega) (by omega)
  refine va_bald hx hb hK hP 1 2 rfl rfl hi1 dX7_isDigit_5 ?_
  refine lv_topi (fun t2 et2 => ?_)
  have ht2v : t2.toInt = ((fa0 0) p1.toNatClampNeg).toInt := by rw [et2]
  refine lv_bipush (v := 48) hx hb dX7_isDigit_6 (by decide) ?_
  refine lv_icmp_lt (tgt := 26) hx hb dX7_isDigit_8 (by decide) (fun c3 => ?_) (fun c3 => ?_)
  ·
    have c3 := z_lt (i := t2.toInt) (j := 48) rfl (by decide) c3
    refine lv_iconst (v := 0) hx hb dX7_isDigit_26 (by decide) ?_
    rw [← hQ9]
    refine lv_topi (fun t4 et4 => ?_)
    have ht4 : t4.toInt = 0 := by rw [et4]; decide
    have hq5 : 0 ≤ t4.toInt ∧ t4.toInt ≤ 1 := by omega
    have hq6 : ((t4).toInt = 1 ∧ zDg ((fa0 0) p1.toNatClampNeg)) ∨ ((t4).toInt = 0 ∧ ¬ zDg ((fa0 0) p1.toNatClampNeg)) := Or.inr ⟨by omega, by unfold zDg; omega⟩
    have hz7 : narrow .boolean (.int t4) = .int t4 := z_nz (by constructor <;> omega)
    exact W.zret (v := t4) hx hb hr hz7 (fun t ht hW => ⟨⟨t4, (), rfl, ⟨hq5, hq6⟩, ⟨by rw [ht]; exact hP, hD⟩⟩, hS.F ht⟩) hS.2.2 dX7_isDigit_27
  ·
    have c3 := z_nlt (i := t2.toInt) (j := 48) rfl (by decide) c3
    refine lv_aload_n hx hb dX7_isDigit_11 rfl (lv_at hl 0 rfl) ?_
    refine va_get (D := D) (ci := 7) (v := .ref (r0 1)) (C := RX7) (T := TX7) (N := 2) hx hb hts inX7 hown hK hP 0 rfl rfl 0 (by decide) lk11 (fun _ h9 => h9) rfl dX7_isDigit_12 ?_
    refine lv_iload_n hx hb dX7_isDigit_15 rfl (lv_at hl 1 rfl) ?_
    have hi8 : vp_in p1 600 := z_in (i := p1.toInt) rfl (by omega) (by omega)
    refine va_bald hx hb hK hP 1 2 rfl rfl hi8 dX7_isDigit_16 ?_
    refine lv_topi (fun t9 et9 => ?_)
    have ht9q : t9.toInt = t2.toInt := by rw [et9, et2]
    have ht9v : t9.toInt = ((fa0 0) p1.toNatClampNeg).toInt := by rw [et9]
    refine lv_bipush (v := 57) hx hb dX7_isDigit_17 (by decide) ?_
    refine lv_icmp_gt (tgt := 26) hx hb dX7_isDigit_19 (by decide) (fun c10 => ?_) (fun c10 => ?_)
    ·
      have c10 := z_lt (i := 57) (j := t9.toInt) (by decide) rfl c10
      refine lv_iconst (v := 0) hx hb dX7_isDigit_26 (by decide) ?_
      rw [← hQ9]
      refine lv_topi (fun t11 et11 => ?_)
      have ht11 : t11.toInt = 0 := by rw [et11]; decide
      have hq12 : 0 ≤ t11.toInt ∧ t11.toInt ≤ 1 := by omega
      have hq13 : ((t11).toInt = 1 ∧ zDg ((fa0 0) p1.toNatClampNeg)) ∨ ((t11).toInt = 0 ∧ ¬ zDg ((fa0 0) p1.toNatClampNeg)) := Or.inr ⟨by omega, by unfold zDg; omega⟩
      have hz14 : narrow .boolean (.int t11) = .int t11 := z_nz (by constructor <;> omega)
      exact W.zret (v := t11) hx hb hr hz14 (fun t ht hW => ⟨⟨t11, (), rfl, ⟨hq12, hq13⟩, ⟨by rw [ht]; exact hP, hD⟩⟩, hS.F ht⟩) hS.2.2 dX7_isDigit_27
    ·
      have c10 := z_nlt (i := 57) (j := t9.toInt) (by decide) rfl c10
      refine lv_iconst (v := 1) hx hb dX7_isDigit_22 (by decide) ?_
      refine lv_goto (tgt := 27) hx hb dX7_isDigit_23 (by decide) ?_
      rw [← hQ9]
      refine lv_topi (fun t15 et15 => ?_)
      have ht15 : t15.toInt = 1 := by rw [et15]; decide
      have hq16 : 0 ≤ t15.toInt ∧ t15.toInt ≤ 1 := by omega
      have hq17 : ((t15).toInt = 1 ∧ zDg ((fa0 0) p1.toNatClampNeg)) ∨ ((t15).toInt = 0 ∧ ¬ zDg ((fa0 0) p1.toNatClampNeg)) := Or.inl ⟨by omega, by unfold zDg; omega⟩
      have hz18 : narrow .boolean (.int t15) = .int t15 := z_nz (by constructor <;> omega)
      exact W.zret (v := t15) hx hb hr hz18 (fun t ht hW => ⟨⟨t15, (), rfl, ⟨hq16, hq17⟩, ⟨by rw [ht]; exact hP, hD⟩⟩, hS.F ht⟩) hS.2.2 dX7_isDigit_27

set_option maxHeartbeats 8000000 in
set_option maxRecDepth 100000 in
theorem c_X7_pastBlanks_R (l : Launch) (D : va_G) (ca : Nat → ClassId) (sa : Nat → Nat) (A : Nat → Prop) (rest : va_W) (r0 : Nat → Nat) (fi0 : Nat → Int32) (fl0 : Nat → Int64) (fa0 : Nat → Nat → Int32) (fb0 : Nat → Nat → Int64) (hv0 : Ok_TAPE fi0 fa0) (p1 : Int32) (hpre0 : 0 ≤ p1.toInt ∧ p1.toInt ≤ 600) : Met l yX7_pastBlanks wsX7_pastBlanks ({ frames := 0, cells := 0, slots := 0, locals := 0 }) (va_Pc [.ref (r0 0), .int p1] (zPre D ca sa A (w_TAPE ca r0 fi0 fl0 fa0 fb0 (rest)))) (va_Qi (fun (r : Int32) (u : Unit) => (p1.toInt ≤ r.toInt ∧ r.toInt ≤ 600) ∧ (zRun zBk (fa0 0) ((fi0 0)).toInt p1.toNatClampNeg (r).toNatClampNeg)) (fun u t => zPost D A (w_TAPE ca r0 fi0 fl0 fa0 fb0 (rest)) t) A) 0 0 A := by
  refine Met.ofW (cc := cX7_pastBlanks) (maxL := 3) (ret := (some .int)) (by decide) rfl ?_
  intro p e s m args below meth c s₁ B hml hv9
  obtain ⟨rfl, hE, hP, hD⟩ := hv9
  have hx := B.exec
  have hb := B.bytes
  have hr := B.returns
  have hts := atoms_spec (ws := wsX7_pastBlanks) B.pre
  have hown : s.vm.findClass RX7 = some m.cls := findClass_of_methodNamed B.named
  have hlocks := B.notSynchronized
  have hK := hE.1
  have hF : CallFix p m c cX7_pastBlanks 3 s _ wsX7_pastBlanks RX7 := ⟨hx, hb, hml, hown, hts⟩
  have hS : va_S A s.heap s.heap [] := va_S.rf
  have lk15 := hts (.fieldLink RX7 15 "BranchPlay$Tape" "length" "I") (by decide +kernel)
  have inX7 : ∀ w ∈ wsX70, w ∈ wsX7_pastBlanks := by decide +kernel
  have lk11 := hts (.fieldLink RX7 11 "BranchPlay$Tape" "bytes" "[B") (by decide +kernel)
  obtain ⟨hv0i0, hv0j0⟩ := hv0
  generalize hHe : s.heap = H at hP
  have hS : va_S A s.heap H [] := by rw [← hHe]; exact hS
  have hP : va_P D vwCl (((r0 0), .inr (7, [.ref (r0 1), .int (fi0 0)])) :: ((r0 1), .inl (ca 2, 600, .inl (fa0 0))) :: rest) H := hP
  have hD : va_D A (((r0 0), .inr (7, [.ref (r0 1), .int (fi0 0)])) :: ((r0 1), .inl (ca 2, 600, .inl (fa0 0))) :: rest) := hD
  have hl := lv_entry ([.ref (r0 0), .int p1]) (n := 3) (Nat.le_of_ble_eq_true rfl)
  rw [lg_entry_eq]
  generalize (lg_sl ([.ref (r0 0), .int p1]) ++ List.replicate (3 - (lg_sl ([.ref (r0 0), .int p1])).length) Slot.unset).toArray = ls at hl ⊢
  have hl : lv_has ls 3 [(0, .ref (r0 0)), (1, .int p1)] := hl
  generalize hQ9 : MQ below _ _ s 0 0 A = Q9
  refine lv_iload_n hx hb dX7_pastBlanks_0 rfl (lv_at hl 1 rfl) ?_
  refine lv_istore_n (lv' := [(2, .int p1), (0, .ref (r0 0)), (1, .int p1)]) hx hb dX7_pastBlanks_1 rfl hl (by decide) rfl (fun ls hl => ?_)
  have J2_1 : ∀ (n1 : Nat) (x2_1 : Int32) (ls : Array Slot) (hl : lv_has ls 3 [(0, .ref (r0 0)), (2, .int x2_1)]) (hRV_1 : ∀ i : Nat, p1.toNatClampNeg ≤ i → i < (x2_1.toInt).toNat → (i : Int) < (fi0 0).toInt ∧ zBk (fa0 0 i)) (hf1_0 : p1.toInt ≤ x2_1.toInt ∧ x2_1.toInt ≤ 600), (601 - x2_1.toInt).toNat < n1 → W p l e (headSpec wsX7_pastBlanks ({ frames := 0, cells := 0, slots := 0, locals := 0 })).room s m ([.ref (r0 0), .int p1] : List Value).toArray below meth c H [] 0 0 Q9 (F0 m 2 ls []) := by
    intro n1
    induction n1 with
    | zero => intro x2_1 ls hl hRV_1 hf1_0 hn9; exact absurd hn9 (Nat.not_lt_zero _)
    | succ n1 ih1 =>
      intro x2_1 ls hl hRV_1 hf1_0 hn9
      refine lv_iload_n hx hb dX7_pastBlanks_2 rfl (lv_at hl 1 rfl) ?_
      refine lv_aload_n hx hb dX7_pastBlanks_3 rfl (lv_at hl 0 rfl) ?_
      refine va_get (D := D) (ci := 7) (v := .int (fi0 0)) (C := RX7) (T := TX7) (N := 2) hx hb hts inX7 hown hK hP 0 rfl rfl 1 (by decide) lk15 (fun _ h9 => h9) rfl dX7_pastBlanks_4 ?_
      refine lv_icmp_ge (tgt := 38) hx hb dX7_pastBlanks_7 (by decide) (fun c2 => ?_) (fun c2 => ?_)
      ·
        have c2 := z_le (i := (fi0 0).toInt) (j := x2_1.toInt) rfl rfl c2
        refine lv_iload_n hx hb dX7_pastBlanks_38 rfl (lv_at hl 1 rfl) ?_
        rw [← hQ9]
        have hq3 : p1.toInt ≤ x2_1.toInt ∧ x2_1.toInt ≤ 600 := by omega
        have hq4 : zRun zBk (fa0 0) ((fi0 0)).toInt p1.toNatClampNeg (x2_1).toNatClampNeg := ⟨by rw [z_cl, z_cl]; omega, fun i h1 h2 => hRV_1 i h1 (by rw [z_cl] at h2; exact h2), fun h9 => by (have q8 := h9.1); (have q9 := h9.2); unfold zBk at q9; rw [z_cl] at q8; omega⟩
        exact W.iret (v := x2_1) hx hb hr (fun t ht hW => ⟨⟨x2_1, (), rfl, ⟨hq3, hq4⟩, ⟨by rw [ht]; exact hP, hD⟩⟩, hS.F ht⟩) hS.2.2 dX7_pastBlanks_39
      ·
        have c2 := z_nle (i := (fi0 0).toInt) (j := x2_1.toInt) rfl rfl c2
        refine lv_aload_n hx hb dX7_pastBlanks_10 rfl (lv_at hl 0 rfl) ?_
        refine va_get (D := D) (ci := 7) (v := .ref (r0 1)) (C := RX7) (T := TX7) (N := 2) hx hb hts inX7 hown hK hP 0 rfl rfl 0 (by decide) lk11 (fun _ h9 => h9) rfl dX7_pastBlanks_11 ?_
        refine lv_iload_n hx hb dX7_pastBlanks_14 rfl (lv_at hl 1 rfl) ?_
        have hi5 : vp_in x2_1 600 := z_in (i := x2_1.toInt) rfl (by omega) (by omega)
        refine va_bald hx hb hK hP 1 2 rfl rfl hi5 dX7_pastBlanks_15 ?_
        refine lv_topi (fun t6 et6 => ?_)
        have ht6v : t6.toInt = ((fa0 0) x2_1.toNatClampNeg).toInt := by rw [et6]
        refine lv_bipush (v := 32) hx hb dX7_pastBlanks_16 (by decide) ?_
        have J32_7 : ∀ (ls : Array Slot) (hl : lv_has ls 3 [(0, .ref (r0 0)), (2, .int x2_1)]) (hRK_7 : zBk (fa0 0 x2_1.toNatClampNeg)), W p l e (headSpec wsX7_pastBlanks ({ frames := 0, cells := 0, slots := 0, locals := 0 })).room s m ([.ref (r0 0), .int p1] : List Value).toArray below meth c H [] 0 0 Q9 (F0 m 32 ls []) := by
          intro ls hl hRK_7
          obtain ⟨t8, et8⟩ : ∃ y : Int32, y = x2_1 + 1 := ⟨_, rfl⟩
          try have ht8 : t8.toInt = x2_1.toInt + 1 := z_add et8 rfl (by decide) (by omega -splitDisjunctions) (by omega -splitDisjunctions)
          refine lv_iinc (v := t8) (lv' := [(2, .int t8), (0, .ref (r0 0))]) hx hb dX7_pastBlanks_32 hl (k := 1) rfl (by rw [et8]; rfl) (by decide) rfl (fun ls hl => ?_)
          refine lv_goto (tgt := 2) hx hb dX7_pastBlanks_35 (by decide) ?_
          have hr9 : ∀ i : Nat, p1.toNatClampNeg ≤ i → i < (t8.toInt).toNat → (i : Int) < (fi0 0).toInt ∧ zBk (fa0 0 i) := fun i h1 h2 => (show i < (x2_1.toInt).toNat ∨ i = (x2_1.toInt).toNat by omega).elim (fun q => hRV_1 i h1 q) (fun q => by rw [q]; exact ⟨by omega, hRK_7⟩)
          have hj10 : p1.toInt ≤ t8.toInt ∧ t8.toInt ≤ 600 := by omega
          have hm11 : (601 - t8.toInt).toNat < n1 := by omega
          exact ih1 t8 ls (lv_sub hl [1, 0] rfl) hr9 hj10 hm11
        refine lv_icmp_eq (tgt := 32) hx hb dX7_pastBlanks_18 (by decide) (fun c12 => ?_) (fun c12 => ?_)
        ·
          have c12 := z_eq (i := t6.toInt) (j := 32) rfl (by decide) c12
          have hr13 : zBk (fa0 0 x2_1.toNatClampNeg) := by unfold zBk; omega
          exact J32_7 ls (lv_sub hl [0, 1] rfl) hr13
        ·
          have c12 := z_ne (i := t6.toInt) (j := 32) rfl (by decide) c12
          refine lv_aload_n hx hb dX7_pastBlanks_21 rfl (lv_at hl 0 rfl) ?_
          refine va_get (D := D) (ci := 7) (v := .ref (r0 1)) (C := RX7) (T := TX7) (N := 2) hx hb hts inX7 hown hK hP 0 rfl rfl 0 (by decide) lk11 (fun _ h9 => h9) rfl dX7_pastBlanks_22 ?_
          refine lv_iload_n hx hb dX7_pastBlanks_25 rfl (lv_at hl 1 rfl) ?_
          have hi14 : vp_in x2_1 600 := z_in (i := x2_1.toInt) rfl (by omega) (by omega)
          refine va_bald hx hb hK hP 1 2 rfl rfl hi14 dX7_pastBlanks_26 ?_
          refine lv_topi (fun t15 et15 => ?_)
          have ht15q : t15.toInt = t6.toInt := by rw [et15, et6]
          have ht15v : t15.toInt = ((fa0 0) x2_1.toNatClampNeg).toInt := by rw [et15]
          refine lv_bipush (v := 10) hx hb dX7_pastBlanks_27 (by decide) ?_
          refine lv_icmp_ne (tgt := 38) hx hb dX7_pastBlanks_29 (by decide) (fun c16 => ?_) (fun c16 => ?_)
          ·
            have c16 := z_ne (i := t15.toInt) (j := 10) rfl (by decide) c16
            refine lv_iload_n hx hb dX7_pastBlanks_38 rfl (lv_at hl 1 rfl) ?_
            rw [← hQ9]
            have hq17 : p1.toInt ≤ x2_1.toInt ∧ x2_1.toInt ≤ 600 := by omega
            have hq18 : zRun zBk (fa0 0) ((fi0 0)).toInt p1.toNatClampNeg (x2_1).toNatClampNeg := ⟨by rw [z_cl, z_cl]; omega, fun i h1 h2 => hRV_1 i h1 (by rw [z_cl] at h2; exact h2), fun h9 => by (have q8 := h9.1); (have q9 := h9.2); unfold zBk at q9; rw [z_cl] at q8; omega⟩
            exact W.iret (v := x2_1) hx hb hr (fun t ht hW => ⟨⟨x2_1, (), rfl, ⟨hq17, hq18⟩, ⟨by rw [ht]; exact hP, hD⟩⟩, hS.F ht⟩) hS.2.2 dX7_pastBlanks_39
          ·
            have c16 := z_eq (i := t15.toInt) (j := 10) rfl (by decide) c16
            have hr19 : zBk (fa0 0 x2_1.toNatClampNeg) := by unfold zBk; omega
            exact J32_7 ls (lv_sub hl [0, 1] rfl) hr19
  have hr20 : ∀ i : Nat, p1.toNatClampNeg ≤ i → i < (p1.toInt).toNat → (i : Int) < (fi0 0).toInt ∧ zBk (fa0 0 i) := fun i h1 h2 => absurd h2 (by rw [z_cl] at h1; omega)
  have hj21 : p1.toInt ≤ p1.toInt ∧ p1.toInt ≤ 600 := by omega
  exact J2_1 ((601 - p1.toInt).toNat + 1) p1 ls (lv_sub hl [1, 0] rfl) hr20 hj21 (Nat.lt_succ_self _)

set_option maxHeartbeats 8000000 in
set_option maxRecDepth 100000 in
theorem c_X7_pastToken_R (l : Launch) (D : va_G) (ca : Nat → ClassId) (sa : Nat → Nat) (A : Nat → Prop) (rest : va_W) (r0 : Nat → Nat) (fi0 : Nat → Int32) (fl0 : Nat → Int64) (fa0 : Nat → Nat → Int32) (fb0 : Nat → Nat → Int64) (hv0 : Ok_TAPE fi0 fa0) (p1 : Int32) (hpre0 : 0 ≤ p1.toInt ∧ p1.toInt ≤ 599) : Met l yX7_pastToken wsX7_pastToken ({ frames := 1, cells := 0, slots := 0, locals := 21 }) (va_Pc [.ref (r0 0), .int p1] (zPre D ca sa A (w_TAPE ca r0 fi0 fl0 fa0 fb0 (rest)))) (va_Qi (fun (r : Int32) (u : Unit) => (p1.toInt < r.toInt ∧ r.toInt ≤ 600) ∧ (zTk (fa0 0) ((fi0 0)).toInt p1.toNatClampNeg (r).toNatClampNeg)) (fun u t => zPost D A (w_TAPE ca r0 fi0 fl0 fa0 fb0 (rest)) t) A) 0 0 A := by
  refine Met.ofW (cc := cX7_pastToken) (maxL := 3) (ret := (some .int)) (by decide) rfl ?_
  intro p e s m args below meth c s₁ B hml hv9
  obtain ⟨rfl, hE, hP, hD⟩ := hv9
  have hx := B.exec
  have hb := B.bytes
  have hr := B.returns
  have hts := atoms_spec (ws := wsX7_pastToken) B.pre
  have hown : s.vm.findClass RX7 = some m.cls := findClass_of_methodNamed B.named
  have hlocks := B.notSynchronized
  have hK := hE.1
  have hF : CallFix p m c cX7_pastToken 3 s _ wsX7_pastToken RX7 := ⟨hx, hb, hml, hown, hts⟩
  have hS : va_S A s.heap s.heap [] := va_S.rf
  have lk15 := hts (.fieldLink RX7 15 "BranchPlay$Tape" "length" "I") (by decide +kernel)
  have inX7 : ∀ w ∈ wsX70, w ∈ wsX7_pastToken := by decide +kernel
  obtain ⟨hv0i0, hv0j0⟩ := hv0
  generalize hHe : s.heap = H at hP
  have hS : va_S A s.heap H [] := by rw [← hHe]; exact hS
  have hP : va_P D vwCl (((r0 0), .inr (7, [.ref (r0 1), .int (fi0 0)])) :: ((r0 1), .inl (ca 2, 600, .inl (fa0 0))) :: rest) H := hP
  have hD : va_D A (((r0 0), .inr (7, [.ref (r0 1), .int (fi0 0)])) :: ((r0 1), .inl (ca 2, 600, .inl (fa0 0))) :: rest) := hD
  have hl := lv_entry ([.ref (r0 0), .int p1]) (n := 3) (Nat.le_of_ble_eq_true rfl)
  rw [lg_entry_eq]
  generalize (lg_sl ([.ref (r0 0), .int p1]) ++ List.replicate (3 - (lg_sl ([.ref (r0 0), .int p1])).length) Slot.unset).toArray = ls at hl ⊢
  have hl : lv_has ls 3 [(0, .ref (r0 0)), (1, .int p1)] := hl
  generalize hQ9 : MQ below _ _ s 0 0 A = Q9
  refine lv_iload_n hx hb dX7_pastToken_0 rfl (lv_at hl 1 rfl) ?_
  refine lv_iconst (v := 1) hx hb dX7_pastToken_1 (by decide) ?_
  refine lv_iadd hx hb dX7_pastToken_2 ?_
  refine lv_topi (fun t1 et1 => ?_)
  try have ht1 : t1.toInt = p1.toInt + 1 := z_add et1 rfl (by decide) (by omega -splitDisjunctions) (by omega -splitDisjunctions)
  refine lv_istore_n (lv' := [(2, .int t1), (0, .ref (r0 0)), (1, .int p1)]) hx hb dX7_pastToken_3 rfl hl (by decide) rfl (fun ls hl => ?_)
  refine lv_aload_n hx hb dX7_pastToken_4 rfl (lv_at hl 1 rfl) ?_
  refine lv_iload_n hx hb dX7_pastToken_5 rfl (lv_at hl 2 rfl) ?_
  have ho2 : (0 ≤ (fi0 0).toInt ∧ (fi0 0).toInt ≤ 600) := ⟨by omega, by omega⟩
  have hp3 : 0 ≤ p1.toInt ∧ p1.toInt ≤ 599 := by omega
  refine z_iV (As := [.int p1]) (rest := []) hF (c_X7_isLetter_R l D ca sa A rest (zl 0 [(r0 0), (r0 1)]) (zl 0 [(fi0 0)]) (zl 0 []) (zl (fun _ => 0) [(fa0 0)]) (zl (fun _ => 0) []) ho2 p1 hp3) (cwV 1 hts gX7_pastToken_X7_isLetter rfl rfl rfl (by decide +kernel) ⟨Nat.le_of_ble_eq_true rfl, Nat.le_of_ble_eq_true rfl⟩) hE hP hD hS 7 0 rfl rfl rfl hl.1 rfl (Nat.le_of_ble_eq_true rfl) dX7_pastToken_6 ⟨Nat.zero_le _, Nat.zero_le _⟩ (fun t5 u4 H locs hw6 hP hD hS => ?_)
  have hw6 : (0 ≤ t5.toInt ∧ t5.toInt ≤ 1) ∧ (((t5).toInt = 1 ∧ zLt ((fa0 0) p1.toNatClampNeg)) ∨ ((t5).toInt = 0 ∧ ¬ zLt ((fa0 0) p1.toNatClampNeg))) := hw6
  obtain ⟨hq7, hq8⟩ := hw6
  have hP : va_P D vwCl (((r0 0), .inr (7, [.ref (r0 1), .int (fi0 0)])) :: ((r0 1), .inl (ca 2, 600, .inl (fa0 0))) :: rest) H := hP
  have hD : va_D A (((r0 0), .inr (7, [.ref (r0 1), .int (fi0 0)])) :: ((r0 1), .inl (ca 2, 600, .inl (fa0 0))) :: rest) := hD
  have J12_9 : ∀ (n9 : Nat) (x2_9 : Int32) (H : Heap) (locs : List Loc) (hP : va_P D vwCl (((r0 0), .inr (7, [.ref (r0 1), .int (fi0 0)])) :: ((r0 1), .inl (ca 2, 600, .inl (fa0 0))) :: rest) H) (hD : va_D A (((r0 0), .inr (7, [.ref (r0 1), .int (fi0 0)])) :: ((r0 1), .inl (ca 2, 600, .inl (fa0 0))) :: rest)) (hS : va_S A s.heap H locs) (ls : Array Slot) (hl : lv_has ls 3 [(0, .ref (r0 0)), (2, .int x2_9)]) (hRA_9 : zLt (fa0 0 p1.toNatClampNeg)) (hRL_9 : ∀ i : Nat, p1.toNatClampNeg + 1 ≤ i → i < (x2_9.toInt).toNat → (i : Int) < (fi0 0).toInt ∧ zLt (fa0 0 i)) (hf9_0 : p1.toInt < x2_9.toInt ∧ x2_9.toInt ≤ 600), (601 - x2_9.toInt).toNat < n9 → W p l e (headSpec wsX7_pastToken ({ frames := 1, cells := 0, slots := 0, locals := 21 })).room s m ([.ref (r0 0), .int p1] : List Value).toArray below meth c H locs 0 0 Q9 (F0 m 12 ls []) := by
    intro n9
    induction n9 with
    | zero => intro x2_9 H locs hP hD hS ls hl hRA_9 hRL_9 hf9_0 hn9; exact absurd hn9 (Nat.not_lt_zero _)
    | succ n9 ih9 =>
      intro x2_9 H locs hP hD hS ls hl hRA_9 hRL_9 hf9_0 hn9
      refine lv_iload_n hx hb dX7_pastToken_12 rfl (lv_at hl 1 rfl) ?_
      refine lv_aload_n hx hb dX7_pastToken_13 rfl (lv_at hl 0 rfl) ?_
      refine va_get (D := D) (ci := 7) (v := .int (fi0 0)) (C := RX7) (T := TX7) (N := 2) hx hb hts inX7 hown hK hP 0 rfl rfl 1 (by decide) lk15 (fun _ h9 => h9) rfl dX7_pastToken_14 ?_
      refine lv_icmp_ge (tgt := 64) hx hb dX7_pastToken_17 (by decide) (fun c10 => ?_) (fun c10 => ?_)
      ·
        have c10 := z_le (i := (fi0 0).toInt) (j := x2_9.toInt) rfl rfl c10
        refine lv_iload_n hx hb dX7_pastToken_64 rfl (lv_at hl 1 rfl) ?_
        rw [← hQ9]
        have hq11 : p1.toInt < x2_9.toInt ∧ x2_9.toInt ≤ 600 := by omega
        have hq12 : zTk (fa0 0) ((fi0 0)).toInt p1.toNatClampNeg (x2_9).toNatClampNeg := Or.inl ⟨hRA_9, ⟨by rw [z_cl, z_cl]; omega, fun i h1 h2 => hRL_9 i h1 (by rw [z_cl] at h2; exact h2), fun h9 => by (have q8 := h9.1); rw [z_cl] at q8; first | omega⟩⟩
        exact W.iret (v := x2_9) hx hb hr (fun t ht hW => ⟨⟨x2_9, (), rfl, ⟨hq11, hq12⟩, ⟨by rw [ht]; exact hP, hD⟩⟩, hS.F ht⟩) hS.2.2 dX7_pastToken_65
      ·
        have c10 := z_nle (i := (fi0 0).toInt) (j := x2_9.toInt) rfl rfl c10
        refine lv_aload_n hx hb dX7_pastToken_20 rfl (lv_at hl 0 rfl) ?_
        refine lv_iload_n hx hb dX7_pastToken_21 rfl (lv_at hl 1 rfl) ?_
        have ho13 : (0 ≤ (fi0 0).toInt ∧ (fi0 0).toInt ≤ 600) := ⟨by omega, by omega⟩
        have hp14 : 0 ≤ x2_9.toInt ∧ x2_9.toInt ≤ 599 := by omega
        refine z_iV (As := [.int x2_9]) (rest := []) hF (c_X7_isLetter_R l D ca sa A rest (zl 0 [(r0 0), (r0 1)]) (zl 0 [(fi0 0)]) (zl 0 []) (zl (fun _ => 0) [(fa0 0)]) (zl (fun _ => 0) []) ho13 x2_9 hp14) (cwV 1 hts gX7_pastToken_X7_isLetter rfl rfl rfl (by decide +kernel) ⟨Nat.le_of_ble_eq_true rfl, Nat.le_of_ble_eq_true rfl⟩) hE hP hD hS 7 0 rfl rfl rfl hl.1 rfl (Nat.le_of_ble_eq_true rfl) dX7_pastToken_22 ⟨Nat.zero_le _, Nat.zero_le _⟩ (fun t16 u15 H locs hw17 hP hD hS => ?_)
        have hw17 : (0 ≤ t16.toInt ∧ t16.toInt ≤ 1) ∧ (((t16).toInt = 1 ∧ zLt ((fa0 0) x2_9.toNatClampNeg)) ∨ ((t16).toInt = 0 ∧ ¬ zLt ((fa0 0) x2_9.toNatClampNeg))) := hw17
        obtain ⟨hq18, hq19⟩ := hw17
        have hP : va_P D vwCl (((r0 0), .inr (7, [.ref (r0 1), .int (fi0 0)])) :: ((r0 1), .inl (ca 2, 600, .inl (fa0 0))) :: rest) H := hP
        have hD : va_D A (((r0 0), .inr (7, [.ref (r0 1), .int (fi0 0)])) :: ((r0 1), .inl (ca 2, 600, .inl (fa0 0))) :: rest) := hD
        refine lv_if_eq (tgt := 64) hx hb dX7_pastToken_25 (by decide) (fun c20 => ?_) (fun c20 => ?_)
        ·
          have c20 := z_eq (i := t16.toInt) (j := 0) rfl (by decide) c20
          refine lv_iload_n hx hb dX7_pastToken_64 rfl (lv_at hl 1 rfl) ?_
          rw [← hQ9]
          have hq21 : p1.toInt < x2_9.toInt ∧ x2_9.toInt ≤ 600 := by omega
          have hq22 : zTk (fa0 0) ((fi0 0)).toInt p1.toNatClampNeg (x2_9).toNatClampNeg := Or.inl ⟨hRA_9, ⟨by rw [z_cl, z_cl]; omega, fun i h1 h2 => hRL_9 i h1 (by rw [z_cl] at h2; exact h2), fun h9 => by (have q8 := h9.1); rw [z_cl] at q8; first | omega | exact absurd h9.2 (hq19.elim (fun q => absurd q.1 (by omega)) (fun q => q.2))⟩⟩
          exact W.iret (v := x2_9) hx hb hr (fun t ht hW => ⟨⟨x2_9, (), rfl, ⟨hq21, hq22⟩, ⟨by rw [ht]; exact hP, hD⟩⟩, hS.F ht⟩) hS.2.2 dX7_pastToken_65
        ·
          have c20 := z_ne (i := t16.toInt) (j := 0) rfl (by decide) c20
          obtain ⟨t23, et23⟩ : ∃ y : Int32, y = x2_9 + 1 := ⟨_, rfl⟩
          try have ht23 : t23.toInt = x2_9.toInt + 1 := z_add et23 rfl (by decide) (by omega -splitDisjunctions) (by omega -splitDisjunctions)
          refine lv_iinc (v := t23) (lv' := [(2, .int t23), (0, .ref (r0 0))]) hx hb dX7_pastToken_28 hl (k := 1) rfl (by rw [et23]; rfl) (by decide) rfl (fun ls hl => ?_)
          refine lv_goto (tgt := 12) hx hb dX7_pastToken_31 (by decide) ?_
          have hr24 : zLt (fa0 0 p1.toNatClampNeg) := hRA_9
          have hr25 : ∀ i : Nat, p1.toNatClampNeg + 1 ≤ i → i < (t23.toInt).toNat → (i : Int) < (fi0 0).toInt ∧ zLt (fa0 0 i) := fun i h1 h2 => (show i < (x2_9.toInt).toNat ∨ i = (x2_9.toInt).toNat by omega).elim (fun q => hRL_9 i h1 q) (fun q => by rw [q]; exact ⟨by omega, (hq19.elim (fun q => q.2) (fun q => absurd q.1 (by omega)))⟩)
          have hj26 : p1.toInt < t23.toInt ∧ t23.toInt ≤ 600 := by omega
          have hm27 : (601 - t23.toInt).toNat < n9 := by omega
          exact ih9 t23 _ _ hP hD hS ls (lv_sub hl [1, 0] rfl) hr24 hr25 hj26 hm27
  refine lv_if_eq (tgt := 34) hx hb dX7_pastToken_9 (by decide) (fun c28 => ?_) (fun c28 => ?_)
  ·
    have c28 := z_eq (i := t5.toInt) (j := 0) rfl (by decide) c28
    refine lv_aload_n hx hb dX7_pastToken_34 rfl (lv_at hl 1 rfl) ?_
    refine lv_iload_n hx hb dX7_pastToken_35 rfl (lv_at hl 2 rfl) ?_
    have ho29 : (0 ≤ (fi0 0).toInt ∧ (fi0 0).toInt ≤ 600) := ⟨by omega, by omega⟩
    have hp30 : 0 ≤ p1.toInt ∧ p1.toInt ≤ 599 := by omega
    refine z_iV (As := [.int p1]) (rest := []) hF (c_X7_isDigit_R l D ca sa A rest (zl 0 [(r0 0), (r0 1)]) (zl 0 [(fi0 0)]) (zl 0 []) (zl (fun _ => 0) [(fa0 0)]) (zl (fun _ => 0) []) ho29 p1 hp30) (cwV 1 hts gX7_pastToken_X7_isDigit rfl rfl rfl (by decide +kernel) ⟨Nat.le_of_ble_eq_true rfl, Nat.le_of_ble_eq_true rfl⟩) hE hP hD hS 7 0 rfl rfl rfl hl.1 rfl (Nat.le_of_ble_eq_true rfl) dX7_pastToken_36 ⟨Nat.zero_le _, Nat.zero_le _⟩ (fun t32 u31 H locs hw33 hP hD hS => ?_)
    have hw33 : (0 ≤ t32.toInt ∧ t32.toInt ≤ 1) ∧ (((t32).toInt = 1 ∧ zDg ((fa0 0) p1.toNatClampNeg)) ∨ ((t32).toInt = 0 ∧ ¬ zDg ((fa0 0) p1.toNatClampNeg))) := hw33
    obtain ⟨hq34, hq35⟩ := hw33
    have hP : va_P D vwCl (((r0 0), .inr (7, [.ref (r0 1), .int (fi0 0)])) :: ((r0 1), .inl (ca 2, 600, .inl (fa0 0))) :: rest) H := hP
    have hD : va_D A (((r0 0), .inr (7, [.ref (r0 1), .int (fi0 0)])) :: ((r0 1), .inl (ca 2, 600, .inl (fa0 0))) :: rest) := hD
    have J42_36 : ∀ (n36 : Nat) (x2_36 : Int32) (H : Heap) (locs : List Loc) (hP : va_P D vwCl (((r0 0), .inr (7, [.ref (r0 1), .int (fi0 0)])) :: ((r0 1), .inl (ca 2, 600, .inl (fa0 0))) :: rest) H) (hD : va_D A (((r0 0), .inr (7, [.ref (r0 1), .int (fi0 0)])) :: ((r0 1), .inl (ca 2, 600, .inl (fa0 0))) :: rest)) (hS : va_S A s.heap H locs) (ls : Array Slot) (hl : lv_has ls 3 [(0, .ref (r0 0)), (2, .int x2_36)]) (hRN_36 : ¬ zLt (fa0 0 p1.toNatClampNeg)) (hRD_36 : zDg (fa0 0 p1.toNatClampNeg)) (hRM_36 : ∀ i : Nat, p1.toNatClampNeg + 1 ≤ i → i < (x2_36.toInt).toNat → (i : Int) < (fi0 0).toInt ∧ zDg (fa0 0 i)) (hf36_0 : p1.toInt < x2_36.toInt ∧ x2_36.toInt ≤ 600), (601 - x2_36.toInt).toNat < n36 → W p l e (headSpec wsX7_pastToken ({ frames := 1, cells := 0, slots := 0, locals := 21 })).room s m ([.ref (r0 0), .int p1] : List Value).toArray below meth c H locs 0 0 Q9 (F0 m 42 ls []) := by
      intro n36
      induction n36 with
      | zero => intro x2_36 H locs hP hD hS ls hl hRN_36 hRD_36 hRM_36 hf36_0 hn9; exact absurd hn9 (Nat.not_lt_zero _)
      | succ n36 ih36 =>
        intro x2_36 H locs hP hD hS ls hl hRN_36 hRD_36 hRM_36 hf36_0 hn9
        refine lv_iload_n hx hb dX7_pastToken_42 rfl (lv_at hl 1 rfl) ?_
        refine lv_aload_n hx hb dX7_pastToken_43 rfl (lv_at hl 0 rfl) ?_
        refine va_get (D := D) (ci := 7) (v := .int (fi0 0)) (C := RX7) (T := TX7) (N := 2) hx hb hts inX7 hown hK hP 0 rfl rfl 1 (by decide) lk15 (fun _ h9 => h9) rfl dX7_pastToken_44 ?_
        refine lv_icmp_ge (tgt := 64) hx hb dX7_pastToken_47 (by decide) (fun c37 => ?_) (fun c37 => ?_)
        ·
          have c37 := z_le (i := (fi0 0).toInt) (j := x2_36.toInt) rfl rfl c37
          refine lv_iload_n hx hb dX7_pastToken_64 rfl (lv_at hl 1 rfl) ?_
          rw [← hQ9]
          have hq38 : p1.toInt < x2_36.toInt ∧ x2_36.toInt ≤ 600 := by omega
          have hq39 : zTk (fa0 0) ((fi0 0)).toInt p1.toNatClampNeg (x2_36).toNatClampNeg := Or.inr (Or.inl ⟨hRN_36, hRD_36, ⟨by rw [z_cl, z_cl]; omega, fun i h1 h2 => hRM_36 i h1 (by rw [z_cl] at h2; exact h2), fun h9 => by (have q8 := h9.1); rw [z_cl] at q8; first | omega⟩⟩)
          exact W.iret (v := x2_36) hx hb hr (fun t ht hW => ⟨⟨x2_36, (), rfl, ⟨hq38, hq39⟩, ⟨by rw [ht]; exact hP, hD⟩⟩, hS.F ht⟩) hS.2.2 dX7_pastToken_65
        ·
          have c37 := z_nle (i := (fi0 0).toInt) (j := x2_36.toInt) rfl rfl c37
          refine lv_aload_n hx hb dX7_pastToken_50 rfl (lv_at hl 0 rfl) ?_
          refine lv_iload_n hx hb dX7_pastToken_51 rfl (lv_at hl 1 rfl) ?_
          have ho40 : (0 ≤ (fi0 0).toInt ∧ (fi0 0).toInt ≤ 600) := ⟨by omega, by omega⟩
          have hp41 : 0 ≤ x2_36.toInt ∧ x2_36.toInt ≤ 599 := by omega
          refine z_iV (As := [.int x2_36]) (rest := []) hF (c_X7_isDigit_R l D ca sa A rest (zl 0 [(r0 0), (r0 1)]) (zl 0 [(fi0 0)]) (zl 0 []) (zl (fun _ => 0) [(fa0 0)]) (zl (fun _ => 0) []) ho40 x2_36 hp41) (cwV 1 hts gX7_pastToken_X7_isDigit rfl rfl rfl (by decide +kernel) ⟨Nat.le_of_ble_eq_true rfl, Nat.le_of_ble_eq_true rfl⟩) hE hP hD hS 7 0 rfl rfl rfl hl.1 rfl (Nat.le_of_ble_eq_true rfl) dX7_pastToken_52 ⟨Nat.zero_le _, Nat.zero_le _⟩ (fun t43 u42 H locs hw44 hP hD hS => ?_)
          have hw44 : (0 ≤ t43.toInt ∧ t43.toInt ≤ 1) ∧ (((t43).toInt = 1 ∧ zDg ((fa0 0) x2_36.toNatClampNeg)) ∨ ((t43).toInt = 0 ∧ ¬ zDg ((fa0 0) x2_36.toNatClampNeg))) := hw44
          obtain ⟨hq45, hq46⟩ := hw44
          have hP : va_P D vwCl (((r0 0), .inr (7, [.ref (r0 1), .int (fi0 0)])) :: ((r0 1), .inl (ca 2, 600, .inl (fa0 0))) :: rest) H := hP
          have hD : va_D A (((r0 0), .inr (7, [.ref (r0 1), .int (fi0 0)])) :: ((r0 1), .inl (ca 2, 600, .inl (fa0 0))) :: rest) := hD
          refine lv_if_eq (tgt := 64) hx hb dX7_pastToken_55 (by decide) (fun c47 => ?_) (fun c47 => ?_)
          ·
            have c47 := z_eq (i := t43.toInt) (j := 0) rfl (by decide) c47
            refine lv_iload_n hx hb dX7_pastToken_64 rfl (lv_at hl 1 rfl) ?_
            rw [← hQ9]
            have hq48 : p1.toInt < x2_36.toInt ∧ x2_36.toInt ≤ 600 := by omega
            have hq49 : zTk (fa0 0) ((fi0 0)).toInt p1.toNatClampNeg (x2_36).toNatClampNeg := Or.inr (Or.inl ⟨hRN_36, hRD_36, ⟨by rw [z_cl, z_cl]; omega, fun i h1 h2 => hRM_36 i h1 (by rw [z_cl] at h2; exact h2), fun h9 => by (have q8 := h9.1); rw [z_cl] at q8; first | omega | exact absurd h9.2 (hq46.elim (fun q => absurd q.1 (by omega)) (fun q => q.2))⟩⟩)
            exact W.iret (v := x2_36) hx hb hr (fun t ht hW => ⟨⟨x2_36, (), rfl, ⟨hq48, hq49⟩, ⟨by rw [ht]; exact hP, hD⟩⟩, hS.F ht⟩) hS.2.2 dX7_pastToken_65
          ·
            have c47 := z_ne (i := t43.toInt) (j := 0) rfl (by decide) c47
            obtain ⟨t50, et50⟩ : ∃ y : Int32, y = x2_36 + 1 := ⟨_, rfl⟩
            try have ht50 : t50.toInt = x2_36.toInt + 1 := z_add et50 rfl (by decide) (by omega -splitDisjunctions) (by omega -splitDisjunctions)
            refine lv_iinc (v := t50) (lv' := [(2, .int t50), (0, .ref (r0 0))]) hx hb dX7_pastToken_58 hl (k := 1) rfl (by rw [et50]; rfl) (by decide) rfl (fun ls hl => ?_)
            refine lv_goto (tgt := 42) hx hb dX7_pastToken_61 (by decide) ?_
            have hr51 : ¬ zLt (fa0 0 p1.toNatClampNeg) := hRN_36
            have hr52 : zDg (fa0 0 p1.toNatClampNeg) := hRD_36
            have hr53 : ∀ i : Nat, p1.toNatClampNeg + 1 ≤ i → i < (t50.toInt).toNat → (i : Int) < (fi0 0).toInt ∧ zDg (fa0 0 i) := fun i h1 h2 => (show i < (x2_36.toInt).toNat ∨ i = (x2_36.toInt).toNat by omega).elim (fun q => hRM_36 i h1 q) (fun q => by rw [q]; exact ⟨by omega, (hq46.elim (fun q => q.2) (fun q => absurd q.1 (by omega)))⟩)
            have hj54 : p1.toInt < t50.toInt ∧ t50.toInt ≤ 600 := by omega
            have hm55 : (601 - t50.toInt).toNat < n36 := by omega
            exact ih36 t50 _ _ hP hD hS ls (lv_sub hl [1, 0] rfl) hr51 hr52 hr53 hj54 hm55
    refine lv_if_eq (tgt := 64) hx hb dX7_pastToken_39 (by decide) (fun c56 => ?_) (fun c56 => ?_)
    ·
      have c56 := z_eq (i := t32.toInt) (j := 0) rfl (by decide) c56
      refine lv_iload_n hx hb dX7_pastToken_64 rfl (lv_at hl 0 rfl) ?_
      rw [← hQ9]
      have hq57 : p1.toInt < t1.toInt ∧ t1.toInt ≤ 600 := by omega
      have hq58 : zTk (fa0 0) ((fi0 0)).toInt p1.toNatClampNeg (t1).toNatClampNeg := Or.inr (Or.inr ⟨(hq8.elim (fun q => absurd q.1 (by omega)) (fun q => q.2)), (hq35.elim (fun q => absurd q.1 (by omega)) (fun q => q.2)), by rw [z_cl, z_cl]; omega⟩)
      exact W.iret (v := t1) hx hb hr (fun t ht hW => ⟨⟨t1, (), rfl, ⟨hq57, hq58⟩, ⟨by rw [ht]; exact hP, hD⟩⟩, hS.F ht⟩) hS.2.2 dX7_pastToken_65
    ·
      have c56 := z_ne (i := t32.toInt) (j := 0) rfl (by decide) c56
      have hr59 : ¬ zLt (fa0 0 p1.toNatClampNeg) := (hq8.elim (fun q => absurd q.1 (by omega)) (fun q => q.2))
      have hr60 : zDg (fa0 0 p1.toNatClampNeg) := (hq35.elim (fun q => q.2) (fun q => absurd q.1 (by omega)))
      have hr61 : ∀ i : Nat, p1.toNatClampNeg + 1 ≤ i → i < (t1.toInt).toNat → (i : Int) < (fi0 0).toInt ∧ zDg (fa0 0 i) := fun i h1 h2 => absurd h2 (by rw [z_cl] at h1; omega)
      have hj62 : p1.toInt < t1.toInt ∧ t1.toInt ≤ 600 := by omega
      exact J42_36 ((601 - t1.toInt).toNat + 1) t1 _ _ hP hD hS ls (lv_sub hl [1, 0] rfl) hr59 hr60 hr61 hj62 (Nat.lt_succ_self _)
  ·
    have c28 := z_ne (i := t5.toInt) (j := 0) rfl (by decide) c28
    have hr63 : zLt (fa0 0 p1.toNatClampNeg) := (hq8.elim (fun q => q.2) (fun q => absurd q.1 (by omega)))
    have hr64 : ∀ i : Nat, p1.toNatClampNeg + 1 ≤ i → i < (t1.toInt).toNat → (i : Int) < (fi0 0).toInt ∧ zLt (fa0 0 i) := fun i h1 h2 => absurd h2 (by rw [z_cl] at h1; omega)
    have hj65 : p1.toInt < t1.toInt ∧ t1.toInt ≤ 600 := by omega
    exact J12_9 ((601 - t1.toInt).toNat + 1) t1 _ _ hP hD hS ls (lv_sub hl [1, 0] rfl) hr63 hr64 hj65 (Nat.lt_succ_self _)

def zVal (f : Nat → Int32) (p : Nat) : Nat → Int
  | 0 => 0
  | k + 1 => 10 * zVal f p k + ((f (p + k)).toInt - 48)
theorem zVal_s (f : Nat → Int32) (p k : Nat) : zVal f p (k + 1) = 10 * zVal f p k + ((f (p + k)).toInt - 48) := rfl
theorem zTk_d {f : Nat → Int32} {n : Int} {p q : Nat} (h : zTk f n p q) (hd : zDg (f p)) : p < q ∧ ∀ i : Nat, p ≤ i → i < q → zDg (f i) := by
  rcases h with ⟨a, b⟩ | ⟨a, b, d⟩ | ⟨a, b, d⟩
  · unfold zLt at a
    unfold zDg at hd
    omega
  · refine ⟨d.1, fun i h1 h2 => ?_⟩
    rcases (show i = p ∨ p + 1 ≤ i by omega) with e | e
    · rw [e]; exact hd
    · exact (d.2.1 i e h2).2
  · exact absurd hd b

set_option maxHeartbeats 8000000 in
set_option maxRecDepth 100000 in
theorem c_X7_numberAt_R (l : Launch) (D : va_G) (ca : Nat → ClassId) (sa : Nat → Nat) (A : Nat → Prop) (rest : va_W) (r0 : Nat → Nat) (fi0 : Nat → Int32) (fl0 : Nat → Int64) (fa0 : Nat → Nat → Int32) (fb0 : Nat → Nat → Int64) (hv0 : Ok_TAPE fi0 fa0) (p1 : Int32) (p2 : Int32) (hpre0 : 0 ≤ p1.toInt ∧ p1.toInt ≤ 599) (hpre1 : p2.toInt ≤ 600) (hpre2 : zTk (fa0 0) (fi0 0).toInt p1.toNatClampNeg p2.toNatClampNeg) (hpre3 : p1.toInt < p2.toInt) : Met l yX7_numberAt wsX7_numberAt ({ frames := 1, cells := 0, slots := 0, locals := 21 }) (va_Pc [.ref (r0 0), .int p1, .int p2] (zPre D ca sa A (w_TAPE ca r0 fi0 fl0 fa0 fb0 (rest)))) (va_Qi (fun (r : Int32) (u : Unit) => (((r).toInt = -1 ∧ (¬ zDg ((fa0 0) p1.toNatClampNeg) ∨ 3 < p2.toInt - p1.toInt)) ∨ (zDg ((fa0 0) p1.toNatClampNeg) ∧ p2.toInt - p1.toInt ≤ 3 ∧ (r).toInt = zVal (fa0 0) p1.toNatClampNeg (p2.toNatClampNeg - p1.toNatClampNeg) ∧ 0 ≤ (r).toInt))) (fun u t => zPost D A (w_TAPE ca r0 fi0 fl0 fa0 fb0 (rest)) t) A) 0 0 A := by
  refine Met.ofW (cc := cX7_numberAt) (maxL := 5) (ret := (some .int)) (by decide) rfl ?_
  intro p e s m args below meth c s₁ B hml hv9
  obtain ⟨rfl, hE, hP, hD⟩ := hv9
  have hx := B.exec
  have hb := B.bytes
  have hr := B.returns
  have hts := atoms_spec (ws := wsX7_numberAt) B.pre
  have hown : s.vm.findClass RX7 = some m.cls := findClass_of_methodNamed B.named
  have hlocks := B.notSynchronized
  have hK := hE.1
  have hF : CallFix p m c cX7_numberAt 5 s _ wsX7_numberAt RX7 := ⟨hx, hb, hml, hown, hts⟩
  have hS : va_S A s.heap s.heap [] := va_S.rf
  have lk11 := hts (.fieldLink RX7 11 "BranchPlay$Tape" "bytes" "[B") (by decide +kernel)
  have inX7 : ∀ w ∈ wsX70, w ∈ wsX7_numberAt := by decide +kernel
  obtain ⟨hv0i0, hv0j0⟩ := hv0
  generalize hHe : s.heap = H at hP
  have hS : va_S A s.heap H [] := by rw [← hHe]; exact hS
  have hP : va_P D vwCl (((r0 0), .inr (7, [.ref (r0 1), .int (fi0 0)])) :: ((r0 1), .inl (ca 2, 600, .inl (fa0 0))) :: rest) H := hP
  have hD : va_D A (((r0 0), .inr (7, [.ref (r0 1), .int (fi0 0)])) :: ((r0 1), .inl (ca 2, 600, .inl (fa0 0))) :: rest) := hD
  have hl := lv_entry ([.ref (r0 0), .int p1, .int p2]) (n := 5) (Nat.le_of_ble_eq_true rfl)
  rw [lg_entry_eq]
  generalize (lg_sl ([.ref (r0 0), .int p1, .int p2]) ++ List.replicate (5 - (lg_sl ([.ref (r0 0), .int p1, .int p2])).length) Slot.unset).toArray = ls at hl ⊢
  have hl : lv_has ls 5 [(0, .ref (r0 0)), (1, .int p1), (2, .int p2)] := hl
  generalize hQ9 : MQ below _ _ s 0 0 A = Q9
  refine lv_aload_n hx hb dX7_numberAt_0 rfl (lv_at hl 0 rfl) ?_
  refine lv_iload_n hx hb dX7_numberAt_1 rfl (lv_at hl 1 rfl) ?_
  have ho1 : (0 ≤ (fi0 0).toInt ∧ (fi0 0).toInt ≤ 600) := ⟨by omega, by omega⟩
  have hp2 : 0 ≤ p1.toInt ∧ p1.toInt ≤ 599 := by omega
  refine z_iV (As := [.int p1]) (rest := []) hF (c_X7_isDigit_R l D ca sa A rest (zl 0 [(r0 0), (r0 1)]) (zl 0 [(fi0 0)]) (zl 0 []) (zl (fun _ => 0) [(fa0 0)]) (zl (fun _ => 0) []) ho1 p1 hp2) (cwV 1 hts gX7_numberAt_X7_isDigit rfl rfl rfl (by decide +kernel) ⟨Nat.le_of_ble_eq_true rfl, Nat.le_of_ble_eq_true rfl⟩) hE hP hD hS 7 0 rfl rfl rfl hl.1 rfl (Nat.le_of_ble_eq_true rfl) dX7_numberAt_2 ⟨Nat.zero_le _, Nat.zero_le _⟩ (fun t4 u3 H locs hw5 hP hD hS => ?_)
  have hw5 : (0 ≤ t4.toInt ∧ t4.toInt ≤ 1) ∧ (((t4).toInt = 1 ∧ zDg ((fa0 0) p1.toNatClampNeg)) ∨ ((t4).toInt = 0 ∧ ¬ zDg ((fa0 0) p1.toNatClampNeg))) := hw5
  obtain ⟨hq6, hq7⟩ := hw5
  have hP : va_P D vwCl (((r0 0), .inr (7, [.ref (r0 1), .int (fi0 0)])) :: ((r0 1), .inl (ca 2, 600, .inl (fa0 0))) :: rest) H := hP
  have hD : va_D A (((r0 0), .inr (7, [.ref (r0 1), .int (fi0 0)])) :: ((r0 1), .inl (ca 2, 600, .inl (fa0 0))) :: rest) := hD
  refine lv_if_eq (tgt := 15) hx hb dX7_numberAt_5 (by decide) (fun c8 => ?_) (fun c8 => ?_)
  ·
    have c8 := z_eq (i := t4.toInt) (j := 0) rfl (by decide) c8
    refine lv_iconst (v := (-1)) hx hb dX7_numberAt_15 (by decide) ?_
    rw [← hQ9]
    refine lv_topi (fun t9 et9 => ?_)
    have ht9 : t9.toInt = (-1) := by rw [et9]; decide
    have hq10 : ((t9).toInt = -1 ∧ (¬ zDg ((fa0 0) p1.toNatClampNeg) ∨ 3 < p2.toInt - p1.toInt)) ∨ (zDg ((fa0 0) p1.toNatClampNeg) ∧ p2.toInt - p1.toInt ≤ 3 ∧ (t9).toInt = zVal (fa0 0) p1.toNatClampNeg (p2.toNatClampNeg - p1.toNatClampNeg) ∧ 0 ≤ (t9).toInt) := Or.inl ⟨by omega, by first | exact Or.inr (by omega) | exact Or.inl (hq7.elim (fun q => absurd q.1 (by omega)) (fun q => q.2))⟩
    exact W.iret (v := t9) hx hb hr (fun t ht hW => ⟨⟨t9, (), rfl, hq10, ⟨by rw [ht]; exact hP, hD⟩⟩, hS.F ht⟩) hS.2.2 dX7_numberAt_16
  ·
    have c8 := z_ne (i := t4.toInt) (j := 0) rfl (by decide) c8
    refine lv_iload_n hx hb dX7_numberAt_8 rfl (lv_at hl 2 rfl) ?_
    refine lv_iload_n hx hb dX7_numberAt_9 rfl (lv_at hl 1 rfl) ?_
    refine lv_isub hx hb dX7_numberAt_10 ?_
    refine lv_topi (fun t11 et11 => ?_)
    try have ht11 : t11.toInt = p2.toInt - p1.toInt := z_sub et11 rfl rfl (by omega -splitDisjunctions) (by omega -splitDisjunctions)
    refine lv_iconst (v := 3) hx hb dX7_numberAt_11 (by decide) ?_
    refine lv_icmp_le (tgt := 17) hx hb dX7_numberAt_12 (by decide) (fun c12 => ?_) (fun c12 => ?_)
    ·
      have c12 := z_le (i := t11.toInt) (j := 3) rfl (by decide) c12
      have hdg9 := zTk_d hpre2 (hq7.elim (fun q => q.2) (fun q => absurd q.1 (by omega)))
      refine lv_iconst (v := 0) hx hb dX7_numberAt_17 (by decide) ?_
      refine lv_topi (fun t13 et13 => ?_)
      have ht13 : t13.toInt = 0 := by rw [et13]; decide
      refine lv_istore_n (lv' := [(3, .int t13), (0, .ref (r0 0)), (1, .int p1), (2, .int p2)]) hx hb dX7_numberAt_18 rfl hl (by decide) rfl (fun ls hl => ?_)
      refine lv_iload_n hx hb dX7_numberAt_19 rfl (lv_at hl 2 rfl) ?_
      refine lv_istore (lv' := [(4, .int p1), (3, .int t13), (0, .ref (r0 0)), (1, .int p1), (2, .int p2)]) hx hb dX7_numberAt_20 hl (by decide) rfl (fun ls hl => ?_)
      have J22_14 : ∀ (n14 : Nat) (x3_14 : Int32) (x4_14 : Int32) (ls : Array Slot) (hl : lv_has ls 5 [(0, .ref (r0 0)), (2, .int p2), (3, .int x3_14), (4, .int x4_14)]) (hRG_14 : zDg (fa0 0 p1.toNatClampNeg)) (hRV_14 : (x3_14.toInt) = zVal (fa0 0) p1.toNatClampNeg ((x4_14.toInt).toNat - p1.toNatClampNeg)) (hf14_0 : p1.toInt ≤ x4_14.toInt ∧ x4_14.toInt ≤ p2.toInt ∧ x4_14.toInt - p1.toInt ≤ 3) (hf14_1 : 0 ≤ x3_14.toInt ∧ x3_14.toInt ≤ 999 ∧ (x4_14.toInt - p1.toInt ≤ 2 → x3_14.toInt ≤ 99) ∧ (x4_14.toInt - p1.toInt ≤ 1 → x3_14.toInt ≤ 9) ∧ (x4_14.toInt - p1.toInt ≤ 0 → x3_14.toInt ≤ 0)), (601 - x4_14.toInt).toNat < n14 → W p l e (headSpec wsX7_numberAt ({ frames := 1, cells := 0, slots := 0, locals := 21 })).room s m ([.ref (r0 0), .int p1, .int p2] : List Value).toArray below meth c H locs 0 0 Q9 (F0 m 22 ls []) := by
        intro n14
        induction n14 with
        | zero => intro x3_14 x4_14 ls hl hRG_14 hRV_14 hf14_0 hf14_1 hn9; exact absurd hn9 (Nat.not_lt_zero _)
        | succ n14 ih14 =>
          intro x3_14 x4_14 ls hl hRG_14 hRV_14 hf14_0 hf14_1 hn9
          refine lv_iload hx hb dX7_numberAt_22 (lv_at hl 3 rfl) ?_
          refine lv_iload_n hx hb dX7_numberAt_24 rfl (lv_at hl 1 rfl) ?_
          refine lv_icmp_ge (tgt := 50) hx hb dX7_numberAt_25 (by decide) (fun c15 => ?_) (fun c15 => ?_)
          ·
            have c15 := z_le (i := p2.toInt) (j := x4_14.toInt) rfl rfl c15
            refine lv_iload_n hx hb dX7_numberAt_50 rfl (lv_at hl 2 rfl) ?_
            rw [← hQ9]
            have hq16 : ((x3_14).toInt = -1 ∧ (¬ zDg ((fa0 0) p1.toNatClampNeg) ∨ 3 < p2.toInt - p1.toInt)) ∨ (zDg ((fa0 0) p1.toNatClampNeg) ∧ p2.toInt - p1.toInt ≤ 3 ∧ (x3_14).toInt = zVal (fa0 0) p1.toNatClampNeg (p2.toNatClampNeg - p1.toNatClampNeg) ∧ 0 ≤ (x3_14).toInt) := Or.inr ⟨hRG_14, by omega, by rw [hRV_14, show (x4_14.toInt).toNat - p1.toNatClampNeg = p2.toNatClampNeg - p1.toNatClampNeg by (rw [z_cl, z_cl]; omega)], by omega⟩
            exact W.iret (v := x3_14) hx hb hr (fun t ht hW => ⟨⟨x3_14, (), rfl, hq16, ⟨by rw [ht]; exact hP, hD⟩⟩, hS.F ht⟩) hS.2.2 dX7_numberAt_51
          ·
            have c15 := z_nle (i := p2.toInt) (j := x4_14.toInt) rfl rfl c15
            refine lv_iload_n hx hb dX7_numberAt_28 rfl (lv_at hl 2 rfl) ?_
            refine lv_bipush (v := 10) hx hb dX7_numberAt_29 (by decide) ?_
            refine lv_imul hx hb dX7_numberAt_31 ?_
            refine lv_topi (fun t17 et17 => ?_)
            try have ht17 : t17.toInt = x3_14.toInt * 10 := z_mul et17 rfl (by decide) (by omega -splitDisjunctions) (by omega -splitDisjunctions)
            refine lv_aload_n hx hb dX7_numberAt_32 rfl (lv_at hl 0 rfl) ?_
            refine va_get (D := D) (ci := 7) (v := .ref (r0 1)) (C := RX7) (T := TX7) (N := 2) hx hb hts inX7 hown hK hP 0 rfl rfl 0 (by decide) lk11 (fun _ h9 => h9) rfl dX7_numberAt_33 ?_
            refine lv_iload hx hb dX7_numberAt_36 (lv_at hl 3 rfl) ?_
            have hi18 : vp_in x4_14 600 := z_in (i := x4_14.toInt) rfl (by omega) (by omega)
            refine va_bald hx hb hK hP 1 2 rfl rfl hi18 dX7_numberAt_38 ?_
            refine lv_topi (fun t19 et19 => ?_)
            have ht19v : t19.toInt = ((fa0 0) x4_14.toNatClampNeg).toInt := by rw [et19]
            have hdd : 48 ≤ t19.toInt ∧ t19.toInt ≤ 57 := by rw [et19]; exact hdg9.2 _ (by rw [z_cl, z_cl]; omega) (by rw [z_cl, z_cl]; omega)
            refine lv_iadd hx hb dX7_numberAt_39 ?_
            refine lv_topi (fun t20 et20 => ?_)
            try have ht20 : t20.toInt = t17.toInt + t19.toInt := z_add et20 rfl rfl (by omega -splitDisjunctions) (by omega -splitDisjunctions)
            refine lv_bipush (v := 48) hx hb dX7_numberAt_40 (by decide) ?_
            refine lv_isub hx hb dX7_numberAt_42 ?_
            refine lv_topi (fun t21 et21 => ?_)
            try have ht21 : t21.toInt = t20.toInt - 48 := z_sub et21 rfl (by decide) (by omega -splitDisjunctions) (by omega -splitDisjunctions)
            refine lv_istore_n (lv' := [(3, .int t21), (0, .ref (r0 0)), (2, .int p2), (4, .int x4_14)]) hx hb dX7_numberAt_43 rfl hl (by decide) rfl (fun ls hl => ?_)
            obtain ⟨t22, et22⟩ : ∃ y : Int32, y = x4_14 + 1 := ⟨_, rfl⟩
            try have ht22 : t22.toInt = x4_14.toInt + 1 := z_add et22 rfl (by decide) (by omega -splitDisjunctions) (by omega -splitDisjunctions)
            refine lv_iinc (v := t22) (lv' := [(4, .int t22), (3, .int t21), (0, .ref (r0 0)), (2, .int p2)]) hx hb dX7_numberAt_44 hl (k := 3) rfl (by rw [et22]; rfl) (by decide) rfl (fun ls hl => ?_)
            refine lv_goto (tgt := 22) hx hb dX7_numberAt_47 (by decide) ?_
            have hr23 : zDg (fa0 0 p1.toNatClampNeg) := hRG_14
            have hr24 : (t21.toInt) = zVal (fa0 0) p1.toNatClampNeg ((t22.toInt).toNat - p1.toNatClampNeg) := by rw [show (t22.toInt).toNat - p1.toNatClampNeg = ((x4_14.toInt).toNat - p1.toNatClampNeg) + 1 by (rw [z_cl]; omega), zVal_s, ← hRV_14, show p1.toNatClampNeg + ((x4_14.toInt).toNat - p1.toNatClampNeg) = x4_14.toNatClampNeg by (rw [z_cl, z_cl]; omega)]; omega
            have hj25 : p1.toInt ≤ t22.toInt ∧ t22.toInt ≤ p2.toInt ∧ t22.toInt - p1.toInt ≤ 3 := by omega
            have hj26 : 0 ≤ t21.toInt ∧ t21.toInt ≤ 999 ∧ (t22.toInt - p1.toInt ≤ 2 → t21.toInt ≤ 99) ∧ (t22.toInt - p1.toInt ≤ 1 → t21.toInt ≤ 9) ∧ (t22.toInt - p1.toInt ≤ 0 → t21.toInt ≤ 0) := by omega
            have hm27 : (601 - t22.toInt).toNat < n14 := by omega
            exact ih14 t21 t22 ls (lv_sub hl [2, 3, 1, 0] rfl) hr23 hr24 hj25 hj26 hm27
      have hr28 : zDg (fa0 0 p1.toNatClampNeg) := (hq7.elim (fun q => q.2) (fun q => absurd q.1 (by omega)))
      have hr29 : (t13.toInt) = zVal (fa0 0) p1.toNatClampNeg ((p1.toInt).toNat - p1.toNatClampNeg) := by rw [show (p1.toInt).toNat - p1.toNatClampNeg = 0 by (rw [z_cl]; omega)]; show t13.toInt = 0; omega
      have hj30 : p1.toInt ≤ p1.toInt ∧ p1.toInt ≤ p2.toInt ∧ p1.toInt - p1.toInt ≤ 3 := by omega
      have hj31 : 0 ≤ t13.toInt ∧ t13.toInt ≤ 999 ∧ (p1.toInt - p1.toInt ≤ 2 → t13.toInt ≤ 99) ∧ (p1.toInt - p1.toInt ≤ 1 → t13.toInt ≤ 9) ∧ (p1.toInt - p1.toInt ≤ 0 → t13.toInt ≤ 0) := by omega
      exact J22_14 ((601 - p1.toInt).toNat + 1) t13 p1 ls (lv_sub hl [2, 4, 1, 0] rfl) hr28 hr29 hj30 hj31 (Nat.lt_succ_self _)
    ·
      have c12 := z_nle (i := t11.toInt) (j := 3) rfl (by decide) c12
      refine lv_iconst (v := (-1)) hx hb dX7_numberAt_15 (by decide) ?_
      rw [← hQ9]
      refine lv_topi (fun t32 et32 => ?_)
      have ht32 : t32.toInt = (-1) := by rw [et32]; decide
      have hq33 : ((t32).toInt = -1 ∧ (¬ zDg ((fa0 0) p1.toNatClampNeg) ∨ 3 < p2.toInt - p1.toInt)) ∨ (zDg ((fa0 0) p1.toNatClampNeg) ∧ p2.toInt - p1.toInt ≤ 3 ∧ (t32).toInt = zVal (fa0 0) p1.toNatClampNeg (p2.toNatClampNeg - p1.toNatClampNeg) ∧ 0 ≤ (t32).toInt) := Or.inl ⟨by omega, by first | exact Or.inr (by omega) | exact Or.inl (hq7.elim (fun q => absurd q.1 (by omega)) (fun q => q.2))⟩
      exact W.iret (v := t32) hx hb hr (fun t ht hW => ⟨⟨t32, (), rfl, hq33, ⟨by rw [ht]; exact hP, hD⟩⟩, hS.F ht⟩) hS.2.2 dX7_numberAt_16
