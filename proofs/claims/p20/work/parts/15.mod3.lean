set_option maxHeartbeats 8000000 in
set_option maxRecDepth 100000 in
theorem c_X9_told (l : Launch) (D : va_G) (ca : Nat → ClassId) (sa : Nat → Nat) (A : Nat → Prop) (rest : va_W) (r0 : Nat → Nat) (fi0 : Nat → Int32) (fl0 : Nat → Int64) (fa0 : Nat → Nat → Int32) (fb0 : Nat → Nat → Int64) (hv0 : Ok_MOD fi0 fa0) (p1 : Int32) (p2 : Int32) : Met l yX9_told wsX9_told ({ frames := 2, cells := 0, slots := 0, locals := 43 }) (va_Pc [.ref (r0 0), .int p1, .int p2] (zPre D ca sa A (w_MOD ca r0 fi0 fl0 fa0 fb0 (rest)))) (va_Qi (fun (r : Int32) (u : Unit) => True) (fun u t => zPost D A (w_MOD ca r0 fi0 fl0 fa0 fb0 (rest)) t) A) 0 0 A := by
  refine Met.ofW (cc := cX9_told) (maxL := 3) (ret := (some .int)) (by decide) rfl ?_
  intro p e s m args below meth c s₁ B hml hv9
  obtain ⟨rfl, hE, hP, hD⟩ := hv9
  have hx := B.exec
  have hb := B.bytes
  have hr := B.returns
  have hts := atoms_spec (ws := wsX9_told) B.pre
  have hown : s.vm.findClass RX9 = some m.cls := findClass_of_methodNamed B.named
  have hlocks := B.notSynchronized
  have hK := hE.1
  have hF : CallFix p m c cX9_told 3 s _ wsX9_told RX9 := ⟨hx, hb, hml, hown, hts⟩
  have hS : va_S A s.heap s.heap [] := va_S.rf
  have lk113 := hts (.fieldLink RX9 113 "BranchPlayModel" "played" "I") (by decide +kernel)
  have inX9 : ∀ w ∈ wsX90, w ∈ wsX9_told := by decide +kernel
  have lk45 := hts (.fieldLink RX9 45 "BranchPlayModel" "born" "[I") (by decide +kernel)
  have lk54 := hts (.fieldLink RX9 54 "BranchPlayModel" "merged" "[I") (by decide +kernel)
  have lk60 := hts (.fieldLink RX9 60 "BranchPlayModel" "out" "[I") (by decide +kernel)
  have lk63 := hts (.fieldLink RX9 63 "BranchPlayModel" "met" "[I") (by decide +kernel)
  have lk66 := hts (.fieldLink RX9 66 "BranchPlayModel" "quarrels" "[I") (by decide +kernel)
  have lk69 := hts (.fieldLink RX9 69 "BranchPlayModel" "rework" "[I") (by decide +kernel)
  have lk72 := hts (.fieldLink RX9 72 "BranchPlayModel" "held" "[I") (by decide +kernel)
  obtain ⟨⟨hv0i0, hv0j0⟩, ⟨hv0i1, hv0j1⟩, ⟨hv0i5, hv0j5⟩, ⟨hv0i9, hv0j9⟩, hv0a6, hv0a8, hv0a9, hv0a23, hv0a27, hv0a28, hv0x0, hv0y0⟩ := hv0
  generalize hHe : s.heap = H at hP
  have hS : va_S A s.heap H [] := by rw [← hHe]; exact hS
  have hP : va_P D vwCl (((r0 0), .inr (9, [.ref (r0 1), .int (fi0 0), .int (fi0 1), .int (fi0 2), .int (fi0 3), .int (fi0 4), .int (fi0 5), .int (fi0 6), .int (fi0 7), .int (fi0 8), .ref (r0 2), .int (fi0 9), .ref (r0 3), .ref (r0 4), .ref (r0 5), .ref (r0 6), .ref (r0 7), .ref (r0 8), .ref (r0 9), .ref (r0 10), .ref (r0 11), .ref (r0 12), .ref (r0 13), .ref (r0 14), .ref (r0 15), .ref (r0 16), .ref (r0 17), .ref (r0 18), .ref (r0 19), .ref (r0 20), .ref (r0 21), .ref (r0 22), .ref (r0 23), .ref (r0 24), .ref (r0 25), .ref (r0 26), .ref (r0 27), .ref (r0 28), .ref (r0 29), .ref (r0 30), .ref (r0 31), .ref (r0 32), .int (fi0 10), .ref (r0 33)])) :: ((r0 1), .inl (ca 2, 600, .inl (fa0 0))) :: ((r0 2), .inl (ca 0, 48, .inl (fa0 1))) :: ((r0 3), .inl (ca 0, 60, .inl (fa0 2))) :: ((r0 4), .inl (ca 0, 60, .inl (fa0 3))) :: ((r0 5), .inl (ca 0, 60, .inl (fa0 4))) :: ((r0 6), .inl (ca 0, 60, .inl (fa0 5))) :: ((r0 7), .inl (ca 0, 60, .inl (fa0 6))) :: ((r0 8), .inl (ca 0, 60, .inl (fa0 7))) :: ((r0 9), .inl (ca 0, 180, .inl (fa0 8))) :: ((r0 10), .inl (ca 0, 60, .inl (fa0 9))) :: ((r0 11), .inl (ca 0, 180, .inl (fa0 10))) :: ((r0 12), .inl (ca 0, 180, .inl (fa0 11))) :: ((r0 13), .inl (ca 0, 180, .inl (fa0 12))) :: ((r0 14), .inl (ca 0, 180, .inl (fa0 13))) :: ((r0 15), .inl (ca 0, 180, .inl (fa0 14))) :: ((r0 16), .inl (ca 0, 180, .inl (fa0 15))) :: ((r0 17), .inl (ca 0, 180, .inl (fa0 16))) :: ((r0 18), .inl (ca 0, 180, .inl (fa0 17))) :: ((r0 19), .inl (ca 0, 180, .inl (fa0 18))) :: ((r0 20), .inl (ca 0, 180, .inl (fa0 19))) :: ((r0 21), .inl (ca 0, 3, .inl (fa0 20))) :: ((r0 22), .inl (ca 1, 3, .inr (.inl (fb0 0)))) :: ((r0 23), .inl (ca 1, 3, .inr (.inl (fb0 1)))) :: ((r0 24), .inl (ca 3, 3, .inl (fa0 21))) :: ((r0 25), .inl (ca 0, 3, .inl (fa0 22))) :: ((r0 26), .inl (ca 0, 3, .inl (fa0 23))) :: ((r0 27), .inl (ca 0, 810, .inl (fa0 24))) :: ((r0 28), .inl (ca 3, 810, .inl (fa0 25))) :: ((r0 29), .inl (ca 1, 810, .inr (.inl (fb0 2)))) :: ((r0 30), .inl (ca 0, 810, .inl (fa0 26))) :: ((r0 31), .inl (ca 0, 3, .inl (fa0 27))) :: ((r0 32), .inl (ca 0, 60, .inl (fa0 28))) :: ((r0 33), .inl (ca 0, 4, .inl (fa0 29))) :: rest) H := hP
  have hD : va_D A (((r0 0), .inr (9, [.ref (r0 1), .int (fi0 0), .int (fi0 1), .int (fi0 2), .int (fi0 3), .int (fi0 4), .int (fi0 5), .int (fi0 6), .int (fi0 7), .int (fi0 8), .ref (r0 2), .int (fi0 9), .ref (r0 3), .ref (r0 4), .ref (r0 5), .ref (r0 6), .ref (r0 7), .ref (r0 8), .ref (r0 9), .ref (r0 10), .ref (r0 11), .ref (r0 12), .ref (r0 13), .ref (r0 14), .ref (r0 15), .ref (r0 16), .ref (r0 17), .ref (r0 18), .ref (r0 19), .ref (r0 20), .ref (r0 21), .ref (r0 22), .ref (r0 23), .ref (r0 24), .ref (r0 25), .ref (r0 26), .ref (r0 27), .ref (r0 28), .ref (r0 29), .ref (r0 30), .ref (r0 31), .ref (r0 32), .int (fi0 10), .ref (r0 33)])) :: ((r0 1), .inl (ca 2, 600, .inl (fa0 0))) :: ((r0 2), .inl (ca 0, 48, .inl (fa0 1))) :: ((r0 3), .inl (ca 0, 60, .inl (fa0 2))) :: ((r0 4), .inl (ca 0, 60, .inl (fa0 3))) :: ((r0 5), .inl (ca 0, 60, .inl (fa0 4))) :: ((r0 6), .inl (ca 0, 60, .inl (fa0 5))) :: ((r0 7), .inl (ca 0, 60, .inl (fa0 6))) :: ((r0 8), .inl (ca 0, 60, .inl (fa0 7))) :: ((r0 9), .inl (ca 0, 180, .inl (fa0 8))) :: ((r0 10), .inl (ca 0, 60, .inl (fa0 9))) :: ((r0 11), .inl (ca 0, 180, .inl (fa0 10))) :: ((r0 12), .inl (ca 0, 180, .inl (fa0 11))) :: ((r0 13), .inl (ca 0, 180, .inl (fa0 12))) :: ((r0 14), .inl (ca 0, 180, .inl (fa0 13))) :: ((r0 15), .inl (ca 0, 180, .inl (fa0 14))) :: ((r0 16), .inl (ca 0, 180, .inl (fa0 15))) :: ((r0 17), .inl (ca 0, 180, .inl (fa0 16))) :: ((r0 18), .inl (ca 0, 180, .inl (fa0 17))) :: ((r0 19), .inl (ca 0, 180, .inl (fa0 18))) :: ((r0 20), .inl (ca 0, 180, .inl (fa0 19))) :: ((r0 21), .inl (ca 0, 3, .inl (fa0 20))) :: ((r0 22), .inl (ca 1, 3, .inr (.inl (fb0 0)))) :: ((r0 23), .inl (ca 1, 3, .inr (.inl (fb0 1)))) :: ((r0 24), .inl (ca 3, 3, .inl (fa0 21))) :: ((r0 25), .inl (ca 0, 3, .inl (fa0 22))) :: ((r0 26), .inl (ca 0, 3, .inl (fa0 23))) :: ((r0 27), .inl (ca 0, 810, .inl (fa0 24))) :: ((r0 28), .inl (ca 3, 810, .inl (fa0 25))) :: ((r0 29), .inl (ca 1, 810, .inr (.inl (fb0 2)))) :: ((r0 30), .inl (ca 0, 810, .inl (fa0 26))) :: ((r0 31), .inl (ca 0, 3, .inl (fa0 27))) :: ((r0 32), .inl (ca 0, 60, .inl (fa0 28))) :: ((r0 33), .inl (ca 0, 4, .inl (fa0 29))) :: rest) := hD
  have hl := lv_entry ([.ref (r0 0), .int p1, .int p2]) (n := 3) (Nat.le_of_ble_eq_true rfl)
  rw [lg_entry_eq]
  generalize (lg_sl ([.ref (r0 0), .int p1, .int p2]) ++ List.replicate (3 - (lg_sl ([.ref (r0 0), .int p1, .int p2])).length) Slot.unset).toArray = ls at hl ⊢
  have hl : lv_has ls 3 [(0, .ref (r0 0)), (1, .int p1), (2, .int p2)] := hl
  generalize hQ9 : MQ below _ _ s 0 0 A = Q9
  refine lv_aload_n hx hb dX9_told_0 rfl (lv_at hl 0 rfl) ?_
  refine va_get (D := D) (ci := 9) (v := .int (fi0 10)) (C := RX9) (T := TX9) (N := 44) hx hb hts inX9 hown hK hP 0 rfl rfl 42 (by decide) lk113 (fun _ h9 => h9) rfl dX9_told_1 ?_
  refine lv_iconst (v := (-1)) hx hb dX9_told_4 (by decide) ?_
  refine lv_icmp_eq (tgt := 16) hx hb dX9_told_5 (by decide) (fun c1 => ?_) (fun c1 => ?_)
  ·
    have c1 := z_eq (i := (fi0 10).toInt) (j := (-1)) rfl (by decide) c1
    refine lv_bipush (v := (-9)) hx hb dX9_told_16 (by decide) ?_
    rw [← hQ9]
    refine lv_topi (fun t2 et2 => ?_)
    have ht2 : t2.toInt = (-9) := by rw [et2]; decide
    exact W.iret (v := t2) hx hb hr (fun t ht hW => ⟨⟨t2, (), rfl, trivial, ⟨by rw [ht]; exact hP, hD⟩⟩, hS.F ht⟩) hS.2.2 dX9_told_18
  ·
    have c1 := z_ne (i := (fi0 10).toInt) (j := (-1)) rfl (by decide) c1
    refine lv_aload_n hx hb dX9_told_8 rfl (lv_at hl 0 rfl) ?_
    refine lv_iload_n hx hb dX9_told_9 rfl (lv_at hl 1 rfl) ?_
    have ho3 : (0 ≤ (fi0 0).toInt ∧ (fi0 0).toInt ≤ 600) ∧ (0 ≤ (fi0 1).toInt ∧ (fi0 1).toInt ≤ 600) ∧ (0 ≤ (fi0 5).toInt ∧ (fi0 5).toInt ≤ 600) ∧ (0 ≤ (fi0 9).toInt ∧ (fi0 9).toInt ≤ 60) ∧ z_rng (-1) 59 (fa0 6) ∧ z_rng 0 59 (fa0 8) ∧ z_rng 0 3 (fa0 9) ∧ z_rng 0 269 (fa0 23) ∧ z_rng 0 5 (fa0 27) ∧ z_rng 0 59 (fa0 28) ∧ ((fi0 2).toInt = 1 → 0 ≤ (fi0 3).toInt) ∧ zOkR (fa0 1) (fa0 27) := ⟨⟨by omega, by omega⟩, ⟨by omega, by omega⟩, ⟨by omega, by omega⟩, ⟨by omega, by omega⟩, hv0a6, hv0a8, hv0a9, hv0a23, hv0a27, hv0a28, by omega, hv0y0⟩
    refine z_iV (As := [.int p1]) (rest := []) hF (c_X9_isChange l D ca sa A rest (zl 0 [(r0 0), (r0 1), (r0 2), (r0 3), (r0 4), (r0 5), (r0 6), (r0 7), (r0 8), (r0 9), (r0 10), (r0 11), (r0 12), (r0 13), (r0 14), (r0 15), (r0 16), (r0 17), (r0 18), (r0 19), (r0 20), (r0 21), (r0 22), (r0 23), (r0 24), (r0 25), (r0 26), (r0 27), (r0 28), (r0 29), (r0 30), (r0 31), (r0 32), (r0 33)]) (zl 0 [(fi0 0), (fi0 1), (fi0 2), (fi0 3), (fi0 4), (fi0 5), (fi0 6), (fi0 7), (fi0 8), (fi0 9), (fi0 10)]) (zl 0 []) (zl (fun _ => 0) [(fa0 0), (fa0 1), (fa0 2), (fa0 3), (fa0 4), (fa0 5), (fa0 6), (fa0 7), (fa0 8), (fa0 9), (fa0 10), (fa0 11), (fa0 12), (fa0 13), (fa0 14), (fa0 15), (fa0 16), (fa0 17), (fa0 18), (fa0 19), (fa0 20), (fa0 21), (fa0 22), (fa0 23), (fa0 24), (fa0 25), (fa0 26), (fa0 27), (fa0 28), (fa0 29)]) (zl (fun _ => 0) [(fb0 0), (fb0 1), (fb0 2)]) ho3 p1) (cwV 1 hts gX9_told_X9_isChange rfl rfl rfl (by decide +kernel) ⟨Nat.le_of_ble_eq_true rfl, Nat.le_of_ble_eq_true rfl⟩) hE hP hD hS 9 0 rfl rfl rfl hl.1 rfl (Nat.le_of_ble_eq_true rfl) dX9_told_10 ⟨Nat.zero_le _, Nat.zero_le _⟩ (fun t5 u4 H locs hw6 hP hD hS => ?_)
    have hw6 : ((t5.toInt = 1 ∧ 0 ≤ p1.toInt ∧ p1.toInt < (fi0 9).toInt) ∨ (t5.toInt = 0 ∧ (p1.toInt < 0 ∨ (fi0 9).toInt ≤ p1.toInt))) := hw6
    have hq7 := hw6
    clear hw6
    have hP : va_P D vwCl (((r0 0), .inr (9, [.ref (r0 1), .int (fi0 0), .int (fi0 1), .int (fi0 2), .int (fi0 3), .int (fi0 4), .int (fi0 5), .int (fi0 6), .int (fi0 7), .int (fi0 8), .ref (r0 2), .int (fi0 9), .ref (r0 3), .ref (r0 4), .ref (r0 5), .ref (r0 6), .ref (r0 7), .ref (r0 8), .ref (r0 9), .ref (r0 10), .ref (r0 11), .ref (r0 12), .ref (r0 13), .ref (r0 14), .ref (r0 15), .ref (r0 16), .ref (r0 17), .ref (r0 18), .ref (r0 19), .ref (r0 20), .ref (r0 21), .ref (r0 22), .ref (r0 23), .ref (r0 24), .ref (r0 25), .ref (r0 26), .ref (r0 27), .ref (r0 28), .ref (r0 29), .ref (r0 30), .ref (r0 31), .ref (r0 32), .int (fi0 10), .ref (r0 33)])) :: ((r0 1), .inl (ca 2, 600, .inl (fa0 0))) :: ((r0 2), .inl (ca 0, 48, .inl (fa0 1))) :: ((r0 3), .inl (ca 0, 60, .inl (fa0 2))) :: ((r0 4), .inl (ca 0, 60, .inl (fa0 3))) :: ((r0 5), .inl (ca 0, 60, .inl (fa0 4))) :: ((r0 6), .inl (ca 0, 60, .inl (fa0 5))) :: ((r0 7), .inl (ca 0, 60, .inl (fa0 6))) :: ((r0 8), .inl (ca 0, 60, .inl (fa0 7))) :: ((r0 9), .inl (ca 0, 180, .inl (fa0 8))) :: ((r0 10), .inl (ca 0, 60, .inl (fa0 9))) :: ((r0 11), .inl (ca 0, 180, .inl (fa0 10))) :: ((r0 12), .inl (ca 0, 180, .inl (fa0 11))) :: ((r0 13), .inl (ca 0, 180, .inl (fa0 12))) :: ((r0 14), .inl (ca 0, 180, .inl (fa0 13))) :: ((r0 15), .inl (ca 0, 180, .inl (fa0 14))) :: ((r0 16), .inl (ca 0, 180, .inl (fa0 15))) :: ((r0 17), .inl (ca 0, 180, .inl (fa0 16))) :: ((r0 18), .inl (ca 0, 180, .inl (fa0 17))) :: ((r0 19), .inl (ca 0, 180, .inl (fa0 18))) :: ((r0 20), .inl (ca 0, 180, .inl (fa0 19))) :: ((r0 21), .inl (ca 0, 3, .inl (fa0 20))) :: ((r0 22), .inl (ca 1, 3, .inr (.inl (fb0 0)))) :: ((r0 23), .inl (ca 1, 3, .inr (.inl (fb0 1)))) :: ((r0 24), .inl (ca 3, 3, .inl (fa0 21))) :: ((r0 25), .inl (ca 0, 3, .inl (fa0 22))) :: ((r0 26), .inl (ca 0, 3, .inl (fa0 23))) :: ((r0 27), .inl (ca 0, 810, .inl (fa0 24))) :: ((r0 28), .inl (ca 3, 810, .inl (fa0 25))) :: ((r0 29), .inl (ca 1, 810, .inr (.inl (fb0 2)))) :: ((r0 30), .inl (ca 0, 810, .inl (fa0 26))) :: ((r0 31), .inl (ca 0, 3, .inl (fa0 27))) :: ((r0 32), .inl (ca 0, 60, .inl (fa0 28))) :: ((r0 33), .inl (ca 0, 4, .inl (fa0 29))) :: rest) H := hP
    have hD : va_D A (((r0 0), .inr (9, [.ref (r0 1), .int (fi0 0), .int (fi0 1), .int (fi0 2), .int (fi0 3), .int (fi0 4), .int (fi0 5), .int (fi0 6), .int (fi0 7), .int (fi0 8), .ref (r0 2), .int (fi0 9), .ref (r0 3), .ref (r0 4), .ref (r0 5), .ref (r0 6), .ref (r0 7), .ref (r0 8), .ref (r0 9), .ref (r0 10), .ref (r0 11), .ref (r0 12), .ref (r0 13), .ref (r0 14), .ref (r0 15), .ref (r0 16), .ref (r0 17), .ref (r0 18), .ref (r0 19), .ref (r0 20), .ref (r0 21), .ref (r0 22), .ref (r0 23), .ref (r0 24), .ref (r0 25), .ref (r0 26), .ref (r0 27), .ref (r0 28), .ref (r0 29), .ref (r0 30), .ref (r0 31), .ref (r0 32), .int (fi0 10), .ref (r0 33)])) :: ((r0 1), .inl (ca 2, 600, .inl (fa0 0))) :: ((r0 2), .inl (ca 0, 48, .inl (fa0 1))) :: ((r0 3), .inl (ca 0, 60, .inl (fa0 2))) :: ((r0 4), .inl (ca 0, 60, .inl (fa0 3))) :: ((r0 5), .inl (ca 0, 60, .inl (fa0 4))) :: ((r0 6), .inl (ca 0, 60, .inl (fa0 5))) :: ((r0 7), .inl (ca 0, 60, .inl (fa0 6))) :: ((r0 8), .inl (ca 0, 60, .inl (fa0 7))) :: ((r0 9), .inl (ca 0, 180, .inl (fa0 8))) :: ((r0 10), .inl (ca 0, 60, .inl (fa0 9))) :: ((r0 11), .inl (ca 0, 180, .inl (fa0 10))) :: ((r0 12), .inl (ca 0, 180, .inl (fa0 11))) :: ((r0 13), .inl (ca 0, 180, .inl (fa0 12))) :: ((r0 14), .inl (ca 0, 180, .inl (fa0 13))) :: ((r0 15), .inl (ca 0, 180, .inl (fa0 14))) :: ((r0 16), .inl (ca 0, 180, .inl (fa0 15))) :: ((r0 17), .inl (ca 0, 180, .inl (fa0 16))) :: ((r0 18), .inl (ca 0, 180, .inl (fa0 17))) :: ((r0 19), .inl (ca 0, 180, .inl (fa0 18))) :: ((r0 20), .inl (ca 0, 180, .inl (fa0 19))) :: ((r0 21), .inl (ca 0, 3, .inl (fa0 20))) :: ((r0 22), .inl (ca 1, 3, .inr (.inl (fb0 0)))) :: ((r0 23), .inl (ca 1, 3, .inr (.inl (fb0 1)))) :: ((r0 24), .inl (ca 3, 3, .inl (fa0 21))) :: ((r0 25), .inl (ca 0, 3, .inl (fa0 22))) :: ((r0 26), .inl (ca 0, 3, .inl (fa0 23))) :: ((r0 27), .inl (ca 0, 810, .inl (fa0 24))) :: ((r0 28), .inl (ca 3, 810, .inl (fa0 25))) :: ((r0 29), .inl (ca 1, 810, .inr (.inl (fb0 2)))) :: ((r0 30), .inl (ca 0, 810, .inl (fa0 26))) :: ((r0 31), .inl (ca 0, 3, .inl (fa0 27))) :: ((r0 32), .inl (ca 0, 60, .inl (fa0 28))) :: ((r0 33), .inl (ca 0, 4, .inl (fa0 29))) :: rest) := hD
    refine lv_if_ne (tgt := 19) hx hb dX9_told_13 (by decide) (fun c8 => ?_) (fun c8 => ?_)
    ·
      have c8 := z_ne (i := t5.toInt) (j := 0) rfl (by decide) c8
      refine lv_iload_n hx hb dX9_told_19 rfl (lv_at hl 2 rfl) ?_
      by_cases c9 : p2.toInt = 0
      ·
        refine lv_tableIn (tgt := 64) hx hb dX9_told_20 (by omega) (by omega) (by rw [c9]; rfl) (by decide) ?_
        refine lv_aload_n hx hb dX9_told_64 rfl (lv_at hl 0 rfl) ?_
        refine va_get (D := D) (ci := 9) (v := .ref (r0 11)) (C := RX9) (T := TX9) (N := 44) hx hb hts inX9 hown hK hP 0 rfl rfl 20 (by decide) lk45 (fun _ h9 => h9) rfl dX9_told_65 ?_
        refine lv_iload_n hx hb dX9_told_68 rfl (lv_at hl 1 rfl) ?_
        have hi10 : vp_in p1 180 := z_in (i := p1.toInt) rfl (by omega) (by omega)
        refine va_iald hx hb hK hP 11 0 rfl rfl hi10 dX9_told_69 ?_
        refine lv_topi (fun t11 et11 => ?_)
        rw [← hQ9]
        exact W.iret (v := t11) hx hb hr (fun t ht hW => ⟨⟨t11, (), rfl, trivial, ⟨by rw [ht]; exact hP, hD⟩⟩, hS.F ht⟩) hS.2.2 dX9_told_70
      by_cases c12 : p2.toInt = 1
      ·
        refine lv_tableIn (tgt := 71) hx hb dX9_told_20 (by omega) (by omega) (by rw [c12]; rfl) (by decide) ?_
        refine lv_aload_n hx hb dX9_told_71 rfl (lv_at hl 0 rfl) ?_
        refine va_get (D := D) (ci := 9) (v := .ref (r0 14)) (C := RX9) (T := TX9) (N := 44) hx hb hts inX9 hown hK hP 0 rfl rfl 23 (by decide) lk54 (fun _ h9 => h9) rfl dX9_told_72 ?_
        refine lv_iload_n hx hb dX9_told_75 rfl (lv_at hl 1 rfl) ?_
        have hi13 : vp_in p1 180 := z_in (i := p1.toInt) rfl (by omega) (by omega)
        refine va_iald hx hb hK hP 14 0 rfl rfl hi13 dX9_told_76 ?_
        refine lv_topi (fun t14 et14 => ?_)
        rw [← hQ9]
        exact W.iret (v := t14) hx hb hr (fun t ht hW => ⟨⟨t14, (), rfl, trivial, ⟨by rw [ht]; exact hP, hD⟩⟩, hS.F ht⟩) hS.2.2 dX9_told_77
      by_cases c15 : p2.toInt = 2
      ·
        refine lv_tableIn (tgt := 78) hx hb dX9_told_20 (by omega) (by omega) (by rw [c15]; rfl) (by decide) ?_
        refine lv_aload_n hx hb dX9_told_78 rfl (lv_at hl 0 rfl) ?_
        refine va_get (D := D) (ci := 9) (v := .ref (r0 16)) (C := RX9) (T := TX9) (N := 44) hx hb hts inX9 hown hK hP 0 rfl rfl 25 (by decide) lk60 (fun _ h9 => h9) rfl dX9_told_79 ?_
        refine lv_iload_n hx hb dX9_told_82 rfl (lv_at hl 1 rfl) ?_
        have hi16 : vp_in p1 180 := z_in (i := p1.toInt) rfl (by omega) (by omega)
        refine va_iald hx hb hK hP 16 0 rfl rfl hi16 dX9_told_83 ?_
        refine lv_topi (fun t17 et17 => ?_)
        rw [← hQ9]
        exact W.iret (v := t17) hx hb hr (fun t ht hW => ⟨⟨t17, (), rfl, trivial, ⟨by rw [ht]; exact hP, hD⟩⟩, hS.F ht⟩) hS.2.2 dX9_told_84
      by_cases c18 : p2.toInt = 3
      ·
        refine lv_tableIn (tgt := 85) hx hb dX9_told_20 (by omega) (by omega) (by rw [c18]; rfl) (by decide) ?_
        refine lv_aload_n hx hb dX9_told_85 rfl (lv_at hl 0 rfl) ?_
        refine va_get (D := D) (ci := 9) (v := .ref (r0 17)) (C := RX9) (T := TX9) (N := 44) hx hb hts inX9 hown hK hP 0 rfl rfl 26 (by decide) lk63 (fun _ h9 => h9) rfl dX9_told_86 ?_
        refine lv_iload_n hx hb dX9_told_89 rfl (lv_at hl 1 rfl) ?_
        have hi19 : vp_in p1 180 := z_in (i := p1.toInt) rfl (by omega) (by omega)
        refine va_iald hx hb hK hP 17 0 rfl rfl hi19 dX9_told_90 ?_
        refine lv_topi (fun t20 et20 => ?_)
        rw [← hQ9]
        exact W.iret (v := t20) hx hb hr (fun t ht hW => ⟨⟨t20, (), rfl, trivial, ⟨by rw [ht]; exact hP, hD⟩⟩, hS.F ht⟩) hS.2.2 dX9_told_91
      by_cases c21 : p2.toInt = 4
      ·
        refine lv_tableIn (tgt := 92) hx hb dX9_told_20 (by omega) (by omega) (by rw [c21]; rfl) (by decide) ?_
        refine lv_aload_n hx hb dX9_told_92 rfl (lv_at hl 0 rfl) ?_
        refine va_get (D := D) (ci := 9) (v := .ref (r0 18)) (C := RX9) (T := TX9) (N := 44) hx hb hts inX9 hown hK hP 0 rfl rfl 27 (by decide) lk66 (fun _ h9 => h9) rfl dX9_told_93 ?_
        refine lv_iload_n hx hb dX9_told_96 rfl (lv_at hl 1 rfl) ?_
        have hi22 : vp_in p1 180 := z_in (i := p1.toInt) rfl (by omega) (by omega)
        refine va_iald hx hb hK hP 18 0 rfl rfl hi22 dX9_told_97 ?_
        refine lv_topi (fun t23 et23 => ?_)
        rw [← hQ9]
        exact W.iret (v := t23) hx hb hr (fun t ht hW => ⟨⟨t23, (), rfl, trivial, ⟨by rw [ht]; exact hP, hD⟩⟩, hS.F ht⟩) hS.2.2 dX9_told_98
      by_cases c24 : p2.toInt = 5
      ·
        refine lv_tableIn (tgt := 99) hx hb dX9_told_20 (by omega) (by omega) (by rw [c24]; rfl) (by decide) ?_
        refine lv_aload_n hx hb dX9_told_99 rfl (lv_at hl 0 rfl) ?_
        refine va_get (D := D) (ci := 9) (v := .ref (r0 19)) (C := RX9) (T := TX9) (N := 44) hx hb hts inX9 hown hK hP 0 rfl rfl 28 (by decide) lk69 (fun _ h9 => h9) rfl dX9_told_100 ?_
        refine lv_iload_n hx hb dX9_told_103 rfl (lv_at hl 1 rfl) ?_
        have hi25 : vp_in p1 180 := z_in (i := p1.toInt) rfl (by omega) (by omega)
        refine va_iald hx hb hK hP 19 0 rfl rfl hi25 dX9_told_104 ?_
        refine lv_topi (fun t26 et26 => ?_)
        rw [← hQ9]
        exact W.iret (v := t26) hx hb hr (fun t ht hW => ⟨⟨t26, (), rfl, trivial, ⟨by rw [ht]; exact hP, hD⟩⟩, hS.F ht⟩) hS.2.2 dX9_told_105
      by_cases c27 : p2.toInt = 6
      ·
        refine lv_tableIn (tgt := 106) hx hb dX9_told_20 (by omega) (by omega) (by rw [c27]; rfl) (by decide) ?_
        refine lv_aload_n hx hb dX9_told_106 rfl (lv_at hl 0 rfl) ?_
        refine va_get (D := D) (ci := 9) (v := .ref (r0 20)) (C := RX9) (T := TX9) (N := 44) hx hb hts inX9 hown hK hP 0 rfl rfl 29 (by decide) lk72 (fun _ h9 => h9) rfl dX9_told_107 ?_
        refine lv_iload_n hx hb dX9_told_110 rfl (lv_at hl 1 rfl) ?_
        have hi28 : vp_in p1 180 := z_in (i := p1.toInt) rfl (by omega) (by omega)
        refine va_iald hx hb hK hP 20 0 rfl rfl hi28 dX9_told_111 ?_
        refine lv_topi (fun t29 et29 => ?_)
        rw [← hQ9]
        exact W.iret (v := t29) hx hb hr (fun t ht hW => ⟨⟨t29, (), rfl, trivial, ⟨by rw [ht]; exact hP, hD⟩⟩, hS.F ht⟩) hS.2.2 dX9_told_112
      refine lv_tableOut (tgt := 113) hx hb dX9_told_20 (by omega) (by decide) ?_
      refine lv_bipush (v := (-9)) hx hb dX9_told_113 (by decide) ?_
      rw [← hQ9]
      refine lv_topi (fun t30 et30 => ?_)
      have ht30 : t30.toInt = (-9) := by rw [et30]; decide
      exact W.iret (v := t30) hx hb hr (fun t ht hW => ⟨⟨t30, (), rfl, trivial, ⟨by rw [ht]; exact hP, hD⟩⟩, hS.F ht⟩) hS.2.2 dX9_told_115
    ·
      have c8 := z_eq (i := t5.toInt) (j := 0) rfl (by decide) c8
      refine lv_bipush (v := (-9)) hx hb dX9_told_16 (by decide) ?_
      rw [← hQ9]
      refine lv_topi (fun t31 et31 => ?_)
      have ht31 : t31.toInt = (-9) := by rw [et31]; decide
      exact W.iret (v := t31) hx hb hr (fun t ht hW => ⟨⟨t31, (), rfl, trivial, ⟨by rw [ht]; exact hP, hD⟩⟩, hS.F ht⟩) hS.2.2 dX9_told_18

set_option maxHeartbeats 8000000 in
set_option maxRecDepth 100000 in
theorem c_X9_isRelease (l : Launch) (D : va_G) (ca : Nat → ClassId) (sa : Nat → Nat) (A : Nat → Prop) (rest : va_W) (r0 : Nat → Nat) (fi0 : Nat → Int32) (fl0 : Nat → Int64) (fa0 : Nat → Nat → Int32) (fb0 : Nat → Nat → Int64) (hv0 : Ok_MOD fi0 fa0) (p1 : Int32) : Met l yX9_isRelease wsX9_isRelease ({ frames := 1, cells := 0, slots := 0, locals := 22 }) (va_Pc [.ref (r0 0), .int p1] (zPre D ca sa A (w_MOD ca r0 fi0 fl0 fa0 fb0 (rest)))) (va_Qi (fun (r : Int32) (u : Unit) => ((r.toInt = 1 ∧ 0 ≤ p1.toInt ∧ p1.toInt ≤ 268) ∨ r.toInt = 0)) (fun u t => zPost D A (w_MOD ca r0 fi0 fl0 fa0 fb0 (rest)) t) A) 0 0 A := by
  refine Met.ofW (cc := cX9_isRelease) (maxL := 2) (ret := (some .boolean)) (by decide) rfl ?_
  intro p e s m args below meth c s₁ B hml hv9
  obtain ⟨rfl, hE, hP, hD⟩ := hv9
  have hx := B.exec
  have hb := B.bytes
  have hr := B.returns
  have hts := atoms_spec (ws := wsX9_isRelease) B.pre
  have hown : s.vm.findClass RX9 = some m.cls := findClass_of_methodNamed B.named
  have hlocks := B.notSynchronized
  have hK := hE.1
  have hF : CallFix p m c cX9_isRelease 2 s _ wsX9_isRelease RX9 := ⟨hx, hb, hml, hown, hts⟩
  have hS : va_S A s.heap s.heap [] := va_S.rf
  have lk113 := hts (.fieldLink RX9 113 "BranchPlayModel" "played" "I") (by decide +kernel)
  have inX9 : ∀ w ∈ wsX90, w ∈ wsX9_isRelease := by decide +kernel
  have lk92 := hts (.fieldLink RX9 92 "BranchPlayModel" "releases" "[I") (by decide +kernel)
  obtain ⟨⟨hv0i0, hv0j0⟩, ⟨hv0i1, hv0j1⟩, ⟨hv0i5, hv0j5⟩, ⟨hv0i9, hv0j9⟩, hv0a6, hv0a8, hv0a9, hv0a23, hv0a27, hv0a28, hv0x0, hv0y0⟩ := hv0
  generalize hHe : s.heap = H at hP
  have hS : va_S A s.heap H [] := by rw [← hHe]; exact hS
  have hP : va_P D vwCl (((r0 0), .inr (9, [.ref (r0 1), .int (fi0 0), .int (fi0 1), .int (fi0 2), .int (fi0 3), .int (fi0 4), .int (fi0 5), .int (fi0 6), .int (fi0 7), .int (fi0 8), .ref (r0 2), .int (fi0 9), .ref (r0 3), .ref (r0 4), .ref (r0 5), .ref (r0 6), .ref (r0 7), .ref (r0 8), .ref (r0 9), .ref (r0 10), .ref (r0 11), .ref (r0 12), .ref (r0 13), .ref (r0 14), .ref (r0 15), .ref (r0 16), .ref (r0 17), .ref (r0 18), .ref (r0 19), .ref (r0 20), .ref (r0 21), .ref (r0 22), .ref (r0 23), .ref (r0 24), .ref (r0 25), .ref (r0 26), .ref (r0 27), .ref (r0 28), .ref (r0 29), .ref (r0 30), .ref (r0 31), .ref (r0 32), .int (fi0 10), .ref (r0 33)])) :: ((r0 1), .inl (ca 2, 600, .inl (fa0 0))) :: ((r0 2), .inl (ca 0, 48, .inl (fa0 1))) :: ((r0 3), .inl (ca 0, 60, .inl (fa0 2))) :: ((r0 4), .inl (ca 0, 60, .inl (fa0 3))) :: ((r0 5), .inl (ca 0, 60, .inl (fa0 4))) :: ((r0 6), .inl (ca 0, 60, .inl (fa0 5))) :: ((r0 7), .inl (ca 0, 60, .inl (fa0 6))) :: ((r0 8), .inl (ca 0, 60, .inl (fa0 7))) :: ((r0 9), .inl (ca 0, 180, .inl (fa0 8))) :: ((r0 10), .inl (ca 0, 60, .inl (fa0 9))) :: ((r0 11), .inl (ca 0, 180, .inl (fa0 10))) :: ((r0 12), .inl (ca 0, 180, .inl (fa0 11))) :: ((r0 13), .inl (ca 0, 180, .inl (fa0 12))) :: ((r0 14), .inl (ca 0, 180, .inl (fa0 13))) :: ((r0 15), .inl (ca 0, 180, .inl (fa0 14))) :: ((r0 16), .inl (ca 0, 180, .inl (fa0 15))) :: ((r0 17), .inl (ca 0, 180, .inl (fa0 16))) :: ((r0 18), .inl (ca 0, 180, .inl (fa0 17))) :: ((r0 19), .inl (ca 0, 180, .inl (fa0 18))) :: ((r0 20), .inl (ca 0, 180, .inl (fa0 19))) :: ((r0 21), .inl (ca 0, 3, .inl (fa0 20))) :: ((r0 22), .inl (ca 1, 3, .inr (.inl (fb0 0)))) :: ((r0 23), .inl (ca 1, 3, .inr (.inl (fb0 1)))) :: ((r0 24), .inl (ca 3, 3, .inl (fa0 21))) :: ((r0 25), .inl (ca 0, 3, .inl (fa0 22))) :: ((r0 26), .inl (ca 0, 3, .inl (fa0 23))) :: ((r0 27), .inl (ca 0, 810, .inl (fa0 24))) :: ((r0 28), .inl (ca 3, 810, .inl (fa0 25))) :: ((r0 29), .inl (ca 1, 810, .inr (.inl (fb0 2)))) :: ((r0 30), .inl (ca 0, 810, .inl (fa0 26))) :: ((r0 31), .inl (ca 0, 3, .inl (fa0 27))) :: ((r0 32), .inl (ca 0, 60, .inl (fa0 28))) :: ((r0 33), .inl (ca 0, 4, .inl (fa0 29))) :: rest) H := hP
  have hD : va_D A (((r0 0), .inr (9, [.ref (r0 1), .int (fi0 0), .int (fi0 1), .int (fi0 2), .int (fi0 3), .int (fi0 4), .int (fi0 5), .int (fi0 6), .int (fi0 7), .int (fi0 8), .ref (r0 2), .int (fi0 9), .ref (r0 3), .ref (r0 4), .ref (r0 5), .ref (r0 6), .ref (r0 7), .ref (r0 8), .ref (r0 9), .ref (r0 10), .ref (r0 11), .ref (r0 12), .ref (r0 13), .ref (r0 14), .ref (r0 15), .ref (r0 16), .ref (r0 17), .ref (r0 18), .ref (r0 19), .ref (r0 20), .ref (r0 21), .ref (r0 22), .ref (r0 23), .ref (r0 24), .ref (r0 25), .ref (r0 26), .ref (r0 27), .ref (r0 28), .ref (r0 29), .ref (r0 30), .ref (r0 31), .ref (r0 32), .int (fi0 10), .ref (r0 33)])) :: ((r0 1), .inl (ca 2, 600, .inl (fa0 0))) :: ((r0 2), .inl (ca 0, 48, .inl (fa0 1))) :: ((r0 3), .inl (ca 0, 60, .inl (fa0 2))) :: ((r0 4), .inl (ca 0, 60, .inl (fa0 3))) :: ((r0 5), .inl (ca 0, 60, .inl (fa0 4))) :: ((r0 6), .inl (ca 0, 60, .inl (fa0 5))) :: ((r0 7), .inl (ca 0, 60, .inl (fa0 6))) :: ((r0 8), .inl (ca 0, 60, .inl (fa0 7))) :: ((r0 9), .inl (ca 0, 180, .inl (fa0 8))) :: ((r0 10), .inl (ca 0, 60, .inl (fa0 9))) :: ((r0 11), .inl (ca 0, 180, .inl (fa0 10))) :: ((r0 12), .inl (ca 0, 180, .inl (fa0 11))) :: ((r0 13), .inl (ca 0, 180, .inl (fa0 12))) :: ((r0 14), .inl (ca 0, 180, .inl (fa0 13))) :: ((r0 15), .inl (ca 0, 180, .inl (fa0 14))) :: ((r0 16), .inl (ca 0, 180, .inl (fa0 15))) :: ((r0 17), .inl (ca 0, 180, .inl (fa0 16))) :: ((r0 18), .inl (ca 0, 180, .inl (fa0 17))) :: ((r0 19), .inl (ca 0, 180, .inl (fa0 18))) :: ((r0 20), .inl (ca 0, 180, .inl (fa0 19))) :: ((r0 21), .inl (ca 0, 3, .inl (fa0 20))) :: ((r0 22), .inl (ca 1, 3, .inr (.inl (fb0 0)))) :: ((r0 23), .inl (ca 1, 3, .inr (.inl (fb0 1)))) :: ((r0 24), .inl (ca 3, 3, .inl (fa0 21))) :: ((r0 25), .inl (ca 0, 3, .inl (fa0 22))) :: ((r0 26), .inl (ca 0, 3, .inl (fa0 23))) :: ((r0 27), .inl (ca 0, 810, .inl (fa0 24))) :: ((r0 28), .inl (ca 3, 810, .inl (fa0 25))) :: ((r0 29), .inl (ca 1, 810, .inr (.inl (fb0 2)))) :: ((r0 30), .inl (ca 0, 810, .inl (fa0 26))) :: ((r0 31), .inl (ca 0, 3, .inl (fa0 27))) :: ((r0 32), .inl (ca 0, 60, .inl (fa0 28))) :: ((r0 33), .inl (ca 0, 4, .inl (fa0 29))) :: rest) := hD
  have hl := lv_entry ([.ref (r0 0), .int p1]) (n := 2) (Nat.le_of_ble_eq_true rfl)
  rw [lg_entry_eq]
  generalize (lg_sl ([.ref (r0 0), .int p1]) ++ List.replicate (2 - (lg_sl ([.ref (r0 0), .int p1])).length) Slot.unset).toArray = ls at hl ⊢
  have hl : lv_has ls 2 [(0, .ref (r0 0)), (1, .int p1)] := hl
  generalize hQ9 : MQ below _ _ s 0 0 A = Q9
  refine lv_aload_n hx hb dX9_isRelease_0 rfl (lv_at hl 0 rfl) ?_
  refine va_get (D := D) (ci := 9) (v := .int (fi0 10)) (C := RX9) (T := TX9) (N := 44) hx hb hts inX9 hown hK hP 0 rfl rfl 42 (by decide) lk113 (fun _ h9 => h9) rfl dX9_isRelease_1 ?_
  refine lv_iconst (v := (-1)) hx hb dX9_isRelease_4 (by decide) ?_
  refine lv_icmp_eq (tgt := 28) hx hb dX9_isRelease_5 (by decide) (fun c1 => ?_) (fun c1 => ?_)
  ·
    have c1 := z_eq (i := (fi0 10).toInt) (j := (-1)) rfl (by decide) c1
    refine lv_iconst (v := 0) hx hb dX9_isRelease_28 (by decide) ?_
    rw [← hQ9]
    refine lv_topi (fun t2 et2 => ?_)
    have ht2 : t2.toInt = 0 := by rw [et2]; decide
    have hq3 : (t2.toInt = 1 ∧ 0 ≤ p1.toInt ∧ p1.toInt ≤ 268) ∨ t2.toInt = 0 := by omega
    have hz4 : narrow .boolean (.int t2) = .int t2 := z_nz (by constructor <;> omega)
    exact W.zret (v := t2) hx hb hr hz4 (fun t ht hW => ⟨⟨t2, (), rfl, hq3, ⟨by rw [ht]; exact hP, hD⟩⟩, hS.F ht⟩) hS.2.2 dX9_isRelease_29
  ·
    have c1 := z_ne (i := (fi0 10).toInt) (j := (-1)) rfl (by decide) c1
    refine lv_iload_n hx hb dX9_isRelease_8 rfl (lv_at hl 1 rfl) ?_
    refine lv_iconst (v := 0) hx hb dX9_isRelease_9 (by decide) ?_
    refine lv_aload_n hx hb dX9_isRelease_10 rfl (lv_at hl 0 rfl) ?_
    refine va_get (D := D) (ci := 9) (v := .ref (r0 26)) (C := RX9) (T := TX9) (N := 44) hx hb hts inX9 hown hK hP 0 rfl rfl 35 (by decide) lk92 (fun _ h9 => h9) rfl dX9_isRelease_11 ?_
    refine lv_iconst (v := 0) hx hb dX9_isRelease_14 (by decide) ?_
    have hi5 : vp_in 0 3 := z_in (i := 0) (by decide) (by omega) (by omega)
    refine va_iald hx hb hK hP 26 0 rfl rfl hi5 dX9_isRelease_15 ?_
    refine lv_topi (fun t6 et6 => ?_)
    have ht6 := z_at hv0a23 et6
    refine lv_iconst (v := 1) hx hb dX9_isRelease_16 (by decide) ?_
    refine lv_isub hx hb dX9_isRelease_17 ?_
    refine lv_topi (fun t7 et7 => ?_)
    try have ht7 : t7.toInt = t6.toInt - 1 := z_sub et7 rfl (by decide) (by omega -splitDisjunctions) (by omega -splitDisjunctions)
    refine z_iS (As := [.int p1, .int 0, .int t7]) (rest := []) hF (c_X9_in l D ca sa A _ p1 0 t7) (va_cwS 3 hts gX9_isRelease_X9_in rfl rfl rfl (by decide +kernel) ⟨Nat.le_of_ble_eq_true rfl, Nat.le_of_ble_eq_true rfl⟩) hE hP hD hS rfl hl.1 rfl (Nat.le_of_ble_eq_true rfl) dX9_isRelease_18 ⟨Nat.zero_le _, Nat.zero_le _⟩ (fun t9 u8 H locs hw10 hP hD hS => ?_)
    have hw10 : ((t9.toInt = 1 ∧ (0 : Int32).toInt ≤ p1.toInt ∧ p1.toInt ≤ t7.toInt) ∨ (t9.toInt = 0 ∧ (p1.toInt < (0 : Int32).toInt ∨ t7.toInt < p1.toInt))) := hw10
    have hq11 := hw10
    clear hw10
    have hk12 : (0 : Int32).toInt = 0 := by decide
    refine lv_if_eq (tgt := 28) hx hb dX9_isRelease_21 (by decide) (fun c13 => ?_) (fun c13 => ?_)
    ·
      have c13 := z_eq (i := t9.toInt) (j := 0) rfl (by decide) c13
      refine lv_iconst (v := 0) hx hb dX9_isRelease_28 (by decide) ?_
      rw [← hQ9]
      refine lv_topi (fun t14 et14 => ?_)
      have ht14 : t14.toInt = 0 := by rw [et14]; decide
      have hq15 : (t14.toInt = 1 ∧ 0 ≤ p1.toInt ∧ p1.toInt ≤ 268) ∨ t14.toInt = 0 := by omega
      have hz16 : narrow .boolean (.int t14) = .int t14 := z_nz (by constructor <;> omega)
      exact W.zret (v := t14) hx hb hr hz16 (fun t ht hW => ⟨⟨t14, (), rfl, hq15, ⟨by rw [ht]; exact hP, hD⟩⟩, hS.F ht⟩) hS.2.2 dX9_isRelease_29
    ·
      have c13 := z_ne (i := t9.toInt) (j := 0) rfl (by decide) c13
      refine lv_iconst (v := 1) hx hb dX9_isRelease_24 (by decide) ?_
      refine lv_goto (tgt := 29) hx hb dX9_isRelease_25 (by decide) ?_
      rw [← hQ9]
      refine lv_topi (fun t17 et17 => ?_)
      have ht17 : t17.toInt = 1 := by rw [et17]; decide
      have hq18 : (t17.toInt = 1 ∧ 0 ≤ p1.toInt ∧ p1.toInt ≤ 268) ∨ t17.toInt = 0 := by omega
      have hz19 : narrow .boolean (.int t17) = .int t17 := z_nz (by constructor <;> omega)
      exact W.zret (v := t17) hx hb hr hz19 (fun t ht hW => ⟨⟨t17, (), rfl, hq18, ⟨by rw [ht]; exact hP, hD⟩⟩, hS.F ht⟩) hS.2.2 dX9_isRelease_29

set_option maxHeartbeats 8000000 in
set_option maxRecDepth 100000 in
theorem c_X9_release (l : Launch) (D : va_G) (ca : Nat → ClassId) (sa : Nat → Nat) (A : Nat → Prop) (rest : va_W) (r0 : Nat → Nat) (fi0 : Nat → Int32) (fl0 : Nat → Int64) (fa0 : Nat → Nat → Int32) (fb0 : Nat → Nat → Int64) (hv0 : Ok_MOD fi0 fa0) (p1 : Int32) (p2 : Int32) : Met l yX9_release wsX9_release ({ frames := 2, cells := 0, slots := 0, locals := 43 }) (va_Pc [.ref (r0 0), .int p1, .int p2] (zPre D ca sa A (w_MOD ca r0 fi0 fl0 fa0 fb0 (rest)))) (va_Qi (fun (r : Int32) (u : Unit) => True) (fun u t => zPost D A (w_MOD ca r0 fi0 fl0 fa0 fb0 (rest)) t) A) 0 0 A := by
  refine Met.ofW (cc := cX9_release) (maxL := 5) (ret := (some .int)) (by decide) rfl ?_
  intro p e s m args below meth c s₁ B hml hv9
  obtain ⟨rfl, hE, hP, hD⟩ := hv9
  have hx := B.exec
  have hb := B.bytes
  have hr := B.returns
  have hts := atoms_spec (ws := wsX9_release) B.pre
  have hown : s.vm.findClass RX9 = some m.cls := findClass_of_methodNamed B.named
  have hlocks := B.notSynchronized
  have hK := hE.1
  have hF : CallFix p m c cX9_release 5 s _ wsX9_release RX9 := ⟨hx, hb, hml, hown, hts⟩
  have hS : va_S A s.heap s.heap [] := va_S.rf
  have lk192 := hts (.fieldLink RX9 192 "BranchPlayModel" "changes" "I") (by decide +kernel)
  have inX9 : ∀ w ∈ wsX90, w ∈ wsX9_release := by decide +kernel
  have lk104 := hts (.fieldLink RX9 104 "BranchPlayModel" "rHeld" "[I") (by decide +kernel)
  have lk98 := hts (.fieldLink RX9 98 "BranchPlayModel" "rHot" "[Z") (by decide +kernel)
  have lk95 := hts (.fieldLink RX9 95 "BranchPlayModel" "rTick" "[I") (by decide +kernel)
  have lk101 := hts (.fieldLink RX9 101 "BranchPlayModel" "rHas" "[J") (by decide +kernel)
  obtain ⟨⟨hv0i0, hv0j0⟩, ⟨hv0i1, hv0j1⟩, ⟨hv0i5, hv0j5⟩, ⟨hv0i9, hv0j9⟩, hv0a6, hv0a8, hv0a9, hv0a23, hv0a27, hv0a28, hv0x0, hv0y0⟩ := hv0
  generalize hHe : s.heap = H at hP
  have hS : va_S A s.heap H [] := by rw [← hHe]; exact hS
  have hP : va_P D vwCl (((r0 0), .inr (9, [.ref (r0 1), .int (fi0 0), .int (fi0 1), .int (fi0 2), .int (fi0 3), .int (fi0 4), .int (fi0 5), .int (fi0 6), .int (fi0 7), .int (fi0 8), .ref (r0 2), .int (fi0 9), .ref (r0 3), .ref (r0 4), .ref (r0 5), .ref (r0 6), .ref (r0 7), .ref (r0 8), .ref (r0 9), .ref (r0 10), .ref (r0 11), .ref (r0 12), .ref (r0 13), .ref (r0 14), .ref (r0 15), .ref (r0 16), .ref (r0 17), .ref (r0 18), .ref (r0 19), .ref (r0 20), .ref (r0 21), .ref (r0 22), .ref (r0 23), .ref (r0 24), .ref (r0 25), .ref (r0 26), .ref (r0 27), .ref (r0 28), .ref (r0 29), .ref (r0 30), .ref (r0 31), .ref (r0 32), .int (fi0 10), .ref (r0 33)])) :: ((r0 1), .inl (ca 2, 600, .inl (fa0 0))) :: ((r0 2), .inl (ca 0, 48, .inl (fa0 1))) :: ((r0 3), .inl (ca 0, 60, .inl (fa0 2))) :: ((r0 4), .inl (ca 0, 60, .inl (fa0 3))) :: ((r0 5), .inl (ca 0, 60, .inl (fa0 4))) :: ((r0 6), .inl (ca 0, 60, .inl (fa0 5))) :: ((r0 7), .inl (ca 0, 60, .inl (fa0 6))) :: ((r0 8), .inl (ca 0, 60, .inl (fa0 7))) :: ((r0 9), .inl (ca 0, 180, .inl (fa0 8))) :: ((r0 10), .inl (ca 0, 60, .inl (fa0 9))) :: ((r0 11), .inl (ca 0, 180, .inl (fa0 10))) :: ((r0 12), .inl (ca 0, 180, .inl (fa0 11))) :: ((r0 13), .inl (ca 0, 180, .inl (fa0 12))) :: ((r0 14), .inl (ca 0, 180, .inl (fa0 13))) :: ((r0 15), .inl (ca 0, 180, .inl (fa0 14))) :: ((r0 16), .inl (ca 0, 180, .inl (fa0 15))) :: ((r0 17), .inl (ca 0, 180, .inl (fa0 16))) :: ((r0 18), .inl (ca 0, 180, .inl (fa0 17))) :: ((r0 19), .inl (ca 0, 180, .inl (fa0 18))) :: ((r0 20), .inl (ca 0, 180, .inl (fa0 19))) :: ((r0 21), .inl (ca 0, 3, .inl (fa0 20))) :: ((r0 22), .inl (ca 1, 3, .inr (.inl (fb0 0)))) :: ((r0 23), .inl (ca 1, 3, .inr (.inl (fb0 1)))) :: ((r0 24), .inl (ca 3, 3, .inl (fa0 21))) :: ((r0 25), .inl (ca 0, 3, .inl (fa0 22))) :: ((r0 26), .inl (ca 0, 3, .inl (fa0 23))) :: ((r0 27), .inl (ca 0, 810, .inl (fa0 24))) :: ((r0 28), .inl (ca 3, 810, .inl (fa0 25))) :: ((r0 29), .inl (ca 1, 810, .inr (.inl (fb0 2)))) :: ((r0 30), .inl (ca 0, 810, .inl (fa0 26))) :: ((r0 31), .inl (ca 0, 3, .inl (fa0 27))) :: ((r0 32), .inl (ca 0, 60, .inl (fa0 28))) :: ((r0 33), .inl (ca 0, 4, .inl (fa0 29))) :: rest) H := hP
  have hD : va_D A (((r0 0), .inr (9, [.ref (r0 1), .int (fi0 0), .int (fi0 1), .int (fi0 2), .int (fi0 3), .int (fi0 4), .int (fi0 5), .int (fi0 6), .int (fi0 7), .int (fi0 8), .ref (r0 2), .int (fi0 9), .ref (r0 3), .ref (r0 4), .ref (r0 5), .ref (r0 6), .ref (r0 7), .ref (r0 8), .ref (r0 9), .ref (r0 10), .ref (r0 11), .ref (r0 12), .ref (r0 13), .ref (r0 14), .ref (r0 15), .ref (r0 16), .ref (r0 17), .ref (r0 18), .ref (r0 19), .ref (r0 20), .ref (r0 21), .ref (r0 22), .ref (r0 23), .ref (r0 24), .ref (r0 25), .ref (r0 26), .ref (r0 27), .ref (r0 28), .ref (r0 29), .ref (r0 30), .ref (r0 31), .ref (r0 32), .int (fi0 10), .ref (r0 33)])) :: ((r0 1), .inl (ca 2, 600, .inl (fa0 0))) :: ((r0 2), .inl (ca 0, 48, .inl (fa0 1))) :: ((r0 3), .inl (ca 0, 60, .inl (fa0 2))) :: ((r0 4), .inl (ca 0, 60, .inl (fa0 3))) :: ((r0 5), .inl (ca 0, 60, .inl (fa0 4))) :: ((r0 6), .inl (ca 0, 60, .inl (fa0 5))) :: ((r0 7), .inl (ca 0, 60, .inl (fa0 6))) :: ((r0 8), .inl (ca 0, 60, .inl (fa0 7))) :: ((r0 9), .inl (ca 0, 180, .inl (fa0 8))) :: ((r0 10), .inl (ca 0, 60, .inl (fa0 9))) :: ((r0 11), .inl (ca 0, 180, .inl (fa0 10))) :: ((r0 12), .inl (ca 0, 180, .inl (fa0 11))) :: ((r0 13), .inl (ca 0, 180, .inl (fa0 12))) :: ((r0 14), .inl (ca 0, 180, .inl (fa0 13))) :: ((r0 15), .inl (ca 0, 180, .inl (fa0 14))) :: ((r0 16), .inl (ca 0, 180, .inl (fa0 15))) :: ((r0 17), .inl (ca 0, 180, .inl (fa0 16))) :: ((r0 18), .inl (ca 0, 180, .inl (fa0 17))) :: ((r0 19), .inl (ca 0, 180, .inl (fa0 18))) :: ((r0 20), .inl (ca 0, 180, .inl (fa0 19))) :: ((r0 21), .inl (ca 0, 3, .inl (fa0 20))) :: ((r0 22), .inl (ca 1, 3, .inr (.inl (fb0 0)))) :: ((r0 23), .inl (ca 1, 3, .inr (.inl (fb0 1)))) :: ((r0 24), .inl (ca 3, 3, .inl (fa0 21))) :: ((r0 25), .inl (ca 0, 3, .inl (fa0 22))) :: ((r0 26), .inl (ca 0, 3, .inl (fa0 23))) :: ((r0 27), .inl (ca 0, 810, .inl (fa0 24))) :: ((r0 28), .inl (ca 3, 810, .inl (fa0 25))) :: ((r0 29), .inl (ca 1, 810, .inr (.inl (fb0 2)))) :: ((r0 30), .inl (ca 0, 810, .inl (fa0 26))) :: ((r0 31), .inl (ca 0, 3, .inl (fa0 27))) :: ((r0 32), .inl (ca 0, 60, .inl (fa0 28))) :: ((r0 33), .inl (ca 0, 4, .inl (fa0 29))) :: rest) := hD
  have hl := lv_entry ([.ref (r0 0), .int p1, .int p2]) (n := 5) (Nat.le_of_ble_eq_true rfl)
  rw [lg_entry_eq]
  generalize (lg_sl ([.ref (r0 0), .int p1, .int p2]) ++ List.replicate (5 - (lg_sl ([.ref (r0 0), .int p1, .int p2])).length) Slot.unset).toArray = ls at hl ⊢
  have hl : lv_has ls 5 [(0, .ref (r0 0)), (1, .int p1), (2, .int p2)] := hl
  generalize hQ9 : MQ below _ _ s 0 0 A = Q9
  refine lv_aload_n hx hb dX9_release_0 rfl (lv_at hl 0 rfl) ?_
  refine lv_iload_n hx hb dX9_release_1 rfl (lv_at hl 1 rfl) ?_
  have ho1 : (0 ≤ (fi0 0).toInt ∧ (fi0 0).toInt ≤ 600) ∧ (0 ≤ (fi0 1).toInt ∧ (fi0 1).toInt ≤ 600) ∧ (0 ≤ (fi0 5).toInt ∧ (fi0 5).toInt ≤ 600) ∧ (0 ≤ (fi0 9).toInt ∧ (fi0 9).toInt ≤ 60) ∧ z_rng (-1) 59 (fa0 6) ∧ z_rng 0 59 (fa0 8) ∧ z_rng 0 3 (fa0 9) ∧ z_rng 0 269 (fa0 23) ∧ z_rng 0 5 (fa0 27) ∧ z_rng 0 59 (fa0 28) ∧ ((fi0 2).toInt = 1 → 0 ≤ (fi0 3).toInt) ∧ zOkR (fa0 1) (fa0 27) := ⟨⟨by omega, by omega⟩, ⟨by omega, by omega⟩, ⟨by omega, by omega⟩, ⟨by omega, by omega⟩, hv0a6, hv0a8, hv0a9, hv0a23, hv0a27, hv0a28, by omega, hv0y0⟩
  refine z_iV (As := [.int p1]) (rest := []) hF (c_X9_isRelease l D ca sa A rest (zl 0 [(r0 0), (r0 1), (r0 2), (r0 3), (r0 4), (r0 5), (r0 6), (r0 7), (r0 8), (r0 9), (r0 10), (r0 11), (r0 12), (r0 13), (r0 14), (r0 15), (r0 16), (r0 17), (r0 18), (r0 19), (r0 20), (r0 21), (r0 22), (r0 23), (r0 24), (r0 25), (r0 26), (r0 27), (r0 28), (r0 29), (r0 30), (r0 31), (r0 32), (r0 33)]) (zl 0 [(fi0 0), (fi0 1), (fi0 2), (fi0 3), (fi0 4), (fi0 5), (fi0 6), (fi0 7), (fi0 8), (fi0 9), (fi0 10)]) (zl 0 []) (zl (fun _ => 0) [(fa0 0), (fa0 1), (fa0 2), (fa0 3), (fa0 4), (fa0 5), (fa0 6), (fa0 7), (fa0 8), (fa0 9), (fa0 10), (fa0 11), (fa0 12), (fa0 13), (fa0 14), (fa0 15), (fa0 16), (fa0 17), (fa0 18), (fa0 19), (fa0 20), (fa0 21), (fa0 22), (fa0 23), (fa0 24), (fa0 25), (fa0 26), (fa0 27), (fa0 28), (fa0 29)]) (zl (fun _ => 0) [(fb0 0), (fb0 1), (fb0 2)]) ho1 p1) (cwV 1 hts gX9_release_X9_isRelease rfl rfl rfl (by decide +kernel) ⟨Nat.le_of_ble_eq_true rfl, Nat.le_of_ble_eq_true rfl⟩) hE hP hD hS 9 0 rfl rfl rfl hl.1 rfl (Nat.le_of_ble_eq_true rfl) dX9_release_2 ⟨Nat.zero_le _, Nat.zero_le _⟩ (fun t3 u2 H locs hw4 hP hD hS => ?_)
  have hw4 : ((t3.toInt = 1 ∧ 0 ≤ p1.toInt ∧ p1.toInt ≤ 268) ∨ t3.toInt = 0) := hw4
  have hq5 := hw4
  clear hw4
  have hP : va_P D vwCl (((r0 0), .inr (9, [.ref (r0 1), .int (fi0 0), .int (fi0 1), .int (fi0 2), .int (fi0 3), .int (fi0 4), .int (fi0 5), .int (fi0 6), .int (fi0 7), .int (fi0 8), .ref (r0 2), .int (fi0 9), .ref (r0 3), .ref (r0 4), .ref (r0 5), .ref (r0 6), .ref (r0 7), .ref (r0 8), .ref (r0 9), .ref (r0 10), .ref (r0 11), .ref (r0 12), .ref (r0 13), .ref (r0 14), .ref (r0 15), .ref (r0 16), .ref (r0 17), .ref (r0 18), .ref (r0 19), .ref (r0 20), .ref (r0 21), .ref (r0 22), .ref (r0 23), .ref (r0 24), .ref (r0 25), .ref (r0 26), .ref (r0 27), .ref (r0 28), .ref (r0 29), .ref (r0 30), .ref (r0 31), .ref (r0 32), .int (fi0 10), .ref (r0 33)])) :: ((r0 1), .inl (ca 2, 600, .inl (fa0 0))) :: ((r0 2), .inl (ca 0, 48, .inl (fa0 1))) :: ((r0 3), .inl (ca 0, 60, .inl (fa0 2))) :: ((r0 4), .inl (ca 0, 60, .inl (fa0 3))) :: ((r0 5), .inl (ca 0, 60, .inl (fa0 4))) :: ((r0 6), .inl (ca 0, 60, .inl (fa0 5))) :: ((r0 7), .inl (ca 0, 60, .inl (fa0 6))) :: ((r0 8), .inl (ca 0, 60, .inl (fa0 7))) :: ((r0 9), .inl (ca 0, 180, .inl (fa0 8))) :: ((r0 10), .inl (ca 0, 60, .inl (fa0 9))) :: ((r0 11), .inl (ca 0, 180, .inl (fa0 10))) :: ((r0 12), .inl (ca 0, 180, .inl (fa0 11))) :: ((r0 13), .inl (ca 0, 180, .inl (fa0 12))) :: ((r0 14), .inl (ca 0, 180, .inl (fa0 13))) :: ((r0 15), .inl (ca 0, 180, .inl (fa0 14))) :: ((r0 16), .inl (ca 0, 180, .inl (fa0 15))) :: ((r0 17), .inl (ca 0, 180, .inl (fa0 16))) :: ((r0 18), .inl (ca 0, 180, .inl (fa0 17))) :: ((r0 19), .inl (ca 0, 180, .inl (fa0 18))) :: ((r0 20), .inl (ca 0, 180, .inl (fa0 19))) :: ((r0 21), .inl (ca 0, 3, .inl (fa0 20))) :: ((r0 22), .inl (ca 1, 3, .inr (.inl (fb0 0)))) :: ((r0 23), .inl (ca 1, 3, .inr (.inl (fb0 1)))) :: ((r0 24), .inl (ca 3, 3, .inl (fa0 21))) :: ((r0 25), .inl (ca 0, 3, .inl (fa0 22))) :: ((r0 26), .inl (ca 0, 3, .inl (fa0 23))) :: ((r0 27), .inl (ca 0, 810, .inl (fa0 24))) :: ((r0 28), .inl (ca 3, 810, .inl (fa0 25))) :: ((r0 29), .inl (ca 1, 810, .inr (.inl (fb0 2)))) :: ((r0 30), .inl (ca 0, 810, .inl (fa0 26))) :: ((r0 31), .inl (ca 0, 3, .inl (fa0 27))) :: ((r0 32), .inl (ca 0, 60, .inl (fa0 28))) :: ((r0 33), .inl (ca 0, 4, .inl (fa0 29))) :: rest) H := hP
  have hD : va_D A (((r0 0), .inr (9, [.ref (r0 1), .int (fi0 0), .int (fi0 1), .int (fi0 2), .int (fi0 3), .int (fi0 4), .int (fi0 5), .int (fi0 6), .int (fi0 7), .int (fi0 8), .ref (r0 2), .int (fi0 9), .ref (r0 3), .ref (r0 4), .ref (r0 5), .ref (r0 6), .ref (r0 7), .ref (r0 8), .ref (r0 9), .ref (r0 10), .ref (r0 11), .ref (r0 12), .ref (r0 13), .ref (r0 14), .ref (r0 15), .ref (r0 16), .ref (r0 17), .ref (r0 18), .ref (r0 19), .ref (r0 20), .ref (r0 21), .ref (r0 22), .ref (r0 23), .ref (r0 24), .ref (r0 25), .ref (r0 26), .ref (r0 27), .ref (r0 28), .ref (r0 29), .ref (r0 30), .ref (r0 31), .ref (r0 32), .int (fi0 10), .ref (r0 33)])) :: ((r0 1), .inl (ca 2, 600, .inl (fa0 0))) :: ((r0 2), .inl (ca 0, 48, .inl (fa0 1))) :: ((r0 3), .inl (ca 0, 60, .inl (fa0 2))) :: ((r0 4), .inl (ca 0, 60, .inl (fa0 3))) :: ((r0 5), .inl (ca 0, 60, .inl (fa0 4))) :: ((r0 6), .inl (ca 0, 60, .inl (fa0 5))) :: ((r0 7), .inl (ca 0, 60, .inl (fa0 6))) :: ((r0 8), .inl (ca 0, 60, .inl (fa0 7))) :: ((r0 9), .inl (ca 0, 180, .inl (fa0 8))) :: ((r0 10), .inl (ca 0, 60, .inl (fa0 9))) :: ((r0 11), .inl (ca 0, 180, .inl (fa0 10))) :: ((r0 12), .inl (ca 0, 180, .inl (fa0 11))) :: ((r0 13), .inl (ca 0, 180, .inl (fa0 12))) :: ((r0 14), .inl (ca 0, 180, .inl (fa0 13))) :: ((r0 15), .inl (ca 0, 180, .inl (fa0 14))) :: ((r0 16), .inl (ca 0, 180, .inl (fa0 15))) :: ((r0 17), .inl (ca 0, 180, .inl (fa0 16))) :: ((r0 18), .inl (ca 0, 180, .inl (fa0 17))) :: ((r0 19), .inl (ca 0, 180, .inl (fa0 18))) :: ((r0 20), .inl (ca 0, 180, .inl (fa0 19))) :: ((r0 21), .inl (ca 0, 3, .inl (fa0 20))) :: ((r0 22), .inl (ca 1, 3, .inr (.inl (fb0 0)))) :: ((r0 23), .inl (ca 1, 3, .inr (.inl (fb0 1)))) :: ((r0 24), .inl (ca 3, 3, .inl (fa0 21))) :: ((r0 25), .inl (ca 0, 3, .inl (fa0 22))) :: ((r0 26), .inl (ca 0, 3, .inl (fa0 23))) :: ((r0 27), .inl (ca 0, 810, .inl (fa0 24))) :: ((r0 28), .inl (ca 3, 810, .inl (fa0 25))) :: ((r0 29), .inl (ca 1, 810, .inr (.inl (fb0 2)))) :: ((r0 30), .inl (ca 0, 810, .inl (fa0 26))) :: ((r0 31), .inl (ca 0, 3, .inl (fa0 27))) :: ((r0 32), .inl (ca 0, 60, .inl (fa0 28))) :: ((r0 33), .inl (ca 0, 4, .inl (fa0 29))) :: rest) := hD
  refine lv_if_ne (tgt := 11) hx hb dX9_release_5 (by decide) (fun c6 => ?_) (fun c6 => ?_)
  ·
    have c6 := z_ne (i := t3.toInt) (j := 0) rfl (by decide) c6
    refine lv_iconst (v := 0) hx hb dX9_release_11 (by decide) ?_
    refine lv_topi (fun t7 et7 => ?_)
    have ht7 : t7.toInt = 0 := by rw [et7]; decide
    refine lv_istore_n (lv' := [(3, .int t7), (0, .ref (r0 0)), (1, .int p1), (2, .int p2)]) hx hb dX9_release_12 rfl hl (by decide) rfl (fun ls hl => ?_)
    refine lv_iconst (v := 0) hx hb dX9_release_13 (by decide) ?_
    refine lv_topi (fun t8 et8 => ?_)
    have ht8 : t8.toInt = 0 := by rw [et8]; decide
    refine lv_istore (lv' := [(4, .int t8), (3, .int t7), (0, .ref (r0 0)), (1, .int p1), (2, .int p2)]) hx hb dX9_release_14 hl (by decide) rfl (fun ls hl => ?_)
    have J16_9 : ∀ (n9 : Nat) (x3_9 : Int32) (x4_9 : Int32) (H : Heap) (locs : List Loc) (hP : va_P D vwCl (((r0 0), .inr (9, [.ref (r0 1), .int (fi0 0), .int (fi0 1), .int (fi0 2), .int (fi0 3), .int (fi0 4), .int (fi0 5), .int (fi0 6), .int (fi0 7), .int (fi0 8), .ref (r0 2), .int (fi0 9), .ref (r0 3), .ref (r0 4), .ref (r0 5), .ref (r0 6), .ref (r0 7), .ref (r0 8), .ref (r0 9), .ref (r0 10), .ref (r0 11), .ref (r0 12), .ref (r0 13), .ref (r0 14), .ref (r0 15), .ref (r0 16), .ref (r0 17), .ref (r0 18), .ref (r0 19), .ref (r0 20), .ref (r0 21), .ref (r0 22), .ref (r0 23), .ref (r0 24), .ref (r0 25), .ref (r0 26), .ref (r0 27), .ref (r0 28), .ref (r0 29), .ref (r0 30), .ref (r0 31), .ref (r0 32), .int (fi0 10), .ref (r0 33)])) :: ((r0 1), .inl (ca 2, 600, .inl (fa0 0))) :: ((r0 2), .inl (ca 0, 48, .inl (fa0 1))) :: ((r0 3), .inl (ca 0, 60, .inl (fa0 2))) :: ((r0 4), .inl (ca 0, 60, .inl (fa0 3))) :: ((r0 5), .inl (ca 0, 60, .inl (fa0 4))) :: ((r0 6), .inl (ca 0, 60, .inl (fa0 5))) :: ((r0 7), .inl (ca 0, 60, .inl (fa0 6))) :: ((r0 8), .inl (ca 0, 60, .inl (fa0 7))) :: ((r0 9), .inl (ca 0, 180, .inl (fa0 8))) :: ((r0 10), .inl (ca 0, 60, .inl (fa0 9))) :: ((r0 11), .inl (ca 0, 180, .inl (fa0 10))) :: ((r0 12), .inl (ca 0, 180, .inl (fa0 11))) :: ((r0 13), .inl (ca 0, 180, .inl (fa0 12))) :: ((r0 14), .inl (ca 0, 180, .inl (fa0 13))) :: ((r0 15), .inl (ca 0, 180, .inl (fa0 14))) :: ((r0 16), .inl (ca 0, 180, .inl (fa0 15))) :: ((r0 17), .inl (ca 0, 180, .inl (fa0 16))) :: ((r0 18), .inl (ca 0, 180, .inl (fa0 17))) :: ((r0 19), .inl (ca 0, 180, .inl (fa0 18))) :: ((r0 20), .inl (ca 0, 180, .inl (fa0 19))) :: ((r0 21), .inl (ca 0, 3, .inl (fa0 20))) :: ((r0 22), .inl (ca 1, 3, .inr (.inl (fb0 0)))) :: ((r0 23), .inl (ca 1, 3, .inr (.inl (fb0 1)))) :: ((r0 24), .inl (ca 3, 3, .inl (fa0 21))) :: ((r0 25), .inl (ca 0, 3, .inl (fa0 22))) :: ((r0 26), .inl (ca 0, 3, .inl (fa0 23))) :: ((r0 27), .inl (ca 0, 810, .inl (fa0 24))) :: ((r0 28), .inl (ca 3, 810, .inl (fa0 25))) :: ((r0 29), .inl (ca 1, 810, .inr (.inl (fb0 2)))) :: ((r0 30), .inl (ca 0, 810, .inl (fa0 26))) :: ((r0 31), .inl (ca 0, 3, .inl (fa0 27))) :: ((r0 32), .inl (ca 0, 60, .inl (fa0 28))) :: ((r0 33), .inl (ca 0, 4, .inl (fa0 29))) :: rest) H) (hD : va_D A (((r0 0), .inr (9, [.ref (r0 1), .int (fi0 0), .int (fi0 1), .int (fi0 2), .int (fi0 3), .int (fi0 4), .int (fi0 5), .int (fi0 6), .int (fi0 7), .int (fi0 8), .ref (r0 2), .int (fi0 9), .ref (r0 3), .ref (r0 4), .ref (r0 5), .ref (r0 6), .ref (r0 7), .ref (r0 8), .ref (r0 9), .ref (r0 10), .ref (r0 11), .ref (r0 12), .ref (r0 13), .ref (r0 14), .ref (r0 15), .ref (r0 16), .ref (r0 17), .ref (r0 18), .ref (r0 19), .ref (r0 20), .ref (r0 21), .ref (r0 22), .ref (r0 23), .ref (r0 24), .ref (r0 25), .ref (r0 26), .ref (r0 27), .ref (r0 28), .ref (r0 29), .ref (r0 30), .ref (r0 31), .ref (r0 32), .int (fi0 10), .ref (r0 33)])) :: ((r0 1), .inl (ca 2, 600, .inl (fa0 0))) :: ((r0 2), .inl (ca 0, 48, .inl (fa0 1))) :: ((r0 3), .inl (ca 0, 60, .inl (fa0 2))) :: ((r0 4), .inl (ca 0, 60, .inl (fa0 3))) :: ((r0 5), .inl (ca 0, 60, .inl (fa0 4))) :: ((r0 6), .inl (ca 0, 60, .inl (fa0 5))) :: ((r0 7), .inl (ca 0, 60, .inl (fa0 6))) :: ((r0 8), .inl (ca 0, 60, .inl (fa0 7))) :: ((r0 9), .inl (ca 0, 180, .inl (fa0 8))) :: ((r0 10), .inl (ca 0, 60, .inl (fa0 9))) :: ((r0 11), .inl (ca 0, 180, .inl (fa0 10))) :: ((r0 12), .inl (ca 0, 180, .inl (fa0 11))) :: ((r0 13), .inl (ca 0, 180, .inl (fa0 12))) :: ((r0 14), .inl (ca 0, 180, .inl (fa0 13))) :: ((r0 15), .inl (ca 0, 180, .inl (fa0 14))) :: ((r0 16), .inl (ca 0, 180, .inl (fa0 15))) :: ((r0 17), .inl (ca 0, 180, .inl (fa0 16))) :: ((r0 18), .inl (ca 0, 180, .inl (fa0 17))) :: ((r0 19), .inl (ca 0, 180, .inl (fa0 18))) :: ((r0 20), .inl (ca 0, 180, .inl (fa0 19))) :: ((r0 21), .inl (ca 0, 3, .inl (fa0 20))) :: ((r0 22), .inl (ca 1, 3, .inr (.inl (fb0 0)))) :: ((r0 23), .inl (ca 1, 3, .inr (.inl (fb0 1)))) :: ((r0 24), .inl (ca 3, 3, .inl (fa0 21))) :: ((r0 25), .inl (ca 0, 3, .inl (fa0 22))) :: ((r0 26), .inl (ca 0, 3, .inl (fa0 23))) :: ((r0 27), .inl (ca 0, 810, .inl (fa0 24))) :: ((r0 28), .inl (ca 3, 810, .inl (fa0 25))) :: ((r0 29), .inl (ca 1, 810, .inr (.inl (fb0 2)))) :: ((r0 30), .inl (ca 0, 810, .inl (fa0 26))) :: ((r0 31), .inl (ca 0, 3, .inl (fa0 27))) :: ((r0 32), .inl (ca 0, 60, .inl (fa0 28))) :: ((r0 33), .inl (ca 0, 4, .inl (fa0 29))) :: rest)) (hS : va_S A s.heap H locs) (ls : Array Slot) (hl : lv_has ls 5 [(0, .ref (r0 0)), (1, .int p1), (2, .int p2), (3, .int x3_9), (4, .int x4_9)]) (hf9_0 : 0 ≤ x4_9.toInt ∧ x4_9.toInt ≤ 60), (61 - x4_9.toInt).toNat < n9 → W p l e (headSpec wsX9_release ({ frames := 2, cells := 0, slots := 0, locals := 43 })).room s m ([.ref (r0 0), .int p1, .int p2] : List Value).toArray below meth c H locs 0 0 Q9 (F0 m 16 ls []) := by
      intro n9
      induction n9 with
      | zero => intro x3_9 x4_9 H locs hP hD hS ls hl hf9_0 hn9; exact absurd hn9 (Nat.not_lt_zero _)
      | succ n9 ih9 =>
        intro x3_9 x4_9 H locs hP hD hS ls hl hf9_0 hn9
        refine lv_iload hx hb dX9_release_16 (lv_at hl 4 rfl) ?_
        refine lv_aload_n hx hb dX9_release_18 rfl (lv_at hl 0 rfl) ?_
        refine va_get (D := D) (ci := 9) (v := .int (fi0 9)) (C := RX9) (T := TX9) (N := 44) hx hb hts inX9 hown hK hP 0 rfl rfl 11 (by decide) lk192 (fun _ h9 => h9) rfl dX9_release_19 ?_
        refine lv_icmp_ge (tgt := 53) hx hb dX9_release_22 (by decide) (fun c10 => ?_) (fun c10 => ?_)
        ·
          have c10 := z_le (i := (fi0 9).toInt) (j := x4_9.toInt) rfl rfl c10
          refine lv_iload_n hx hb dX9_release_53 rfl (lv_at hl 2 rfl) ?_
          refine lv_if_ne (tgt := 66) hx hb dX9_release_54 (by decide) (fun c11 => ?_) (fun c11 => ?_)
          ·
            have c11 := z_ne (i := p2.toInt) (j := 0) rfl (by decide) c11
            refine lv_iload_n hx hb dX9_release_66 rfl (lv_at hl 2 rfl) ?_
            refine lv_iconst (v := 1) hx hb dX9_release_67 (by decide) ?_
            refine lv_icmp_ne (tgt := 88) hx hb dX9_release_68 (by decide) (fun c12 => ?_) (fun c12 => ?_)
            ·
              have c12 := z_ne (i := p2.toInt) (j := 1) rfl (by decide) c12
              refine lv_iload_n hx hb dX9_release_88 rfl (lv_at hl 2 rfl) ?_
              refine lv_iconst (v := 2) hx hb dX9_release_89 (by decide) ?_
              refine lv_icmp_ne (tgt := 97) hx hb dX9_release_90 (by decide) (fun c13 => ?_) (fun c13 => ?_)
              ·
                have c13 := z_ne (i := p2.toInt) (j := 2) rfl (by decide) c13
                refine lv_iload_n hx hb dX9_release_97 rfl (lv_at hl 2 rfl) ?_
                refine lv_iconst (v := 3) hx hb dX9_release_98 (by decide) ?_
                refine lv_icmp_ne (tgt := 111) hx hb dX9_release_99 (by decide) (fun c14 => ?_) (fun c14 => ?_)
                ·
                  have c14 := z_ne (i := p2.toInt) (j := 3) rfl (by decide) c14
                  refine lv_bipush (v := (-9)) hx hb dX9_release_111 (by decide) ?_
                  rw [← hQ9]
                  refine lv_topi (fun t15 et15 => ?_)
                  have ht15 : t15.toInt = (-9) := by rw [et15]; decide
                  exact W.iret (v := t15) hx hb hr (fun t ht hW => ⟨⟨t15, (), rfl, trivial, ⟨by rw [ht]; exact hP, hD⟩⟩, hS.F ht⟩) hS.2.2 dX9_release_113
                ·
                  have c14 := z_eq (i := p2.toInt) (j := 3) rfl (by decide) c14
                  refine lv_aload_n hx hb dX9_release_102 rfl (lv_at hl 0 rfl) ?_
                  refine va_get (D := D) (ci := 9) (v := .ref (r0 30)) (C := RX9) (T := TX9) (N := 44) hx hb hts inX9 hown hK hP 0 rfl rfl 39 (by decide) lk104 (fun _ h9 => h9) rfl dX9_release_103 ?_
                  refine lv_iload_n hx hb dX9_release_106 rfl (lv_at hl 1 rfl) ?_
                  have hi16 : vp_in p1 810 := z_in (i := p1.toInt) rfl (by omega) (by omega)
                  refine va_iald hx hb hK hP 30 0 rfl rfl hi16 dX9_release_107 ?_
                  refine lv_topi (fun t17 et17 => ?_)
                  refine lv_goto (tgt := 113) hx hb dX9_release_108 (by decide) ?_
                  rw [← hQ9]
                  exact W.iret (v := t17) hx hb hr (fun t ht hW => ⟨⟨t17, (), rfl, trivial, ⟨by rw [ht]; exact hP, hD⟩⟩, hS.F ht⟩) hS.2.2 dX9_release_113
              ·
                have c13 := z_eq (i := p2.toInt) (j := 2) rfl (by decide) c13
                refine lv_iload_n hx hb dX9_release_93 rfl (lv_at hl 3 rfl) ?_
                refine lv_goto (tgt := 113) hx hb dX9_release_94 (by decide) ?_
                rw [← hQ9]
                exact W.iret (v := x3_9) hx hb hr (fun t ht hW => ⟨⟨x3_9, (), rfl, trivial, ⟨by rw [ht]; exact hP, hD⟩⟩, hS.F ht⟩) hS.2.2 dX9_release_113
            ·
              have c12 := z_eq (i := p2.toInt) (j := 1) rfl (by decide) c12
              refine lv_aload_n hx hb dX9_release_71 rfl (lv_at hl 0 rfl) ?_
              refine va_get (D := D) (ci := 9) (v := .ref (r0 28)) (C := RX9) (T := TX9) (N := 44) hx hb hts inX9 hown hK hP 0 rfl rfl 37 (by decide) lk98 (fun _ h9 => h9) rfl dX9_release_72 ?_
              refine lv_iload_n hx hb dX9_release_75 rfl (lv_at hl 1 rfl) ?_
              have hi18 : vp_in p1 810 := z_in (i := p1.toInt) rfl (by omega) (by omega)
              refine va_zald hx hb hK hP 28 3 rfl rfl hi18 dX9_release_76 ?_
              refine lv_topi (fun t19 et19 => ?_)
              refine lv_if_eq (tgt := 84) hx hb dX9_release_77 (by decide) (fun c20 => ?_) (fun c20 => ?_)
              ·
                have c20 := z_eq (i := t19.toInt) (j := 0) rfl (by decide) c20
                refine lv_iconst (v := 0) hx hb dX9_release_84 (by decide) ?_
                refine lv_goto (tgt := 113) hx hb dX9_release_85 (by decide) ?_
                rw [← hQ9]
                refine lv_topi (fun t21 et21 => ?_)
                have ht21 : t21.toInt = 0 := by rw [et21]; decide
                exact W.iret (v := t21) hx hb hr (fun t ht hW => ⟨⟨t21, (), rfl, trivial, ⟨by rw [ht]; exact hP, hD⟩⟩, hS.F ht⟩) hS.2.2 dX9_release_113
              ·
                have c20 := z_ne (i := t19.toInt) (j := 0) rfl (by decide) c20
                refine lv_iconst (v := 1) hx hb dX9_release_80 (by decide) ?_
                refine lv_goto (tgt := 113) hx hb dX9_release_81 (by decide) ?_
                rw [← hQ9]
                refine lv_topi (fun t22 et22 => ?_)
                have ht22 : t22.toInt = 1 := by rw [et22]; decide
                exact W.iret (v := t22) hx hb hr (fun t ht hW => ⟨⟨t22, (), rfl, trivial, ⟨by rw [ht]; exact hP, hD⟩⟩, hS.F ht⟩) hS.2.2 dX9_release_113
          ·
            have c11 := z_eq (i := p2.toInt) (j := 0) rfl (by decide) c11
            refine lv_aload_n hx hb dX9_release_57 rfl (lv_at hl 0 rfl) ?_
            refine va_get (D := D) (ci := 9) (v := .ref (r0 27)) (C := RX9) (T := TX9) (N := 44) hx hb hts inX9 hown hK hP 0 rfl rfl 36 (by decide) lk95 (fun _ h9 => h9) rfl dX9_release_58 ?_
            refine lv_iload_n hx hb dX9_release_61 rfl (lv_at hl 1 rfl) ?_
            have hi23 : vp_in p1 810 := z_in (i := p1.toInt) rfl (by omega) (by omega)
            refine va_iald hx hb hK hP 27 0 rfl rfl hi23 dX9_release_62 ?_
            refine lv_topi (fun t24 et24 => ?_)
            refine lv_goto (tgt := 113) hx hb dX9_release_63 (by decide) ?_
            rw [← hQ9]
            exact W.iret (v := t24) hx hb hr (fun t ht hW => ⟨⟨t24, (), rfl, trivial, ⟨by rw [ht]; exact hP, hD⟩⟩, hS.F ht⟩) hS.2.2 dX9_release_113
        ·
          have c10 := z_nle (i := (fi0 9).toInt) (j := x4_9.toInt) rfl rfl c10
          refine lv_iload_n hx hb dX9_release_25 rfl (lv_at hl 3 rfl) ?_
          refine lv_aload_n hx hb dX9_release_26 rfl (lv_at hl 0 rfl) ?_
          refine va_get (D := D) (ci := 9) (v := .ref (r0 29)) (C := RX9) (T := TX9) (N := 44) hx hb hts inX9 hown hK hP 0 rfl rfl 38 (by decide) lk101 (fun _ h9 => h9) rfl dX9_release_27 ?_
          refine lv_iload_n hx hb dX9_release_30 rfl (lv_at hl 1 rfl) ?_
          have hi25 : vp_in p1 810 := z_in (i := p1.toInt) rfl (by omega) (by omega)
          refine va_lald hx hb hK hP 29 1 rfl rfl hi25 dX9_release_31 ?_
          refine lv_topl (fun t26 et26 => ?_)
          refine lv_iload hx hb dX9_release_32 (lv_at hl 4 rfl) ?_
          refine z_iS (As := [.long t26, .int x4_9]) (rest := [.int x3_9]) hF (c_X9_isIn l D ca sa A _ t26 x4_9) (va_cwS 2 hts gX9_release_X9_isIn rfl rfl rfl (by decide +kernel) ⟨Nat.le_of_ble_eq_true rfl, Nat.le_of_ble_eq_true rfl⟩) hE hP hD hS rfl hl.1 rfl (Nat.le_of_ble_eq_true rfl) dX9_release_34 ⟨Nat.zero_le _, Nat.zero_le _⟩ (fun t28 u27 H locs hw29 hP hD hS => ?_)
          have hw29 : (0 ≤ t28.toInt ∧ t28.toInt ≤ 1) := hw29
          have hq30 := hw29
          clear hw29
          have J45_31 : ∀ (k1_31 : Int32) (ls : Array Slot) (hl : lv_has ls 5 [(0, .ref (r0 0)), (1, .int p1), (2, .int p2), (4, .int x4_9)]) (hf31_0 : 0 ≤ k1_31.toInt ∧ k1_31.toInt ≤ 1), W p l e (headSpec wsX9_release ({ frames := 2, cells := 0, slots := 0, locals := 43 })).room s m ([.ref (r0 0), .int p1, .int p2] : List Value).toArray below meth c H locs 0 0 Q9 (F0 m 45 ls [.int k1_31, .int x3_9]) := by
            intro k1_31 ls hl hf31_0
            refine lv_iadd hx hb dX9_release_45 ?_
            refine lv_topi (fun t32 et32 => ?_)
            try have ht32 : t32.toInt = x3_9.toInt + k1_31.toInt := z_add et32 rfl rfl (by omega -splitDisjunctions) (by omega -splitDisjunctions)
            refine lv_istore_n (lv' := [(3, .int t32), (0, .ref (r0 0)), (1, .int p1), (2, .int p2), (4, .int x4_9)]) hx hb dX9_release_46 rfl hl (by decide) rfl (fun ls hl => ?_)
            obtain ⟨t33, et33⟩ : ∃ y : Int32, y = x4_9 + 1 := ⟨_, rfl⟩
            try have ht33 : t33.toInt = x4_9.toInt + 1 := z_add et33 rfl (by decide) (by omega -splitDisjunctions) (by omega -splitDisjunctions)
            refine lv_iinc (v := t33) (lv' := [(4, .int t33), (3, .int t32), (0, .ref (r0 0)), (1, .int p1), (2, .int p2)]) hx hb dX9_release_47 hl (k := 4) rfl (by rw [et33]; rfl) (by decide) rfl (fun ls hl => ?_)
            refine lv_goto (tgt := 16) hx hb dX9_release_50 (by decide) ?_
            have hj34 : 0 ≤ t33.toInt ∧ t33.toInt ≤ 60 := by omega
            have hm35 : (61 - t33.toInt).toNat < n9 := by omega
            exact ih9 t32 t33 _ _ hP hD hS ls (lv_sub hl [2, 3, 4, 1, 0] rfl) hj34 hm35
          refine lv_if_eq (tgt := 44) hx hb dX9_release_37 (by decide) (fun c36 => ?_) (fun c36 => ?_)
          ·
            have c36 := z_eq (i := t28.toInt) (j := 0) rfl (by decide) c36
            refine lv_iconst (v := 0) hx hb dX9_release_44 (by decide) ?_
            refine lv_topi (fun t37 et37 => ?_)
            have ht37 : t37.toInt = 0 := by rw [et37]; decide
            have hj38 : 0 ≤ t37.toInt ∧ t37.toInt ≤ 1 := by omega
            exact J45_31 t37 ls (lv_sub hl [0, 1, 2, 4] rfl) hj38
          ·
            have c36 := z_ne (i := t28.toInt) (j := 0) rfl (by decide) c36
            refine lv_iconst (v := 1) hx hb dX9_release_40 (by decide) ?_
            refine lv_goto (tgt := 45) hx hb dX9_release_41 (by decide) ?_
            refine lv_topi (fun t39 et39 => ?_)
            have ht39 : t39.toInt = 1 := by rw [et39]; decide
            have hj40 : 0 ≤ t39.toInt ∧ t39.toInt ≤ 1 := by omega
            exact J45_31 t39 ls (lv_sub hl [0, 1, 2, 4] rfl) hj40
    have hj41 : 0 ≤ t8.toInt ∧ t8.toInt ≤ 60 := by omega
    exact J16_9 ((61 - t8.toInt).toNat + 1) t7 t8 _ _ hP hD hS ls (lv_sub hl [2, 3, 4, 1, 0] rfl) hj41 (Nat.lt_succ_self _)
  ·
    have c6 := z_eq (i := t3.toInt) (j := 0) rfl (by decide) c6
    refine lv_bipush (v := (-9)) hx hb dX9_release_8 (by decide) ?_
    rw [← hQ9]
    refine lv_topi (fun t42 et42 => ?_)
    have ht42 : t42.toInt = (-9) := by rw [et42]; decide
    exact W.iret (v := t42) hx hb hr (fun t ht hW => ⟨⟨t42, (), rfl, trivial, ⟨by rw [ht]; exact hP, hD⟩⟩, hS.F ht⟩) hS.2.2 dX9_release_10

set_option maxHeartbeats 8000000 in
set_option maxRecDepth 100000 in
theorem c_X9_has (l : Launch) (D : va_G) (ca : Nat → ClassId) (sa : Nat → Nat) (A : Nat → Prop) (rest : va_W) (r0 : Nat → Nat) (fi0 : Nat → Int32) (fl0 : Nat → Int64) (fa0 : Nat → Nat → Int32) (fb0 : Nat → Nat → Int64) (hv0 : Ok_MOD fi0 fa0) (p1 : Int32) : Met l yX9_has wsX9_has ({ frames := 2, cells := 0, slots := 0, locals := 43 }) (va_Pc [.ref (r0 0), .int p1] (zPre D ca sa A (w_MOD ca r0 fi0 fl0 fa0 fb0 (rest)))) (va_Ql (fun (r : Int64) (u : Unit) => True) (fun u t => zPost D A (w_MOD ca r0 fi0 fl0 fa0 fb0 (rest)) t) A) 0 0 A := by
  refine Met.ofW (cc := cX9_has) (maxL := 2) (ret := (some .long)) (by decide) rfl ?_
  intro p e s m args below meth c s₁ B hml hv9
  obtain ⟨rfl, hE, hP, hD⟩ := hv9
  have hx := B.exec
  have hb := B.bytes
  have hr := B.returns
  have hts := atoms_spec (ws := wsX9_has) B.pre
  have hown : s.vm.findClass RX9 = some m.cls := findClass_of_methodNamed B.named
  have hlocks := B.notSynchronized
  have hK := hE.1
  have hF : CallFix p m c cX9_has 2 s _ wsX9_has RX9 := ⟨hx, hb, hml, hown, hts⟩
  have hS : va_S A s.heap s.heap [] := va_S.rf
  have lc269 := hts (.constantLong RX9 269 (-9)) (by decide +kernel)
  have lk101 := hts (.fieldLink RX9 101 "BranchPlayModel" "rHas" "[J") (by decide +kernel)
  have inX9 : ∀ w ∈ wsX90, w ∈ wsX9_has := by decide +kernel
  obtain ⟨⟨hv0i0, hv0j0⟩, ⟨hv0i1, hv0j1⟩, ⟨hv0i5, hv0j5⟩, ⟨hv0i9, hv0j9⟩, hv0a6, hv0a8, hv0a9, hv0a23, hv0a27, hv0a28, hv0x0, hv0y0⟩ := hv0
  generalize hHe : s.heap = H at hP
  have hS : va_S A s.heap H [] := by rw [← hHe]; exact hS
  have hP : va_P D vwCl (((r0 0), .inr (9, [.ref (r0 1), .int (fi0 0), .int (fi0 1), .int (fi0 2), .int (fi0 3), .int (fi0 4), .int (fi0 5), .int (fi0 6), .int (fi0 7), .int (fi0 8), .ref (r0 2), .int (fi0 9), .ref (r0 3), .ref (r0 4), .ref (r0 5), .ref (r0 6), .ref (r0 7), .ref (r0 8), .ref (r0 9), .ref (r0 10), .ref (r0 11), .ref (r0 12), .ref (r0 13), .ref (r0 14), .ref (r0 15), .ref (r0 16), .ref (r0 17), .ref (r0 18), .ref (r0 19), .ref (r0 20), .ref (r0 21), .ref (r0 22), .ref (r0 23), .ref (r0 24), .ref (r0 25), .ref (r0 26), .ref (r0 27), .ref (r0 28), .ref (r0 29), .ref (r0 30), .ref (r0 31), .ref (r0 32), .int (fi0 10), .ref (r0 33)])) :: ((r0 1), .inl (ca 2, 600, .inl (fa0 0))) :: ((r0 2), .inl (ca 0, 48, .inl (fa0 1))) :: ((r0 3), .inl (ca 0, 60, .inl (fa0 2))) :: ((r0 4), .inl (ca 0, 60, .inl (fa0 3))) :: ((r0 5), .inl (ca 0, 60, .inl (fa0 4))) :: ((r0 6), .inl (ca 0, 60, .inl (fa0 5))) :: ((r0 7), .inl (ca 0, 60, .inl (fa0 6))) :: ((r0 8), .inl (ca 0, 60, .inl (fa0 7))) :: ((r0 9), .inl (ca 0, 180, .inl (fa0 8))) :: ((r0 10), .inl (ca 0, 60, .inl (fa0 9))) :: ((r0 11), .inl (ca 0, 180, .inl (fa0 10))) :: ((r0 12), .inl (ca 0, 180, .inl (fa0 11))) :: ((r0 13), .inl (ca 0, 180, .inl (fa0 12))) :: ((r0 14), .inl (ca 0, 180, .inl (fa0 13))) :: ((r0 15), .inl (ca 0, 180, .inl (fa0 14))) :: ((r0 16), .inl (ca 0, 180, .inl (fa0 15))) :: ((r0 17), .inl (ca 0, 180, .inl (fa0 16))) :: ((r0 18), .inl (ca 0, 180, .inl (fa0 17))) :: ((r0 19), .inl (ca 0, 180, .inl (fa0 18))) :: ((r0 20), .inl (ca 0, 180, .inl (fa0 19))) :: ((r0 21), .inl (ca 0, 3, .inl (fa0 20))) :: ((r0 22), .inl (ca 1, 3, .inr (.inl (fb0 0)))) :: ((r0 23), .inl (ca 1, 3, .inr (.inl (fb0 1)))) :: ((r0 24), .inl (ca 3, 3, .inl (fa0 21))) :: ((r0 25), .inl (ca 0, 3, .inl (fa0 22))) :: ((r0 26), .inl (ca 0, 3, .inl (fa0 23))) :: ((r0 27), .inl (ca 0, 810, .inl (fa0 24))) :: ((r0 28), .inl (ca 3, 810, .inl (fa0 25))) :: ((r0 29), .inl (ca 1, 810, .inr (.inl (fb0 2)))) :: ((r0 30), .inl (ca 0, 810, .inl (fa0 26))) :: ((r0 31), .inl (ca 0, 3, .inl (fa0 27))) :: ((r0 32), .inl (ca 0, 60, .inl (fa0 28))) :: ((r0 33), .inl (ca 0, 4, .inl (fa0 29))) :: rest) H := hP
  have hD : va_D A (((r0 0), .inr (9, [.ref (r0 1), .int (fi0 0), .int (fi0 1), .int (fi0 2), .int (fi0 3), .int (fi0 4), .int (fi0 5), .int (fi0 6), .int (fi0 7), .int (fi0 8), .ref (r0 2), .int (fi0 9), .ref (r0 3), .ref (r0 4), .ref (r0 5), .ref (r0 6), .ref (r0 7), .ref (r0 8), .ref (r0 9), .ref (r0 10), .ref (r0 11), .ref (r0 12), .ref (r0 13), .ref (r0 14), .ref (r0 15), .ref (r0 16), .ref (r0 17), .ref (r0 18), .ref (r0 19), .ref (r0 20), .ref (r0 21), .ref (r0 22), .ref (r0 23), .ref (r0 24), .ref (r0 25), .ref (r0 26), .ref (r0 27), .ref (r0 28), .ref (r0 29), .ref (r0 30), .ref (r0 31), .ref (r0 32), .int (fi0 10), .ref (r0 33)])) :: ((r0 1), .inl (ca 2, 600, .inl (fa0 0))) :: ((r0 2), .inl (ca 0, 48, .inl (fa0 1))) :: ((r0 3), .inl (ca 0, 60, .inl (fa0 2))) :: ((r0 4), .inl (ca 0, 60, .inl (fa0 3))) :: ((r0 5), .inl (ca 0, 60, .inl (fa0 4))) :: ((r0 6), .inl (ca 0, 60, .inl (fa0 5))) :: ((r0 7), .inl (ca 0, 60, .inl (fa0 6))) :: ((r0 8), .inl (ca 0, 60, .inl (fa0 7))) :: ((r0 9), .inl (ca 0, 180, .inl (fa0 8))) :: ((r0 10), .inl (ca 0, 60, .inl (fa0 9))) :: ((r0 11), .inl (ca 0, 180, .inl (fa0 10))) :: ((r0 12), .inl (ca 0, 180, .inl (fa0 11))) :: ((r0 13), .inl (ca 0, 180, .inl (fa0 12))) :: ((r0 14), .inl (ca 0, 180, .inl (fa0 13))) :: ((r0 15), .inl (ca 0, 180, .inl (fa0 14))) :: ((r0 16), .inl (ca 0, 180, .inl (fa0 15))) :: ((r0 17), .inl (ca 0, 180, .inl (fa0 16))) :: ((r0 18), .inl (ca 0, 180, .inl (fa0 17))) :: ((r0 19), .inl (ca 0, 180, .inl (fa0 18))) :: ((r0 20), .inl (ca 0, 180, .inl (fa0 19))) :: ((r0 21), .inl (ca 0, 3, .inl (fa0 20))) :: ((r0 22), .inl (ca 1, 3, .inr (.inl (fb0 0)))) :: ((r0 23), .inl (ca 1, 3, .inr (.inl (fb0 1)))) :: ((r0 24), .inl (ca 3, 3, .inl (fa0 21))) :: ((r0 25), .inl (ca 0, 3, .inl (fa0 22))) :: ((r0 26), .inl (ca 0, 3, .inl (fa0 23))) :: ((r0 27), .inl (ca 0, 810, .inl (fa0 24))) :: ((r0 28), .inl (ca 3, 810, .inl (fa0 25))) :: ((r0 29), .inl (ca 1, 810, .inr (.inl (fb0 2)))) :: ((r0 30), .inl (ca 0, 810, .inl (fa0 26))) :: ((r0 31), .inl (ca 0, 3, .inl (fa0 27))) :: ((r0 32), .inl (ca 0, 60, .inl (fa0 28))) :: ((r0 33), .inl (ca 0, 4, .inl (fa0 29))) :: rest) := hD
  have hl := lv_entry ([.ref (r0 0), .int p1]) (n := 2) (Nat.le_of_ble_eq_true rfl)
  rw [lg_entry_eq]
  generalize (lg_sl ([.ref (r0 0), .int p1]) ++ List.replicate (2 - (lg_sl ([.ref (r0 0), .int p1])).length) Slot.unset).toArray = ls at hl ⊢
  have hl : lv_has ls 2 [(0, .ref (r0 0)), (1, .int p1)] := hl
  generalize hQ9 : MQ below _ _ s 0 0 A = Q9
  refine lv_aload_n hx hb dX9_has_0 rfl (lv_at hl 0 rfl) ?_
  refine lv_iload_n hx hb dX9_has_1 rfl (lv_at hl 1 rfl) ?_
  have ho1 : (0 ≤ (fi0 0).toInt ∧ (fi0 0).toInt ≤ 600) ∧ (0 ≤ (fi0 1).toInt ∧ (fi0 1).toInt ≤ 600) ∧ (0 ≤ (fi0 5).toInt ∧ (fi0 5).toInt ≤ 600) ∧ (0 ≤ (fi0 9).toInt ∧ (fi0 9).toInt ≤ 60) ∧ z_rng (-1) 59 (fa0 6) ∧ z_rng 0 59 (fa0 8) ∧ z_rng 0 3 (fa0 9) ∧ z_rng 0 269 (fa0 23) ∧ z_rng 0 5 (fa0 27) ∧ z_rng 0 59 (fa0 28) ∧ ((fi0 2).toInt = 1 → 0 ≤ (fi0 3).toInt) ∧ zOkR (fa0 1) (fa0 27) := ⟨⟨by omega, by omega⟩, ⟨by omega, by omega⟩, ⟨by omega, by omega⟩, ⟨by omega, by omega⟩, hv0a6, hv0a8, hv0a9, hv0a23, hv0a27, hv0a28, by omega, hv0y0⟩
  refine z_iV (As := [.int p1]) (rest := []) hF (c_X9_isRelease l D ca sa A rest (zl 0 [(r0 0), (r0 1), (r0 2), (r0 3), (r0 4), (r0 5), (r0 6), (r0 7), (r0 8), (r0 9), (r0 10), (r0 11), (r0 12), (r0 13), (r0 14), (r0 15), (r0 16), (r0 17), (r0 18), (r0 19), (r0 20), (r0 21), (r0 22), (r0 23), (r0 24), (r0 25), (r0 26), (r0 27), (r0 28), (r0 29), (r0 30), (r0 31), (r0 32), (r0 33)]) (zl 0 [(fi0 0), (fi0 1), (fi0 2), (fi0 3), (fi0 4), (fi0 5), (fi0 6), (fi0 7), (fi0 8), (fi0 9), (fi0 10)]) (zl 0 []) (zl (fun _ => 0) [(fa0 0), (fa0 1), (fa0 2), (fa0 3), (fa0 4), (fa0 5), (fa0 6), (fa0 7), (fa0 8), (fa0 9), (fa0 10), (fa0 11), (fa0 12), (fa0 13), (fa0 14), (fa0 15), (fa0 16), (fa0 17), (fa0 18), (fa0 19), (fa0 20), (fa0 21), (fa0 22), (fa0 23), (fa0 24), (fa0 25), (fa0 26), (fa0 27), (fa0 28), (fa0 29)]) (zl (fun _ => 0) [(fb0 0), (fb0 1), (fb0 2)]) ho1 p1) (cwV 1 hts gX9_has_X9_isRelease rfl rfl rfl (by decide +kernel) ⟨Nat.le_of_ble_eq_true rfl, Nat.le_of_ble_eq_true rfl⟩) hE hP hD hS 9 0 rfl rfl rfl hl.1 rfl (Nat.le_of_ble_eq_true rfl) dX9_has_2 ⟨Nat.zero_le _, Nat.zero_le _⟩ (fun t3 u2 H locs hw4 hP hD hS => ?_)
  have hw4 : ((t3.toInt = 1 ∧ 0 ≤ p1.toInt ∧ p1.toInt ≤ 268) ∨ t3.toInt = 0) := hw4
  have hq5 := hw4
  clear hw4
  have hP : va_P D vwCl (((r0 0), .inr (9, [.ref (r0 1), .int (fi0 0), .int (fi0 1), .int (fi0 2), .int (fi0 3), .int (fi0 4), .int (fi0 5), .int (fi0 6), .int (fi0 7), .int (fi0 8), .ref (r0 2), .int (fi0 9), .ref (r0 3), .ref (r0 4), .ref (r0 5), .ref (r0 6), .ref (r0 7), .ref (r0 8), .ref (r0 9), .ref (r0 10), .ref (r0 11), .ref (r0 12), .ref (r0 13), .ref (r0 14), .ref (r0 15), .ref (r0 16), .ref (r0 17), .ref (r0 18), .ref (r0 19), .ref (r0 20), .ref (r0 21), .ref (r0 22), .ref (r0 23), .ref (r0 24), .ref (r0 25), .ref (r0 26), .ref (r0 27), .ref (r0 28), .ref (r0 29), .ref (r0 30), .ref (r0 31), .ref (r0 32), .int (fi0 10), .ref (r0 33)])) :: ((r0 1), .inl (ca 2, 600, .inl (fa0 0))) :: ((r0 2), .inl (ca 0, 48, .inl (fa0 1))) :: ((r0 3), .inl (ca 0, 60, .inl (fa0 2))) :: ((r0 4), .inl (ca 0, 60, .inl (fa0 3))) :: ((r0 5), .inl (ca 0, 60, .inl (fa0 4))) :: ((r0 6), .inl (ca 0, 60, .inl (fa0 5))) :: ((r0 7), .inl (ca 0, 60, .inl (fa0 6))) :: ((r0 8), .inl (ca 0, 60, .inl (fa0 7))) :: ((r0 9), .inl (ca 0, 180, .inl (fa0 8))) :: ((r0 10), .inl (ca 0, 60, .inl (fa0 9))) :: ((r0 11), .inl (ca 0, 180, .inl (fa0 10))) :: ((r0 12), .inl (ca 0, 180, .inl (fa0 11))) :: ((r0 13), .inl (ca 0, 180, .inl (fa0 12))) :: ((r0 14), .inl (ca 0, 180, .inl (fa0 13))) :: ((r0 15), .inl (ca 0, 180, .inl (fa0 14))) :: ((r0 16), .inl (ca 0, 180, .inl (fa0 15))) :: ((r0 17), .inl (ca 0, 180, .inl (fa0 16))) :: ((r0 18), .inl (ca 0, 180, .inl (fa0 17))) :: ((r0 19), .inl (ca 0, 180, .inl (fa0 18))) :: ((r0 20), .inl (ca 0, 180, .inl (fa0 19))) :: ((r0 21), .inl (ca 0, 3, .inl (fa0 20))) :: ((r0 22), .inl (ca 1, 3, .inr (.inl (fb0 0)))) :: ((r0 23), .inl (ca 1, 3, .inr (.inl (fb0 1)))) :: ((r0 24), .inl (ca 3, 3, .inl (fa0 21))) :: ((r0 25), .inl (ca 0, 3, .inl (fa0 22))) :: ((r0 26), .inl (ca 0, 3, .inl (fa0 23))) :: ((r0 27), .inl (ca 0, 810, .inl (fa0 24))) :: ((r0 28), .inl (ca 3, 810, .inl (fa0 25))) :: ((r0 29), .inl (ca 1, 810, .inr (.inl (fb0 2)))) :: ((r0 30), .inl (ca 0, 810, .inl (fa0 26))) :: ((r0 31), .inl (ca 0, 3, .inl (fa0 27))) :: ((r0 32), .inl (ca 0, 60, .inl (fa0 28))) :: ((r0 33), .inl (ca 0, 4, .inl (fa0 29))) :: rest) H := hP
  have hD : va_D A (((r0 0), .inr (9, [.ref (r0 1), .int (fi0 0), .int (fi0 1), .int (fi0 2), .int (fi0 3), .int (fi0 4), .int (fi0 5), .int (fi0 6), .int (fi0 7), .int (fi0 8), .ref (r0 2), .int (fi0 9), .ref (r0 3), .ref (r0 4), .ref (r0 5), .ref (r0 6), .ref (r0 7), .ref (r0 8), .ref (r0 9), .ref (r0 10), .ref (r0 11), .ref (r0 12), .ref (r0 13), .ref (r0 14), .ref (r0 15), .ref (r0 16), .ref (r0 17), .ref (r0 18), .ref (r0 19), .ref (r0 20), .ref (r0 21), .ref (r0 22), .ref (r0 23), .ref (r0 24), .ref (r0 25), .ref (r0 26), .ref (r0 27), .ref (r0 28), .ref (r0 29), .ref (r0 30), .ref (r0 31), .ref (r0 32), .int (fi0 10), .ref (r0 33)])) :: ((r0 1), .inl (ca 2, 600, .inl (fa0 0))) :: ((r0 2), .inl (ca 0, 48, .inl (fa0 1))) :: ((r0 3), .inl (ca 0, 60, .inl (fa0 2))) :: ((r0 4), .inl (ca 0, 60, .inl (fa0 3))) :: ((r0 5), .inl (ca 0, 60, .inl (fa0 4))) :: ((r0 6), .inl (ca 0, 60, .inl (fa0 5))) :: ((r0 7), .inl (ca 0, 60, .inl (fa0 6))) :: ((r0 8), .inl (ca 0, 60, .inl (fa0 7))) :: ((r0 9), .inl (ca 0, 180, .inl (fa0 8))) :: ((r0 10), .inl (ca 0, 60, .inl (fa0 9))) :: ((r0 11), .inl (ca 0, 180, .inl (fa0 10))) :: ((r0 12), .inl (ca 0, 180, .inl (fa0 11))) :: ((r0 13), .inl (ca 0, 180, .inl (fa0 12))) :: ((r0 14), .inl (ca 0, 180, .inl (fa0 13))) :: ((r0 15), .inl (ca 0, 180, .inl (fa0 14))) :: ((r0 16), .inl (ca 0, 180, .inl (fa0 15))) :: ((r0 17), .inl (ca 0, 180, .inl (fa0 16))) :: ((r0 18), .inl (ca 0, 180, .inl (fa0 17))) :: ((r0 19), .inl (ca 0, 180, .inl (fa0 18))) :: ((r0 20), .inl (ca 0, 180, .inl (fa0 19))) :: ((r0 21), .inl (ca 0, 3, .inl (fa0 20))) :: ((r0 22), .inl (ca 1, 3, .inr (.inl (fb0 0)))) :: ((r0 23), .inl (ca 1, 3, .inr (.inl (fb0 1)))) :: ((r0 24), .inl (ca 3, 3, .inl (fa0 21))) :: ((r0 25), .inl (ca 0, 3, .inl (fa0 22))) :: ((r0 26), .inl (ca 0, 3, .inl (fa0 23))) :: ((r0 27), .inl (ca 0, 810, .inl (fa0 24))) :: ((r0 28), .inl (ca 3, 810, .inl (fa0 25))) :: ((r0 29), .inl (ca 1, 810, .inr (.inl (fb0 2)))) :: ((r0 30), .inl (ca 0, 810, .inl (fa0 26))) :: ((r0 31), .inl (ca 0, 3, .inl (fa0 27))) :: ((r0 32), .inl (ca 0, 60, .inl (fa0 28))) :: ((r0 33), .inl (ca 0, 4, .inl (fa0 29))) :: rest) := hD
  refine lv_if_eq (tgt := 17) hx hb dX9_has_5 (by decide) (fun c6 => ?_) (fun c6 => ?_)
  ·
    have c6 := z_eq (i := t3.toInt) (j := 0) rfl (by decide) c6
    refine lv_ldc2 hx hb hown lc269 dX9_has_17 ?_
    rw [← hQ9]
    exact W.lret (v := (-9)) hx hb hr (fun t ht hW => ⟨⟨(-9), (), rfl, trivial, ⟨by rw [ht]; exact hP, hD⟩⟩, hS.F ht⟩) hS.2.2 dX9_has_20
  ·
    have c6 := z_ne (i := t3.toInt) (j := 0) rfl (by decide) c6
    refine lv_aload_n hx hb dX9_has_8 rfl (lv_at hl 0 rfl) ?_
    refine va_get (D := D) (ci := 9) (v := .ref (r0 29)) (C := RX9) (T := TX9) (N := 44) hx hb hts inX9 hown hK hP 0 rfl rfl 38 (by decide) lk101 (fun _ h9 => h9) rfl dX9_has_9 ?_
    refine lv_iload_n hx hb dX9_has_12 rfl (lv_at hl 1 rfl) ?_
    have hi7 : vp_in p1 810 := z_in (i := p1.toInt) rfl (by omega) (by omega)
    refine va_lald hx hb hK hP 29 1 rfl rfl hi7 dX9_has_13 ?_
    refine lv_topl (fun t8 et8 => ?_)
    refine lv_goto (tgt := 20) hx hb dX9_has_14 (by decide) ?_
    rw [← hQ9]
    exact W.lret (v := t8) hx hb hr (fun t ht hW => ⟨⟨t8, (), rfl, trivial, ⟨by rw [ht]; exact hP, hD⟩⟩, hS.F ht⟩) hS.2.2 dX9_has_20

set_option maxHeartbeats 8000000 in
set_option maxRecDepth 100000 in
theorem c_X9_sumOf (l : Launch) (D : va_G) (ca : Nat → ClassId) (sa : Nat → Nat) (A : Nat → Prop) (rest : va_W) (r0 : Nat → Nat) (fi0 : Nat → Int32) (fl0 : Nat → Int64) (fa0 : Nat → Nat → Int32) (fb0 : Nat → Nat → Int64) (hv0 : Ok_MOD fi0 fa0) (p1 : Int32) (p2 : Int32) (hpre0 : 0 ≤ p1.toInt ∧ p1.toInt ≤ 2) : Met l yX9_sumOf wsX9_sumOf ({ frames := 0, cells := 0, slots := 0, locals := 0 }) (va_Pc [.ref (r0 0), .int p1, .int p2] (zPre D ca sa A (w_MOD ca r0 fi0 fl0 fa0 fb0 (rest)))) (va_Qi (fun (r : Int32) (u : Unit) => True) (fun u t => zPost D A (w_MOD ca r0 fi0 fl0 fa0 fb0 (rest)) t) A) 0 0 A := by
  refine Met.ofW (cc := cX9_sumOf) (maxL := 7) (ret := (some .int)) (by decide) rfl ?_
  intro p e s m args below meth c s₁ B hml hv9
  obtain ⟨rfl, hE, hP, hD⟩ := hv9
  have hx := B.exec
  have hb := B.bytes
  have hr := B.returns
  have hts := atoms_spec (ws := wsX9_sumOf) B.pre
  have hown : s.vm.findClass RX9 = some m.cls := findClass_of_methodNamed B.named
  have hlocks := B.notSynchronized
  have hK := hE.1
  have hF : CallFix p m c cX9_sumOf 7 s _ wsX9_sumOf RX9 := ⟨hx, hb, hml, hown, hts⟩
  have hS : va_S A s.heap s.heap [] := va_S.rf
  have lk192 := hts (.fieldLink RX9 192 "BranchPlayModel" "changes" "I") (by decide +kernel)
  have inX9 : ∀ w ∈ wsX90, w ∈ wsX9_sumOf := by decide +kernel
  have lk60 := hts (.fieldLink RX9 60 "BranchPlayModel" "out" "[I") (by decide +kernel)
  have lk72 := hts (.fieldLink RX9 72 "BranchPlayModel" "held" "[I") (by decide +kernel)
  have lk69 := hts (.fieldLink RX9 69 "BranchPlayModel" "rework" "[I") (by decide +kernel)
  have lk45 := hts (.fieldLink RX9 45 "BranchPlayModel" "born" "[I") (by decide +kernel)
  have lk27 := hts (.fieldLink RX9 27 "BranchPlayModel" "sizes" "[I") (by decide +kernel)
  have lk66 := hts (.fieldLink RX9 66 "BranchPlayModel" "quarrels" "[I") (by decide +kernel)
  have lk63 := hts (.fieldLink RX9 63 "BranchPlayModel" "met" "[I") (by decide +kernel)
  obtain ⟨⟨hv0i0, hv0j0⟩, ⟨hv0i1, hv0j1⟩, ⟨hv0i5, hv0j5⟩, ⟨hv0i9, hv0j9⟩, hv0a6, hv0a8, hv0a9, hv0a23, hv0a27, hv0a28, hv0x0, hv0y0⟩ := hv0
  generalize hHe : s.heap = H at hP
  have hS : va_S A s.heap H [] := by rw [← hHe]; exact hS
  have hP : va_P D vwCl (((r0 0), .inr (9, [.ref (r0 1), .int (fi0 0), .int (fi0 1), .int (fi0 2), .int (fi0 3), .int (fi0 4), .int (fi0 5), .int (fi0 6), .int (fi0 7), .int (fi0 8), .ref (r0 2), .int (fi0 9), .ref (r0 3), .ref (r0 4), .ref (r0 5), .ref (r0 6), .ref (r0 7), .ref (r0 8), .ref (r0 9), .ref (r0 10), .ref (r0 11), .ref (r0 12), .ref (r0 13), .ref (r0 14), .ref (r0 15), .ref (r0 16), .ref (r0 17), .ref (r0 18), .ref (r0 19), .ref (r0 20), .ref (r0 21), .ref (r0 22), .ref (r0 23), .ref (r0 24), .ref (r0 25), .ref (r0 26), .ref (r0 27), .ref (r0 28), .ref (r0 29), .ref (r0 30), .ref (r0 31), .ref (r0 32), .int (fi0 10), .ref (r0 33)])) :: ((r0 1), .inl (ca 2, 600, .inl (fa0 0))) :: ((r0 2), .inl (ca 0, 48, .inl (fa0 1))) :: ((r0 3), .inl (ca 0, 60, .inl (fa0 2))) :: ((r0 4), .inl (ca 0, 60, .inl (fa0 3))) :: ((r0 5), .inl (ca 0, 60, .inl (fa0 4))) :: ((r0 6), .inl (ca 0, 60, .inl (fa0 5))) :: ((r0 7), .inl (ca 0, 60, .inl (fa0 6))) :: ((r0 8), .inl (ca 0, 60, .inl (fa0 7))) :: ((r0 9), .inl (ca 0, 180, .inl (fa0 8))) :: ((r0 10), .inl (ca 0, 60, .inl (fa0 9))) :: ((r0 11), .inl (ca 0, 180, .inl (fa0 10))) :: ((r0 12), .inl (ca 0, 180, .inl (fa0 11))) :: ((r0 13), .inl (ca 0, 180, .inl (fa0 12))) :: ((r0 14), .inl (ca 0, 180, .inl (fa0 13))) :: ((r0 15), .inl (ca 0, 180, .inl (fa0 14))) :: ((r0 16), .inl (ca 0, 180, .inl (fa0 15))) :: ((r0 17), .inl (ca 0, 180, .inl (fa0 16))) :: ((r0 18), .inl (ca 0, 180, .inl (fa0 17))) :: ((r0 19), .inl (ca 0, 180, .inl (fa0 18))) :: ((r0 20), .inl (ca 0, 180, .inl (fa0 19))) :: ((r0 21), .inl (ca 0, 3, .inl (fa0 20))) :: ((r0 22), .inl (ca 1, 3, .inr (.inl (fb0 0)))) :: ((r0 23), .inl (ca 1, 3, .inr (.inl (fb0 1)))) :: ((r0 24), .inl (ca 3, 3, .inl (fa0 21))) :: ((r0 25), .inl (ca 0, 3, .inl (fa0 22))) :: ((r0 26), .inl (ca 0, 3, .inl (fa0 23))) :: ((r0 27), .inl (ca 0, 810, .inl (fa0 24))) :: ((r0 28), .inl (ca 3, 810, .inl (fa0 25))) :: ((r0 29), .inl (ca 1, 810, .inr (.inl (fb0 2)))) :: ((r0 30), .inl (ca 0, 810, .inl (fa0 26))) :: ((r0 31), .inl (ca 0, 3, .inl (fa0 27))) :: ((r0 32), .inl (ca 0, 60, .inl (fa0 28))) :: ((r0 33), .inl (ca 0, 4, .inl (fa0 29))) :: rest) H := hP
  have hD : va_D A (((r0 0), .inr (9, [.ref (r0 1), .int (fi0 0), .int (fi0 1), .int (fi0 2), .int (fi0 3), .int (fi0 4), .int (fi0 5), .int (fi0 6), .int (fi0 7), .int (fi0 8), .ref (r0 2), .int (fi0 9), .ref (r0 3), .ref (r0 4), .ref (r0 5), .ref (r0 6), .ref (r0 7), .ref (r0 8), .ref (r0 9), .ref (r0 10), .ref (r0 11), .ref (r0 12), .ref (r0 13), .ref (r0 14), .ref (r0 15), .ref (r0 16), .ref (r0 17), .ref (r0 18), .ref (r0 19), .ref (r0 20), .ref (r0 21), .ref (r0 22), .ref (r0 23), .ref (r0 24), .ref (r0 25), .ref (r0 26), .ref (r0 27), .ref (r0 28), .ref (r0 29), .ref (r0 30), .ref (r0 31), .ref (r0 32), .int (fi0 10), .ref (r0 33)])) :: ((r0 1), .inl (ca 2, 600, .inl (fa0 0))) :: ((r0 2), .inl (ca 0, 48, .inl (fa0 1))) :: ((r0 3), .inl (ca 0, 60, .inl (fa0 2))) :: ((r0 4), .inl (ca 0, 60, .inl (fa0 3))) :: ((r0 5), .inl (ca 0, 60, .inl (fa0 4))) :: ((r0 6), .inl (ca 0, 60, .inl (fa0 5))) :: ((r0 7), .inl (ca 0, 60, .inl (fa0 6))) :: ((r0 8), .inl (ca 0, 60, .inl (fa0 7))) :: ((r0 9), .inl (ca 0, 180, .inl (fa0 8))) :: ((r0 10), .inl (ca 0, 60, .inl (fa0 9))) :: ((r0 11), .inl (ca 0, 180, .inl (fa0 10))) :: ((r0 12), .inl (ca 0, 180, .inl (fa0 11))) :: ((r0 13), .inl (ca 0, 180, .inl (fa0 12))) :: ((r0 14), .inl (ca 0, 180, .inl (fa0 13))) :: ((r0 15), .inl (ca 0, 180, .inl (fa0 14))) :: ((r0 16), .inl (ca 0, 180, .inl (fa0 15))) :: ((r0 17), .inl (ca 0, 180, .inl (fa0 16))) :: ((r0 18), .inl (ca 0, 180, .inl (fa0 17))) :: ((r0 19), .inl (ca 0, 180, .inl (fa0 18))) :: ((r0 20), .inl (ca 0, 180, .inl (fa0 19))) :: ((r0 21), .inl (ca 0, 3, .inl (fa0 20))) :: ((r0 22), .inl (ca 1, 3, .inr (.inl (fb0 0)))) :: ((r0 23), .inl (ca 1, 3, .inr (.inl (fb0 1)))) :: ((r0 24), .inl (ca 3, 3, .inl (fa0 21))) :: ((r0 25), .inl (ca 0, 3, .inl (fa0 22))) :: ((r0 26), .inl (ca 0, 3, .inl (fa0 23))) :: ((r0 27), .inl (ca 0, 810, .inl (fa0 24))) :: ((r0 28), .inl (ca 3, 810, .inl (fa0 25))) :: ((r0 29), .inl (ca 1, 810, .inr (.inl (fb0 2)))) :: ((r0 30), .inl (ca 0, 810, .inl (fa0 26))) :: ((r0 31), .inl (ca 0, 3, .inl (fa0 27))) :: ((r0 32), .inl (ca 0, 60, .inl (fa0 28))) :: ((r0 33), .inl (ca 0, 4, .inl (fa0 29))) :: rest) := hD
  have hl := lv_entry ([.ref (r0 0), .int p1, .int p2]) (n := 7) (Nat.le_of_ble_eq_true rfl)
  rw [lg_entry_eq]
  generalize (lg_sl ([.ref (r0 0), .int p1, .int p2]) ++ List.replicate (7 - (lg_sl ([.ref (r0 0), .int p1, .int p2])).length) Slot.unset).toArray = ls at hl ⊢
  have hl : lv_has ls 7 [(0, .ref (r0 0)), (1, .int p1), (2, .int p2)] := hl
  generalize hQ9 : MQ below _ _ s 0 0 A = Q9
  refine lv_iconst (v := 0) hx hb dX9_sumOf_0 (by decide) ?_
  refine lv_topi (fun t1 et1 => ?_)
  have ht1 : t1.toInt = 0 := by rw [et1]; decide
  refine lv_istore_n (lv' := [(3, .int t1), (0, .ref (r0 0)), (1, .int p1), (2, .int p2)]) hx hb dX9_sumOf_1 rfl hl (by decide) rfl (fun ls hl => ?_)
  refine lv_iconst (v := 0) hx hb dX9_sumOf_2 (by decide) ?_
  refine lv_topi (fun t2 et2 => ?_)
  have ht2 : t2.toInt = 0 := by rw [et2]; decide
  refine lv_istore (lv' := [(4, .int t2), (3, .int t1), (0, .ref (r0 0)), (1, .int p1), (2, .int p2)]) hx hb dX9_sumOf_3 hl (by decide) rfl (fun ls hl => ?_)
  have J5_3 : ∀ (n3 : Nat) (x3_3 : Int32) (x4_3 : Int32) (ls : Array Slot) (hl : lv_has ls 7 [(0, .ref (r0 0)), (1, .int p1), (2, .int p2), (3, .int x3_3), (4, .int x4_3)]) (hf3_0 : 0 ≤ x4_3.toInt ∧ x4_3.toInt ≤ 60), (61 - x4_3.toInt).toNat < n3 → W p l e (headSpec wsX9_sumOf ({ frames := 0, cells := 0, slots := 0, locals := 0 })).room s m ([.ref (r0 0), .int p1, .int p2] : List Value).toArray below meth c H [] 0 0 Q9 (F0 m 5 ls []) := by
    intro n3
    induction n3 with
    | zero => intro x3_3 x4_3 ls hl hf3_0 hn9; exact absurd hn9 (Nat.not_lt_zero _)
    | succ n3 ih3 =>
      intro x3_3 x4_3 ls hl hf3_0 hn9
      refine lv_iload hx hb dX9_sumOf_5 (lv_at hl 4 rfl) ?_
      refine lv_aload_n hx hb dX9_sumOf_7 rfl (lv_at hl 0 rfl) ?_
      refine va_get (D := D) (ci := 9) (v := .int (fi0 9)) (C := RX9) (T := TX9) (N := 44) hx hb hts inX9 hown hK hP 0 rfl rfl 11 (by decide) lk192 (fun _ h9 => h9) rfl dX9_sumOf_8 ?_
      refine lv_icmp_ge (tgt := 228) hx hb dX9_sumOf_11 (by decide) (fun c4 => ?_) (fun c4 => ?_)
      ·
        have c4 := z_le (i := (fi0 9).toInt) (j := x4_3.toInt) rfl rfl c4
        refine lv_iload_n hx hb dX9_sumOf_228 rfl (lv_at hl 3 rfl) ?_
        rw [← hQ9]
        exact W.iret (v := x3_3) hx hb hr (fun t ht hW => ⟨⟨x3_3, (), rfl, trivial, ⟨by rw [ht]; exact hP, hD⟩⟩, hS.F ht⟩) hS.2.2 dX9_sumOf_229
      ·
        have c4 := z_nle (i := (fi0 9).toInt) (j := x4_3.toInt) rfl rfl c4
        refine lv_bipush (v := 60) hx hb dX9_sumOf_14 (by decide) ?_
        refine lv_iload_n hx hb dX9_sumOf_16 rfl (lv_at hl 1 rfl) ?_
        refine lv_imul hx hb dX9_sumOf_17 ?_
        refine lv_topi (fun t5 et5 => ?_)
        try have ht5 : t5.toInt = 60 * p1.toInt := z_mul et5 (by decide) rfl (by omega -splitDisjunctions) (by omega -splitDisjunctions)
        refine lv_iload hx hb dX9_sumOf_18 (lv_at hl 4 rfl) ?_
        refine lv_iadd hx hb dX9_sumOf_20 ?_
        refine lv_topi (fun t6 et6 => ?_)
        try have ht6 : t6.toInt = t5.toInt + x4_3.toInt := z_add et6 rfl rfl (by omega -splitDisjunctions) (by omega -splitDisjunctions)
        refine lv_istore (lv' := [(5, .int t6), (0, .ref (r0 0)), (1, .int p1), (2, .int p2), (3, .int x3_3), (4, .int x4_3)]) hx hb dX9_sumOf_21 hl (by decide) rfl (fun ls hl => ?_)
        refine lv_aload_n hx hb dX9_sumOf_23 rfl (lv_at hl 1 rfl) ?_
        refine va_get (D := D) (ci := 9) (v := .ref (r0 16)) (C := RX9) (T := TX9) (N := 44) hx hb hts inX9 hown hK hP 0 rfl rfl 25 (by decide) lk60 (fun _ h9 => h9) rfl dX9_sumOf_24 ?_
        refine lv_iload hx hb dX9_sumOf_27 (lv_at hl 0 rfl) ?_
        have hi7 : vp_in t6 180 := z_in (i := t6.toInt) rfl (by omega) (by omega)
        refine va_iald hx hb hK hP 16 0 rfl rfl hi7 dX9_sumOf_29 ?_
        refine lv_topi (fun t8 et8 => ?_)
        refine lv_iconst (v := (-1)) hx hb dX9_sumOf_30 (by decide) ?_
        have J53_9 : ∀ (k0_9 : Int32) (ls : Array Slot) (hl : lv_has ls 7 [(0, .ref (r0 0)), (1, .int p1), (2, .int p2), (3, .int x3_3), (4, .int x4_3), (5, .int t6)]), W p l e (headSpec wsX9_sumOf ({ frames := 0, cells := 0, slots := 0, locals := 0 })).room s m ([.ref (r0 0), .int p1, .int p2] : List Value).toArray below meth c H [] 0 0 Q9 (F0 m 53 ls [.int k0_9]) := by
          intro k0_9 ls hl
          refine lv_istore (lv' := [(6, .int k0_9), (0, .ref (r0 0)), (1, .int p1), (2, .int p2), (3, .int x3_3), (4, .int x4_3), (5, .int t6)]) hx hb dX9_sumOf_53 hl (by decide) rfl (fun ls hl => ?_)
          refine lv_iload_n hx hb dX9_sumOf_55 rfl (lv_at hl 3 rfl) ?_
          have J222_10 : ∀ (x3_10 : Int32) (ls : Array Slot) (hl : lv_has ls 7 [(0, .ref (r0 0)), (1, .int p1), (2, .int p2), (3, .int x3_10), (4, .int x4_3)]), W p l e (headSpec wsX9_sumOf ({ frames := 0, cells := 0, slots := 0, locals := 0 })).room s m ([.ref (r0 0), .int p1, .int p2] : List Value).toArray below meth c H [] 0 0 Q9 (F0 m 222 ls []) := by
            intro x3_10 ls hl
            obtain ⟨t11, et11⟩ : ∃ y : Int32, y = x4_3 + 1 := ⟨_, rfl⟩
            try have ht11 : t11.toInt = x4_3.toInt + 1 := z_add et11 rfl (by decide) (by omega -splitDisjunctions) (by omega -splitDisjunctions)
            refine lv_iinc (v := t11) (lv' := [(4, .int t11), (0, .ref (r0 0)), (1, .int p1), (2, .int p2), (3, .int x3_10)]) hx hb dX9_sumOf_222 hl (k := 4) rfl (by rw [et11]; rfl) (by decide) rfl (fun ls hl => ?_)
            refine lv_goto (tgt := 5) hx hb dX9_sumOf_225 (by decide) ?_
            have hj12 : 0 ≤ t11.toInt ∧ t11.toInt ≤ 60 := by omega
            have hm13 : (61 - t11.toInt).toNat < n3 := by omega
            exact ih3 x3_10 t11 ls (lv_sub hl [1, 2, 3, 4, 0] rfl) hj12 hm13
          refine lv_if_ne (tgt := 67) hx hb dX9_sumOf_56 (by decide) (fun c14 => ?_) (fun c14 => ?_)
          ·
            have c14 := z_ne (i := p2.toInt) (j := 0) rfl (by decide) c14
            refine lv_iload_n hx hb dX9_sumOf_67 rfl (lv_at hl 3 rfl) ?_
            refine lv_iconst (v := 1) hx hb dX9_sumOf_68 (by decide) ?_
            refine lv_icmp_ne (tgt := 88) hx hb dX9_sumOf_69 (by decide) (fun c15 => ?_) (fun c15 => ?_)
            ·
              have c15 := z_ne (i := p2.toInt) (j := 1) rfl (by decide) c15
              refine lv_iload_n hx hb dX9_sumOf_88 rfl (lv_at hl 3 rfl) ?_
              refine lv_iconst (v := 2) hx hb dX9_sumOf_89 (by decide) ?_
              refine lv_icmp_ne (tgt := 126) hx hb dX9_sumOf_90 (by decide) (fun c16 => ?_) (fun c16 => ?_)
              ·
                have c16 := z_ne (i := p2.toInt) (j := 2) rfl (by decide) c16
                refine lv_iload_n hx hb dX9_sumOf_126 rfl (lv_at hl 3 rfl) ?_
                refine lv_iconst (v := 3) hx hb dX9_sumOf_127 (by decide) ?_
                refine lv_icmp_ne (tgt := 153) hx hb dX9_sumOf_128 (by decide) (fun c17 => ?_) (fun c17 => ?_)
                ·
                  have c17 := z_ne (i := p2.toInt) (j := 3) rfl (by decide) c17
                  refine lv_iload_n hx hb dX9_sumOf_153 rfl (lv_at hl 3 rfl) ?_
                  refine lv_iconst (v := 4) hx hb dX9_sumOf_154 (by decide) ?_
                  refine lv_icmp_ne (tgt := 171) hx hb dX9_sumOf_155 (by decide) (fun c18 => ?_) (fun c18 => ?_)
                  ·
                    have c18 := z_ne (i := p2.toInt) (j := 4) rfl (by decide) c18
                    refine lv_iload_n hx hb dX9_sumOf_171 rfl (lv_at hl 3 rfl) ?_
                    refine lv_iconst (v := 5) hx hb dX9_sumOf_172 (by decide) ?_
                    refine lv_icmp_ne (tgt := 212) hx hb dX9_sumOf_173 (by decide) (fun c19 => ?_) (fun c19 => ?_)
                    ·
                      have c19 := z_ne (i := p2.toInt) (j := 5) rfl (by decide) c19
                      refine lv_iload_n hx hb dX9_sumOf_212 rfl (lv_at hl 4 rfl) ?_
                      refine lv_aload_n hx hb dX9_sumOf_213 rfl (lv_at hl 1 rfl) ?_
                      refine va_get (D := D) (ci := 9) (v := .ref (r0 20)) (C := RX9) (T := TX9) (N := 44) hx hb hts inX9 hown hK hP 0 rfl rfl 29 (by decide) lk72 (fun _ h9 => h9) rfl dX9_sumOf_214 ?_
                      refine lv_iload hx hb dX9_sumOf_217 (lv_at hl 6 rfl) ?_
                      have hi20 : vp_in t6 180 := z_in (i := t6.toInt) rfl (by omega) (by omega)
                      refine va_iald hx hb hK hP 20 0 rfl rfl hi20 dX9_sumOf_219 ?_
                      refine lv_topi (fun t21 et21 => ?_)
                      refine lv_iadd hx hb dX9_sumOf_220 ?_
                      refine lv_topi (fun t22 et22 => ?_)
                      try have ht22 : t22.toInt = x3_3.toInt + t21.toInt := z_add et22 rfl rfl (by omega -splitDisjunctions) (by omega -splitDisjunctions)
                      refine lv_istore_n (lv' := [(3, .int t22), (6, .int k0_9), (0, .ref (r0 0)), (1, .int p1), (2, .int p2), (4, .int x4_3), (5, .int t6)]) hx hb dX9_sumOf_221 rfl hl (by decide) rfl (fun ls hl => ?_)
                      exact J222_10 t22 ls (lv_sub hl [2, 3, 4, 0, 5] rfl)
                    ·
                      have c19 := z_eq (i := p2.toInt) (j := 5) rfl (by decide) c19
                      refine lv_iload_n hx hb dX9_sumOf_176 rfl (lv_at hl 4 rfl) ?_
                      refine lv_aload_n hx hb dX9_sumOf_177 rfl (lv_at hl 1 rfl) ?_
                      refine va_get (D := D) (ci := 9) (v := .ref (r0 19)) (C := RX9) (T := TX9) (N := 44) hx hb hts inX9 hown hK hP 0 rfl rfl 28 (by decide) lk69 (fun _ h9 => h9) rfl dX9_sumOf_178 ?_
                      refine lv_iload hx hb dX9_sumOf_181 (lv_at hl 6 rfl) ?_
                      have hi23 : vp_in t6 180 := z_in (i := t6.toInt) rfl (by omega) (by omega)
                      refine va_iald hx hb hK hP 19 0 rfl rfl hi23 dX9_sumOf_183 ?_
                      refine lv_topi (fun t24 et24 => ?_)
                      refine lv_aload_n hx hb dX9_sumOf_184 rfl (lv_at hl 1 rfl) ?_
                      refine va_get (D := D) (ci := 9) (v := .ref (r0 11)) (C := RX9) (T := TX9) (N := 44) hx hb hts inX9 hown hK hP 0 rfl rfl 20 (by decide) lk45 (fun _ h9 => h9) rfl dX9_sumOf_185 ?_
                      refine lv_iload hx hb dX9_sumOf_188 (lv_at hl 6 rfl) ?_
                      have hi25 : vp_in t6 180 := z_in (i := t6.toInt) rfl (by omega) (by omega)
                      refine va_iald hx hb hK hP 11 0 rfl rfl hi25 dX9_sumOf_190 ?_
                      refine lv_topi (fun t26 et26 => ?_)
                      refine lv_iconst (v := (-1)) hx hb dX9_sumOf_191 (by decide) ?_
                      have J206_27 : ∀ (k2_27 : Int32) (ls : Array Slot) (hl : lv_has ls 7 [(0, .ref (r0 0)), (1, .int p1), (2, .int p2), (4, .int x4_3)]), W p l e (headSpec wsX9_sumOf ({ frames := 0, cells := 0, slots := 0, locals := 0 })).room s m ([.ref (r0 0), .int p1, .int p2] : List Value).toArray below meth c H [] 0 0 Q9 (F0 m 206 ls [.int k2_27, .int t24, .int x3_3]) := by
                        intro k2_27 ls hl
                        refine lv_iadd hx hb dX9_sumOf_206 ?_
                        refine lv_topi (fun t28 et28 => ?_)
                        try have ht28 : t28.toInt = t24.toInt + k2_27.toInt := z_add et28 rfl rfl (by omega -splitDisjunctions) (by omega -splitDisjunctions)
                        refine lv_iadd hx hb dX9_sumOf_207 ?_
                        refine lv_topi (fun t29 et29 => ?_)
                        try have ht29 : t29.toInt = x3_3.toInt + t28.toInt := z_add et29 rfl rfl (by omega -splitDisjunctions) (by omega -splitDisjunctions)
                        refine lv_istore_n (lv' := [(3, .int t29), (0, .ref (r0 0)), (1, .int p1), (2, .int p2), (4, .int x4_3)]) hx hb dX9_sumOf_208 rfl hl (by decide) rfl (fun ls hl => ?_)
                        refine lv_goto (tgt := 222) hx hb dX9_sumOf_209 (by decide) ?_
                        exact J222_10 t29 ls (lv_sub hl [1, 2, 3, 0, 4] rfl)
                      refine lv_icmp_ne (tgt := 199) hx hb dX9_sumOf_192 (by decide) (fun c30 => ?_) (fun c30 => ?_)
                      ·
                        have c30 := z_ne (i := t26.toInt) (j := (-1)) rfl (by decide) c30
                        refine lv_aload_n hx hb dX9_sumOf_199 rfl (lv_at hl 1 rfl) ?_
                        refine va_get (D := D) (ci := 9) (v := .ref (r0 5)) (C := RX9) (T := TX9) (N := 44) hx hb hts inX9 hown hK hP 0 rfl rfl 14 (by decide) lk27 (fun _ h9 => h9) rfl dX9_sumOf_200 ?_
                        refine lv_iload hx hb dX9_sumOf_203 (lv_at hl 5 rfl) ?_
                        have hi31 : vp_in x4_3 60 := z_in (i := x4_3.toInt) rfl (by omega) (by omega)
                        refine va_iald hx hb hK hP 5 0 rfl rfl hi31 dX9_sumOf_205 ?_
                        refine lv_topi (fun t32 et32 => ?_)
                        exact J206_27 t32 ls (lv_sub hl [1, 2, 3, 5] rfl)
                      ·
                        have c30 := z_eq (i := t26.toInt) (j := (-1)) rfl (by decide) c30
                        refine lv_iconst (v := 0) hx hb dX9_sumOf_195 (by decide) ?_
                        refine lv_goto (tgt := 206) hx hb dX9_sumOf_196 (by decide) ?_
                        refine lv_topi (fun t33 et33 => ?_)
                        have ht33 : t33.toInt = 0 := by rw [et33]; decide
                        exact J206_27 t33 ls (lv_sub hl [1, 2, 3, 5] rfl)
                  ·
                    have c18 := z_eq (i := p2.toInt) (j := 4) rfl (by decide) c18
                    refine lv_iload_n hx hb dX9_sumOf_158 rfl (lv_at hl 4 rfl) ?_
                    refine lv_aload_n hx hb dX9_sumOf_159 rfl (lv_at hl 1 rfl) ?_
                    refine va_get (D := D) (ci := 9) (v := .ref (r0 18)) (C := RX9) (T := TX9) (N := 44) hx hb hts inX9 hown hK hP 0 rfl rfl 27 (by decide) lk66 (fun _ h9 => h9) rfl dX9_sumOf_160 ?_
                    refine lv_iload hx hb dX9_sumOf_163 (lv_at hl 6 rfl) ?_
                    have hi34 : vp_in t6 180 := z_in (i := t6.toInt) rfl (by omega) (by omega)
                    refine va_iald hx hb hK hP 18 0 rfl rfl hi34 dX9_sumOf_165 ?_
                    refine lv_topi (fun t35 et35 => ?_)
                    refine lv_iadd hx hb dX9_sumOf_166 ?_
                    refine lv_topi (fun t36 et36 => ?_)
                    try have ht36 : t36.toInt = x3_3.toInt + t35.toInt := z_add et36 rfl rfl (by omega -splitDisjunctions) (by omega -splitDisjunctions)
                    refine lv_istore_n (lv' := [(3, .int t36), (6, .int k0_9), (0, .ref (r0 0)), (1, .int p1), (2, .int p2), (4, .int x4_3), (5, .int t6)]) hx hb dX9_sumOf_167 rfl hl (by decide) rfl (fun ls hl => ?_)
                    refine lv_goto (tgt := 222) hx hb dX9_sumOf_168 (by decide) ?_
                    exact J222_10 t36 ls (lv_sub hl [2, 3, 4, 0, 5] rfl)
                ·
                  have c17 := z_eq (i := p2.toInt) (j := 3) rfl (by decide) c17
                  refine lv_iload_n hx hb dX9_sumOf_131 rfl (lv_at hl 4 rfl) ?_
                  refine lv_aload_n hx hb dX9_sumOf_132 rfl (lv_at hl 1 rfl) ?_
                  refine va_get (D := D) (ci := 9) (v := .ref (r0 17)) (C := RX9) (T := TX9) (N := 44) hx hb hts inX9 hown hK hP 0 rfl rfl 26 (by decide) lk63 (fun _ h9 => h9) rfl dX9_sumOf_133 ?_
                  refine lv_iload hx hb dX9_sumOf_136 (lv_at hl 6 rfl) ?_
                  have hi37 : vp_in t6 180 := z_in (i := t6.toInt) rfl (by omega) (by omega)
                  refine va_iald hx hb hK hP 17 0 rfl rfl hi37 dX9_sumOf_138 ?_
                  refine lv_topi (fun t38 et38 => ?_)
                  refine lv_iconst (v := (-1)) hx hb dX9_sumOf_139 (by decide) ?_
                  have J148_39 : ∀ (k1_39 : Int32) (ls : Array Slot) (hl : lv_has ls 7 [(0, .ref (r0 0)), (1, .int p1), (2, .int p2), (4, .int x4_3)]) (hf39_0 : 0 ≤ k1_39.toInt ∧ k1_39.toInt ≤ 1), W p l e (headSpec wsX9_sumOf ({ frames := 0, cells := 0, slots := 0, locals := 0 })).room s m ([.ref (r0 0), .int p1, .int p2] : List Value).toArray below meth c H [] 0 0 Q9 (F0 m 148 ls [.int k1_39, .int x3_3]) := by
                    intro k1_39 ls hl hf39_0
                    refine lv_iadd hx hb dX9_sumOf_148 ?_
                    refine lv_topi (fun t40 et40 => ?_)
                    try have ht40 : t40.toInt = x3_3.toInt + k1_39.toInt := z_add et40 rfl rfl (by omega -splitDisjunctions) (by omega -splitDisjunctions)
                    refine lv_istore_n (lv' := [(3, .int t40), (0, .ref (r0 0)), (1, .int p1), (2, .int p2), (4, .int x4_3)]) hx hb dX9_sumOf_149 rfl hl (by decide) rfl (fun ls hl => ?_)
                    refine lv_goto (tgt := 222) hx hb dX9_sumOf_150 (by decide) ?_
                    exact J222_10 t40 ls (lv_sub hl [1, 2, 3, 0, 4] rfl)
                  refine lv_icmp_eq (tgt := 147) hx hb dX9_sumOf_140 (by decide) (fun c41 => ?_) (fun c41 => ?_)
                  ·
                    have c41 := z_eq (i := t38.toInt) (j := (-1)) rfl (by decide) c41
                    refine lv_iconst (v := 0) hx hb dX9_sumOf_147 (by decide) ?_
                    refine lv_topi (fun t42 et42 => ?_)
                    have ht42 : t42.toInt = 0 := by rw [et42]; decide
                    have hj43 : 0 ≤ t42.toInt ∧ t42.toInt ≤ 1 := by omega
                    exact J148_39 t42 ls (lv_sub hl [1, 2, 3, 5] rfl) hj43
                  ·
                    have c41 := z_ne (i := t38.toInt) (j := (-1)) rfl (by decide) c41
                    refine lv_iconst (v := 1) hx hb dX9_sumOf_143 (by decide) ?_
                    refine lv_goto (tgt := 148) hx hb dX9_sumOf_144 (by decide) ?_
                    refine lv_topi (fun t44 et44 => ?_)
                    have ht44 : t44.toInt = 1 := by rw [et44]; decide
                    have hj45 : 0 ≤ t44.toInt ∧ t44.toInt ≤ 1 := by omega
                    exact J148_39 t44 ls (lv_sub hl [1, 2, 3, 5] rfl) hj45
              ·
                have c16 := z_eq (i := p2.toInt) (j := 2) rfl (by decide) c16
                refine lv_iload_n hx hb dX9_sumOf_93 rfl (lv_at hl 4 rfl) ?_
                refine lv_aload_n hx hb dX9_sumOf_94 rfl (lv_at hl 1 rfl) ?_
                refine va_get (D := D) (ci := 9) (v := .ref (r0 11)) (C := RX9) (T := TX9) (N := 44) hx hb hts inX9 hown hK hP 0 rfl rfl 20 (by decide) lk45 (fun _ h9 => h9) rfl dX9_sumOf_95 ?_
                refine lv_iload hx hb dX9_sumOf_98 (lv_at hl 6 rfl) ?_
                have hi46 : vp_in t6 180 := z_in (i := t6.toInt) rfl (by omega) (by omega)
                refine va_iald hx hb hK hP 11 0 rfl rfl hi46 dX9_sumOf_100 ?_
                refine lv_topi (fun t47 et47 => ?_)
                refine lv_iconst (v := (-1)) hx hb dX9_sumOf_101 (by decide) ?_
                have J121_48 : ∀ (k1_48 : Int32) (ls : Array Slot) (hl : lv_has ls 7 [(0, .ref (r0 0)), (1, .int p1), (2, .int p2), (4, .int x4_3)]) (hf48_0 : 0 ≤ k1_48.toInt ∧ k1_48.toInt ≤ 1), W p l e (headSpec wsX9_sumOf ({ frames := 0, cells := 0, slots := 0, locals := 0 })).room s m ([.ref (r0 0), .int p1, .int p2] : List Value).toArray below meth c H [] 0 0 Q9 (F0 m 121 ls [.int k1_48, .int x3_3]) := by
                  intro k1_48 ls hl hf48_0
                  refine lv_iadd hx hb dX9_sumOf_121 ?_
                  refine lv_topi (fun t49 et49 => ?_)
                  try have ht49 : t49.toInt = x3_3.toInt + k1_48.toInt := z_add et49 rfl rfl (by omega -splitDisjunctions) (by omega -splitDisjunctions)
                  refine lv_istore_n (lv' := [(3, .int t49), (0, .ref (r0 0)), (1, .int p1), (2, .int p2), (4, .int x4_3)]) hx hb dX9_sumOf_122 rfl hl (by decide) rfl (fun ls hl => ?_)
                  refine lv_goto (tgt := 222) hx hb dX9_sumOf_123 (by decide) ?_
                  exact J222_10 t49 ls (lv_sub hl [1, 2, 3, 0, 4] rfl)
                have J120_50 : ∀ (ls : Array Slot) (hl : lv_has ls 7 [(0, .ref (r0 0)), (1, .int p1), (2, .int p2), (4, .int x4_3)]), W p l e (headSpec wsX9_sumOf ({ frames := 0, cells := 0, slots := 0, locals := 0 })).room s m ([.ref (r0 0), .int p1, .int p2] : List Value).toArray below meth c H [] 0 0 Q9 (F0 m 120 ls [.int x3_3]) := by
                  intro ls hl
                  refine lv_iconst (v := 0) hx hb dX9_sumOf_120 (by decide) ?_
                  refine lv_topi (fun t51 et51 => ?_)
                  have ht51 : t51.toInt = 0 := by rw [et51]; decide
                  have hj52 : 0 ≤ t51.toInt ∧ t51.toInt ≤ 1 := by omega
                  exact J121_48 t51 ls (lv_sub hl [0, 1, 2, 3] rfl) hj52
                refine lv_icmp_eq (tgt := 120) hx hb dX9_sumOf_102 (by decide) (fun c53 => ?_) (fun c53 => ?_)
                ·
                  have c53 := z_eq (i := t47.toInt) (j := (-1)) rfl (by decide) c53
                  exact J120_50 ls (lv_sub hl [1, 2, 3, 5] rfl)
                ·
                  have c53 := z_ne (i := t47.toInt) (j := (-1)) rfl (by decide) c53
                  refine lv_aload_n hx hb dX9_sumOf_105 rfl (lv_at hl 1 rfl) ?_
                  refine va_get (D := D) (ci := 9) (v := .ref (r0 16)) (C := RX9) (T := TX9) (N := 44) hx hb hts inX9 hown hK hP 0 rfl rfl 25 (by decide) lk60 (fun _ h9 => h9) rfl dX9_sumOf_106 ?_
                  refine lv_iload hx hb dX9_sumOf_109 (lv_at hl 6 rfl) ?_
                  have hi54 : vp_in t6 180 := z_in (i := t6.toInt) rfl (by omega) (by omega)
                  refine va_iald hx hb hK hP 16 0 rfl rfl hi54 dX9_sumOf_111 ?_
                  refine lv_topi (fun t55 et55 => ?_)
                  have ht55q : t55.toInt = t8.toInt := by rw [et55, et8]
                  refine lv_iconst (v := (-1)) hx hb dX9_sumOf_112 (by decide) ?_
                  refine lv_icmp_ne (tgt := 120) hx hb dX9_sumOf_113 (by decide) (fun c56 => ?_) (fun c56 => ?_)
                  ·
                    have c56 := z_ne (i := t55.toInt) (j := (-1)) rfl (by decide) c56
                    exact J120_50 ls (lv_sub hl [1, 2, 3, 5] rfl)
                  ·
                    have c56 := z_eq (i := t55.toInt) (j := (-1)) rfl (by decide) c56
                    refine lv_iconst (v := 1) hx hb dX9_sumOf_116 (by decide) ?_
                    refine lv_goto (tgt := 121) hx hb dX9_sumOf_117 (by decide) ?_
                    refine lv_topi (fun t57 et57 => ?_)
                    have ht57 : t57.toInt = 1 := by rw [et57]; decide
                    have hj58 : 0 ≤ t57.toInt ∧ t57.toInt ≤ 1 := by omega
                    exact J121_48 t57 ls (lv_sub hl [1, 2, 3, 5] rfl) hj58
            ·
              have c15 := z_eq (i := p2.toInt) (j := 1) rfl (by decide) c15
              refine lv_iload hx hb dX9_sumOf_72 (lv_at hl 0 rfl) ?_
              refine lv_iload_n hx hb dX9_sumOf_74 rfl (lv_at hl 4 rfl) ?_
              have J84_59 : ∀ (k0_59 : Int32) (ls : Array Slot) (hl : lv_has ls 7 [(0, .ref (r0 0)), (1, .int p1), (2, .int p2), (4, .int x4_3)]), W p l e (headSpec wsX9_sumOf ({ frames := 0, cells := 0, slots := 0, locals := 0 })).room s m ([.ref (r0 0), .int p1, .int p2] : List Value).toArray below meth c H [] 0 0 Q9 (F0 m 84 ls [.int k0_59]) := by
                intro k0_59 ls hl
                refine lv_istore_n (lv' := [(3, .int k0_59), (0, .ref (r0 0)), (1, .int p1), (2, .int p2), (4, .int x4_3)]) hx hb dX9_sumOf_84 rfl hl (by decide) rfl (fun ls hl => ?_)
                refine lv_goto (tgt := 222) hx hb dX9_sumOf_85 (by decide) ?_
                exact J222_10 k0_59 ls (lv_sub hl [1, 2, 3, 0, 4] rfl)
              refine lv_icmp_le (tgt := 83) hx hb dX9_sumOf_75 (by decide) (fun c60 => ?_) (fun c60 => ?_)
              ·
                have c60 := z_le (i := k0_9.toInt) (j := x3_3.toInt) rfl rfl c60
                refine lv_iload_n hx hb dX9_sumOf_83 rfl (lv_at hl 4 rfl) ?_
                exact J84_59 x3_3 ls (lv_sub hl [1, 2, 3, 5] rfl)
              ·
                have c60 := z_nle (i := k0_9.toInt) (j := x3_3.toInt) rfl rfl c60
                refine lv_iload hx hb dX9_sumOf_78 (lv_at hl 0 rfl) ?_
                refine lv_goto (tgt := 84) hx hb dX9_sumOf_80 (by decide) ?_
                exact J84_59 k0_9 ls (lv_sub hl [1, 2, 3, 5] rfl)
          ·
            have c14 := z_eq (i := p2.toInt) (j := 0) rfl (by decide) c14
            refine lv_iload_n hx hb dX9_sumOf_59 rfl (lv_at hl 4 rfl) ?_
            refine lv_iload hx hb dX9_sumOf_60 (lv_at hl 0 rfl) ?_
            refine lv_iadd hx hb dX9_sumOf_62 ?_
            refine lv_topi (fun t61 et61 => ?_)
            try have ht61 : t61.toInt = x3_3.toInt + k0_9.toInt := z_add et61 rfl rfl (by omega -splitDisjunctions) (by omega -splitDisjunctions)
            refine lv_istore_n (lv' := [(3, .int t61), (6, .int k0_9), (0, .ref (r0 0)), (1, .int p1), (2, .int p2), (4, .int x4_3), (5, .int t6)]) hx hb dX9_sumOf_63 rfl hl (by decide) rfl (fun ls hl => ?_)
            refine lv_goto (tgt := 222) hx hb dX9_sumOf_64 (by decide) ?_
            exact J222_10 t61 ls (lv_sub hl [2, 3, 4, 0, 5] rfl)
        refine lv_icmp_ne (tgt := 38) hx hb dX9_sumOf_31 (by decide) (fun c62 => ?_) (fun c62 => ?_)
        ·
          have c62 := z_ne (i := t8.toInt) (j := (-1)) rfl (by decide) c62
          refine lv_aload_n hx hb dX9_sumOf_38 rfl (lv_at hl 1 rfl) ?_
          refine va_get (D := D) (ci := 9) (v := .ref (r0 16)) (C := RX9) (T := TX9) (N := 44) hx hb hts inX9 hown hK hP 0 rfl rfl 25 (by decide) lk60 (fun _ h9 => h9) rfl dX9_sumOf_39 ?_
          refine lv_iload hx hb dX9_sumOf_42 (lv_at hl 0 rfl) ?_
          have hi63 : vp_in t6 180 := z_in (i := t6.toInt) rfl (by omega) (by omega)
          refine va_iald hx hb hK hP 16 0 rfl rfl hi63 dX9_sumOf_44 ?_
          refine lv_topi (fun t64 et64 => ?_)
          have ht64q : t64.toInt = t8.toInt := by rw [et64, et8]
          refine lv_aload_n hx hb dX9_sumOf_45 rfl (lv_at hl 1 rfl) ?_
          refine va_get (D := D) (ci := 9) (v := .ref (r0 11)) (C := RX9) (T := TX9) (N := 44) hx hb hts inX9 hown hK hP 0 rfl rfl 20 (by decide) lk45 (fun _ h9 => h9) rfl dX9_sumOf_46 ?_
          refine lv_iload hx hb dX9_sumOf_49 (lv_at hl 0 rfl) ?_
          have hi65 : vp_in t6 180 := z_in (i := t6.toInt) rfl (by omega) (by omega)
          refine va_iald hx hb hK hP 11 0 rfl rfl hi65 dX9_sumOf_51 ?_
          refine lv_topi (fun t66 et66 => ?_)
          refine lv_isub hx hb dX9_sumOf_52 ?_
          refine lv_topi (fun t67 et67 => ?_)
          try have ht67 : t67.toInt = t64.toInt - t66.toInt := z_sub et67 rfl rfl (by omega -splitDisjunctions) (by omega -splitDisjunctions)
          exact J53_9 t67 ls (lv_sub hl [1, 2, 3, 4, 5, 0] rfl)
        ·
          have c62 := z_eq (i := t8.toInt) (j := (-1)) rfl (by decide) c62
          refine lv_iconst (v := 0) hx hb dX9_sumOf_34 (by decide) ?_
          refine lv_goto (tgt := 53) hx hb dX9_sumOf_35 (by decide) ?_
          refine lv_topi (fun t68 et68 => ?_)
          have ht68 : t68.toInt = 0 := by rw [et68]; decide
          exact J53_9 t68 ls (lv_sub hl [1, 2, 3, 4, 5, 0] rfl)
  have hj69 : 0 ≤ t2.toInt ∧ t2.toInt ≤ 60 := by omega
  exact J5_3 ((61 - t2.toInt).toNat + 1) t1 t2 ls (lv_sub hl [2, 3, 4, 1, 0] rfl) hj69 (Nat.lt_succ_self _)

set_option maxHeartbeats 8000000 in
set_option maxRecDepth 100000 in
theorem c_X9_sum (l : Launch) (D : va_G) (ca : Nat → ClassId) (sa : Nat → Nat) (A : Nat → Prop) (rest : va_W) (r0 : Nat → Nat) (fi0 : Nat → Int32) (fl0 : Nat → Int64) (fa0 : Nat → Nat → Int32) (fb0 : Nat → Nat → Int64) (hv0 : Ok_MOD fi0 fa0) (p1 : Int32) : Met l yX9_sum wsX9_sum ({ frames := 1, cells := 0, slots := 0, locals := 26 }) (va_Pc [.ref (r0 0), .int p1] (zPre D ca sa A (w_MOD ca r0 fi0 fl0 fa0 fb0 (rest)))) (va_Qi (fun (r : Int32) (u : Unit) => True) (fun u t => zPost D A (w_MOD ca r0 fi0 fl0 fa0 fb0 (rest)) t) A) 0 0 A := by
  refine Met.ofW (cc := cX9_sum) (maxL := 2) (ret := (some .int)) (by decide) rfl ?_
  intro p e s m args below meth c s₁ B hml hv9
  obtain ⟨rfl, hE, hP, hD⟩ := hv9
  have hx := B.exec
  have hb := B.bytes
  have hr := B.returns
  have hts := atoms_spec (ws := wsX9_sum) B.pre
  have hown : s.vm.findClass RX9 = some m.cls := findClass_of_methodNamed B.named
  have hlocks := B.notSynchronized
  have hK := hE.1
  have hF : CallFix p m c cX9_sum 2 s _ wsX9_sum RX9 := ⟨hx, hb, hml, hown, hts⟩
  have hS : va_S A s.heap s.heap [] := va_S.rf
  have lk113 := hts (.fieldLink RX9 113 "BranchPlayModel" "played" "I") (by decide +kernel)
  have inX9 : ∀ w ∈ wsX90, w ∈ wsX9_sum := by decide +kernel
  have lk89 := hts (.fieldLink RX9 89 "BranchPlayModel" "mostWaiting" "[I") (by decide +kernel)
  obtain ⟨⟨hv0i0, hv0j0⟩, ⟨hv0i1, hv0j1⟩, ⟨hv0i5, hv0j5⟩, ⟨hv0i9, hv0j9⟩, hv0a6, hv0a8, hv0a9, hv0a23, hv0a27, hv0a28, hv0x0, hv0y0⟩ := hv0
  generalize hHe : s.heap = H at hP
  have hS : va_S A s.heap H [] := by rw [← hHe]; exact hS
  have hP : va_P D vwCl (((r0 0), .inr (9, [.ref (r0 1), .int (fi0 0), .int (fi0 1), .int (fi0 2), .int (fi0 3), .int (fi0 4), .int (fi0 5), .int (fi0 6), .int (fi0 7), .int (fi0 8), .ref (r0 2), .int (fi0 9), .ref (r0 3), .ref (r0 4), .ref (r0 5), .ref (r0 6), .ref (r0 7), .ref (r0 8), .ref (r0 9), .ref (r0 10), .ref (r0 11), .ref (r0 12), .ref (r0 13), .ref (r0 14), .ref (r0 15), .ref (r0 16), .ref (r0 17), .ref (r0 18), .ref (r0 19), .ref (r0 20), .ref (r0 21), .ref (r0 22), .ref (r0 23), .ref (r0 24), .ref (r0 25), .ref (r0 26), .ref (r0 27), .ref (r0 28), .ref (r0 29), .ref (r0 30), .ref (r0 31), .ref (r0 32), .int (fi0 10), .ref (r0 33)])) :: ((r0 1), .inl (ca 2, 600, .inl (fa0 0))) :: ((r0 2), .inl (ca 0, 48, .inl (fa0 1))) :: ((r0 3), .inl (ca 0, 60, .inl (fa0 2))) :: ((r0 4), .inl (ca 0, 60, .inl (fa0 3))) :: ((r0 5), .inl (ca 0, 60, .inl (fa0 4))) :: ((r0 6), .inl (ca 0, 60, .inl (fa0 5))) :: ((r0 7), .inl (ca 0, 60, .inl (fa0 6))) :: ((r0 8), .inl (ca 0, 60, .inl (fa0 7))) :: ((r0 9), .inl (ca 0, 180, .inl (fa0 8))) :: ((r0 10), .inl (ca 0, 60, .inl (fa0 9))) :: ((r0 11), .inl (ca 0, 180, .inl (fa0 10))) :: ((r0 12), .inl (ca 0, 180, .inl (fa0 11))) :: ((r0 13), .inl (ca 0, 180, .inl (fa0 12))) :: ((r0 14), .inl (ca 0, 180, .inl (fa0 13))) :: ((r0 15), .inl (ca 0, 180, .inl (fa0 14))) :: ((r0 16), .inl (ca 0, 180, .inl (fa0 15))) :: ((r0 17), .inl (ca 0, 180, .inl (fa0 16))) :: ((r0 18), .inl (ca 0, 180, .inl (fa0 17))) :: ((r0 19), .inl (ca 0, 180, .inl (fa0 18))) :: ((r0 20), .inl (ca 0, 180, .inl (fa0 19))) :: ((r0 21), .inl (ca 0, 3, .inl (fa0 20))) :: ((r0 22), .inl (ca 1, 3, .inr (.inl (fb0 0)))) :: ((r0 23), .inl (ca 1, 3, .inr (.inl (fb0 1)))) :: ((r0 24), .inl (ca 3, 3, .inl (fa0 21))) :: ((r0 25), .inl (ca 0, 3, .inl (fa0 22))) :: ((r0 26), .inl (ca 0, 3, .inl (fa0 23))) :: ((r0 27), .inl (ca 0, 810, .inl (fa0 24))) :: ((r0 28), .inl (ca 3, 810, .inl (fa0 25))) :: ((r0 29), .inl (ca 1, 810, .inr (.inl (fb0 2)))) :: ((r0 30), .inl (ca 0, 810, .inl (fa0 26))) :: ((r0 31), .inl (ca 0, 3, .inl (fa0 27))) :: ((r0 32), .inl (ca 0, 60, .inl (fa0 28))) :: ((r0 33), .inl (ca 0, 4, .inl (fa0 29))) :: rest) H := hP
  have hD : va_D A (((r0 0), .inr (9, [.ref (r0 1), .int (fi0 0), .int (fi0 1), .int (fi0 2), .int (fi0 3), .int (fi0 4), .int (fi0 5), .int (fi0 6), .int (fi0 7), .int (fi0 8), .ref (r0 2), .int (fi0 9), .ref (r0 3), .ref (r0 4), .ref (r0 5), .ref (r0 6), .ref (r0 7), .ref (r0 8), .ref (r0 9), .ref (r0 10), .ref (r0 11), .ref (r0 12), .ref (r0 13), .ref (r0 14), .ref (r0 15), .ref (r0 16), .ref (r0 17), .ref (r0 18), .ref (r0 19), .ref (r0 20), .ref (r0 21), .ref (r0 22), .ref (r0 23), .ref (r0 24), .ref (r0 25), .ref (r0 26), .ref (r0 27), .ref (r0 28), .ref (r0 29), .ref (r0 30), .ref (r0 31), .ref (r0 32), .int (fi0 10), .ref (r0 33)])) :: ((r0 1), .inl (ca 2, 600, .inl (fa0 0))) :: ((r0 2), .inl (ca 0, 48, .inl (fa0 1))) :: ((r0 3), .inl (ca 0, 60, .inl (fa0 2))) :: ((r0 4), .inl (ca 0, 60, .inl (fa0 3))) :: ((r0 5), .inl (ca 0, 60, .inl (fa0 4))) :: ((r0 6), .inl (ca 0, 60, .inl (fa0 5))) :: ((r0 7), .inl (ca 0, 60, .inl (fa0 6))) :: ((r0 8), .inl (ca 0, 60, .inl (fa0 7))) :: ((r0 9), .inl (ca 0, 180, .inl (fa0 8))) :: ((r0 10), .inl (ca 0, 60, .inl (fa0 9))) :: ((r0 11), .inl (ca 0, 180, .inl (fa0 10))) :: ((r0 12), .inl (ca 0, 180, .inl (fa0 11))) :: ((r0 13), .inl (ca 0, 180, .inl (fa0 12))) :: ((r0 14), .inl (ca 0, 180, .inl (fa0 13))) :: ((r0 15), .inl (ca 0, 180, .inl (fa0 14))) :: ((r0 16), .inl (ca 0, 180, .inl (fa0 15))) :: ((r0 17), .inl (ca 0, 180, .inl (fa0 16))) :: ((r0 18), .inl (ca 0, 180, .inl (fa0 17))) :: ((r0 19), .inl (ca 0, 180, .inl (fa0 18))) :: ((r0 20), .inl (ca 0, 180, .inl (fa0 19))) :: ((r0 21), .inl (ca 0, 3, .inl (fa0 20))) :: ((r0 22), .inl (ca 1, 3, .inr (.inl (fb0 0)))) :: ((r0 23), .inl (ca 1, 3, .inr (.inl (fb0 1)))) :: ((r0 24), .inl (ca 3, 3, .inl (fa0 21))) :: ((r0 25), .inl (ca 0, 3, .inl (fa0 22))) :: ((r0 26), .inl (ca 0, 3, .inl (fa0 23))) :: ((r0 27), .inl (ca 0, 810, .inl (fa0 24))) :: ((r0 28), .inl (ca 3, 810, .inl (fa0 25))) :: ((r0 29), .inl (ca 1, 810, .inr (.inl (fb0 2)))) :: ((r0 30), .inl (ca 0, 810, .inl (fa0 26))) :: ((r0 31), .inl (ca 0, 3, .inl (fa0 27))) :: ((r0 32), .inl (ca 0, 60, .inl (fa0 28))) :: ((r0 33), .inl (ca 0, 4, .inl (fa0 29))) :: rest) := hD
  have hl := lv_entry ([.ref (r0 0), .int p1]) (n := 2) (Nat.le_of_ble_eq_true rfl)
  rw [lg_entry_eq]
  generalize (lg_sl ([.ref (r0 0), .int p1]) ++ List.replicate (2 - (lg_sl ([.ref (r0 0), .int p1])).length) Slot.unset).toArray = ls at hl ⊢
  have hl : lv_has ls 2 [(0, .ref (r0 0)), (1, .int p1)] := hl
  generalize hQ9 : MQ below _ _ s 0 0 A = Q9
  refine lv_aload_n hx hb dX9_sum_0 rfl (lv_at hl 0 rfl) ?_
  refine va_get (D := D) (ci := 9) (v := .int (fi0 10)) (C := RX9) (T := TX9) (N := 44) hx hb hts inX9 hown hK hP 0 rfl rfl 42 (by decide) lk113 (fun _ h9 => h9) rfl dX9_sum_1 ?_
  refine lv_iconst (v := (-1)) hx hb dX9_sum_4 (by decide) ?_
  refine lv_icmp_eq (tgt := 18) hx hb dX9_sum_5 (by decide) (fun c1 => ?_) (fun c1 => ?_)
  ·
    have c1 := z_eq (i := (fi0 10).toInt) (j := (-1)) rfl (by decide) c1
    refine lv_bipush (v := (-9)) hx hb dX9_sum_18 (by decide) ?_
    rw [← hQ9]
    refine lv_topi (fun t2 et2 => ?_)
    have ht2 : t2.toInt = (-9) := by rw [et2]; decide
    exact W.iret (v := t2) hx hb hr (fun t ht hW => ⟨⟨t2, (), rfl, trivial, ⟨by rw [ht]; exact hP, hD⟩⟩, hS.F ht⟩) hS.2.2 dX9_sum_20
  ·
    have c1 := z_ne (i := (fi0 10).toInt) (j := (-1)) rfl (by decide) c1
    refine lv_iload_n hx hb dX9_sum_8 rfl (lv_at hl 1 rfl) ?_
    refine lv_iconst (v := 0) hx hb dX9_sum_9 (by decide) ?_
    refine lv_bipush (v := 7) hx hb dX9_sum_10 (by decide) ?_
    refine z_iS (As := [.int p1, .int 0, .int 7]) (rest := []) hF (c_X9_in l D ca sa A _ p1 0 7) (va_cwS 3 hts gX9_sum_X9_in rfl rfl rfl (by decide +kernel) ⟨Nat.le_of_ble_eq_true rfl, Nat.le_of_ble_eq_true rfl⟩) hE hP hD hS rfl hl.1 rfl (Nat.le_of_ble_eq_true rfl) dX9_sum_12 ⟨Nat.zero_le _, Nat.zero_le _⟩ (fun t4 u3 H locs hw5 hP hD hS => ?_)
    have hw5 : ((t4.toInt = 1 ∧ (0 : Int32).toInt ≤ p1.toInt ∧ p1.toInt ≤ (7 : Int32).toInt) ∨ (t4.toInt = 0 ∧ (p1.toInt < (0 : Int32).toInt ∨ (7 : Int32).toInt < p1.toInt))) := hw5
    have hq6 := hw5
    clear hw5
    have hk7 : (0 : Int32).toInt = 0 := by decide
    have hk8 : (7 : Int32).toInt = 7 := by decide
    refine lv_if_ne (tgt := 21) hx hb dX9_sum_15 (by decide) (fun c9 => ?_) (fun c9 => ?_)
    ·
      have c9 := z_ne (i := t4.toInt) (j := 0) rfl (by decide) c9
      refine lv_iload_n hx hb dX9_sum_21 rfl (lv_at hl 1 rfl) ?_
      refine lv_bipush (v := 7) hx hb dX9_sum_22 (by decide) ?_
      refine lv_icmp_ne (tgt := 36) hx hb dX9_sum_24 (by decide) (fun c10 => ?_) (fun c10 => ?_)
      ·
        have c10 := z_ne (i := p1.toInt) (j := 7) rfl (by decide) c10
        refine lv_aload_n hx hb dX9_sum_36 rfl (lv_at hl 0 rfl) ?_
        refine lv_iconst (v := 0) hx hb dX9_sum_37 (by decide) ?_
        refine lv_iload_n hx hb dX9_sum_38 rfl (lv_at hl 1 rfl) ?_
        have ho11 : (0 ≤ (fi0 0).toInt ∧ (fi0 0).toInt ≤ 600) ∧ (0 ≤ (fi0 1).toInt ∧ (fi0 1).toInt ≤ 600) ∧ (0 ≤ (fi0 5).toInt ∧ (fi0 5).toInt ≤ 600) ∧ (0 ≤ (fi0 9).toInt ∧ (fi0 9).toInt ≤ 60) ∧ z_rng (-1) 59 (fa0 6) ∧ z_rng 0 59 (fa0 8) ∧ z_rng 0 3 (fa0 9) ∧ z_rng 0 269 (fa0 23) ∧ z_rng 0 5 (fa0 27) ∧ z_rng 0 59 (fa0 28) ∧ ((fi0 2).toInt = 1 → 0 ≤ (fi0 3).toInt) ∧ zOkR (fa0 1) (fa0 27) := ⟨⟨by omega, by omega⟩, ⟨by omega, by omega⟩, ⟨by omega, by omega⟩, ⟨by omega, by omega⟩, hv0a6, hv0a8, hv0a9, hv0a23, hv0a27, hv0a28, by omega, hv0y0⟩
        have hp12 : 0 ≤ (0 : Int32).toInt ∧ (0 : Int32).toInt ≤ 2 := by (simp only [show ((0 : Int32).toInt) = 0 from by decide]) <;> omega
        refine z_iV (As := [.int 0, .int p1]) (rest := []) hF (c_X9_sumOf l D ca sa A rest (zl 0 [(r0 0), (r0 1), (r0 2), (r0 3), (r0 4), (r0 5), (r0 6), (r0 7), (r0 8), (r0 9), (r0 10), (r0 11), (r0 12), (r0 13), (r0 14), (r0 15), (r0 16), (r0 17), (r0 18), (r0 19), (r0 20), (r0 21), (r0 22), (r0 23), (r0 24), (r0 25), (r0 26), (r0 27), (r0 28), (r0 29), (r0 30), (r0 31), (r0 32), (r0 33)]) (zl 0 [(fi0 0), (fi0 1), (fi0 2), (fi0 3), (fi0 4), (fi0 5), (fi0 6), (fi0 7), (fi0 8), (fi0 9), (fi0 10)]) (zl 0 []) (zl (fun _ => 0) [(fa0 0), (fa0 1), (fa0 2), (fa0 3), (fa0 4), (fa0 5), (fa0 6), (fa0 7), (fa0 8), (fa0 9), (fa0 10), (fa0 11), (fa0 12), (fa0 13), (fa0 14), (fa0 15), (fa0 16), (fa0 17), (fa0 18), (fa0 19), (fa0 20), (fa0 21), (fa0 22), (fa0 23), (fa0 24), (fa0 25), (fa0 26), (fa0 27), (fa0 28), (fa0 29)]) (zl (fun _ => 0) [(fb0 0), (fb0 1), (fb0 2)]) ho11 0 p1 hp12) (cwV 2 hts gX9_sum_X9_sumOf rfl rfl rfl (by decide +kernel) ⟨Nat.le_of_ble_eq_true rfl, Nat.le_of_ble_eq_true rfl⟩) hE hP hD hS 9 0 rfl rfl rfl hl.1 rfl (Nat.le_of_ble_eq_true rfl) dX9_sum_39 ⟨Nat.zero_le _, Nat.zero_le _⟩ (fun t14 u13 H locs hw15 hP hD hS => ?_)
        have hP : va_P D vwCl (((r0 0), .inr (9, [.ref (r0 1), .int (fi0 0), .int (fi0 1), .int (fi0 2), .int (fi0 3), .int (fi0 4), .int (fi0 5), .int (fi0 6), .int (fi0 7), .int (fi0 8), .ref (r0 2), .int (fi0 9), .ref (r0 3), .ref (r0 4), .ref (r0 5), .ref (r0 6), .ref (r0 7), .ref (r0 8), .ref (r0 9), .ref (r0 10), .ref (r0 11), .ref (r0 12), .ref (r0 13), .ref (r0 14), .ref (r0 15), .ref (r0 16), .ref (r0 17), .ref (r0 18), .ref (r0 19), .ref (r0 20), .ref (r0 21), .ref (r0 22), .ref (r0 23), .ref (r0 24), .ref (r0 25), .ref (r0 26), .ref (r0 27), .ref (r0 28), .ref (r0 29), .ref (r0 30), .ref (r0 31), .ref (r0 32), .int (fi0 10), .ref (r0 33)])) :: ((r0 1), .inl (ca 2, 600, .inl (fa0 0))) :: ((r0 2), .inl (ca 0, 48, .inl (fa0 1))) :: ((r0 3), .inl (ca 0, 60, .inl (fa0 2))) :: ((r0 4), .inl (ca 0, 60, .inl (fa0 3))) :: ((r0 5), .inl (ca 0, 60, .inl (fa0 4))) :: ((r0 6), .inl (ca 0, 60, .inl (fa0 5))) :: ((r0 7), .inl (ca 0, 60, .inl (fa0 6))) :: ((r0 8), .inl (ca 0, 60, .inl (fa0 7))) :: ((r0 9), .inl (ca 0, 180, .inl (fa0 8))) :: ((r0 10), .inl (ca 0, 60, .inl (fa0 9))) :: ((r0 11), .inl (ca 0, 180, .inl (fa0 10))) :: ((r0 12), .inl (ca 0, 180, .inl (fa0 11))) :: ((r0 13), .inl (ca 0, 180, .inl (fa0 12))) :: ((r0 14), .inl (ca 0, 180, .inl (fa0 13))) :: ((r0 15), .inl (ca 0, 180, .inl (fa0 14))) :: ((r0 16), .inl (ca 0, 180, .inl (fa0 15))) :: ((r0 17), .inl (ca 0, 180, .inl (fa0 16))) :: ((r0 18), .inl (ca 0, 180, .inl (fa0 17))) :: ((r0 19), .inl (ca 0, 180, .inl (fa0 18))) :: ((r0 20), .inl (ca 0, 180, .inl (fa0 19))) :: ((r0 21), .inl (ca 0, 3, .inl (fa0 20))) :: ((r0 22), .inl (ca 1, 3, .inr (.inl (fb0 0)))) :: ((r0 23), .inl (ca 1, 3, .inr (.inl (fb0 1)))) :: ((r0 24), .inl (ca 3, 3, .inl (fa0 21))) :: ((r0 25), .inl (ca 0, 3, .inl (fa0 22))) :: ((r0 26), .inl (ca 0, 3, .inl (fa0 23))) :: ((r0 27), .inl (ca 0, 810, .inl (fa0 24))) :: ((r0 28), .inl (ca 3, 810, .inl (fa0 25))) :: ((r0 29), .inl (ca 1, 810, .inr (.inl (fb0 2)))) :: ((r0 30), .inl (ca 0, 810, .inl (fa0 26))) :: ((r0 31), .inl (ca 0, 3, .inl (fa0 27))) :: ((r0 32), .inl (ca 0, 60, .inl (fa0 28))) :: ((r0 33), .inl (ca 0, 4, .inl (fa0 29))) :: rest) H := hP
        have hD : va_D A (((r0 0), .inr (9, [.ref (r0 1), .int (fi0 0), .int (fi0 1), .int (fi0 2), .int (fi0 3), .int (fi0 4), .int (fi0 5), .int (fi0 6), .int (fi0 7), .int (fi0 8), .ref (r0 2), .int (fi0 9), .ref (r0 3), .ref (r0 4), .ref (r0 5), .ref (r0 6), .ref (r0 7), .ref (r0 8), .ref (r0 9), .ref (r0 10), .ref (r0 11), .ref (r0 12), .ref (r0 13), .ref (r0 14), .ref (r0 15), .ref (r0 16), .ref (r0 17), .ref (r0 18), .ref (r0 19), .ref (r0 20), .ref (r0 21), .ref (r0 22), .ref (r0 23), .ref (r0 24), .ref (r0 25), .ref (r0 26), .ref (r0 27), .ref (r0 28), .ref (r0 29), .ref (r0 30), .ref (r0 31), .ref (r0 32), .int (fi0 10), .ref (r0 33)])) :: ((r0 1), .inl (ca 2, 600, .inl (fa0 0))) :: ((r0 2), .inl (ca 0, 48, .inl (fa0 1))) :: ((r0 3), .inl (ca 0, 60, .inl (fa0 2))) :: ((r0 4), .inl (ca 0, 60, .inl (fa0 3))) :: ((r0 5), .inl (ca 0, 60, .inl (fa0 4))) :: ((r0 6), .inl (ca 0, 60, .inl (fa0 5))) :: ((r0 7), .inl (ca 0, 60, .inl (fa0 6))) :: ((r0 8), .inl (ca 0, 60, .inl (fa0 7))) :: ((r0 9), .inl (ca 0, 180, .inl (fa0 8))) :: ((r0 10), .inl (ca 0, 60, .inl (fa0 9))) :: ((r0 11), .inl (ca 0, 180, .inl (fa0 10))) :: ((r0 12), .inl (ca 0, 180, .inl (fa0 11))) :: ((r0 13), .inl (ca 0, 180, .inl (fa0 12))) :: ((r0 14), .inl (ca 0, 180, .inl (fa0 13))) :: ((r0 15), .inl (ca 0, 180, .inl (fa0 14))) :: ((r0 16), .inl (ca 0, 180, .inl (fa0 15))) :: ((r0 17), .inl (ca 0, 180, .inl (fa0 16))) :: ((r0 18), .inl (ca 0, 180, .inl (fa0 17))) :: ((r0 19), .inl (ca 0, 180, .inl (fa0 18))) :: ((r0 20), .inl (ca 0, 180, .inl (fa0 19))) :: ((r0 21), .inl (ca 0, 3, .inl (fa0 20))) :: ((r0 22), .inl (ca 1, 3, .inr (.inl (fb0 0)))) :: ((r0 23), .inl (ca 1, 3, .inr (.inl (fb0 1)))) :: ((r0 24), .inl (ca 3, 3, .inl (fa0 21))) :: ((r0 25), .inl (ca 0, 3, .inl (fa0 22))) :: ((r0 26), .inl (ca 0, 3, .inl (fa0 23))) :: ((r0 27), .inl (ca 0, 810, .inl (fa0 24))) :: ((r0 28), .inl (ca 3, 810, .inl (fa0 25))) :: ((r0 29), .inl (ca 1, 810, .inr (.inl (fb0 2)))) :: ((r0 30), .inl (ca 0, 810, .inl (fa0 26))) :: ((r0 31), .inl (ca 0, 3, .inl (fa0 27))) :: ((r0 32), .inl (ca 0, 60, .inl (fa0 28))) :: ((r0 33), .inl (ca 0, 4, .inl (fa0 29))) :: rest) := hD
        rw [← hQ9]
        exact W.iret (v := t14) hx hb hr (fun t ht hW => ⟨⟨t14, (), rfl, trivial, ⟨by rw [ht]; exact hP, hD⟩⟩, hS.F ht⟩) hS.2.2 dX9_sum_42
      ·
        have c10 := z_eq (i := p1.toInt) (j := 7) rfl (by decide) c10
        refine lv_aload_n hx hb dX9_sum_27 rfl (lv_at hl 0 rfl) ?_
        refine va_get (D := D) (ci := 9) (v := .ref (r0 25)) (C := RX9) (T := TX9) (N := 44) hx hb hts inX9 hown hK hP 0 rfl rfl 34 (by decide) lk89 (fun _ h9 => h9) rfl dX9_sum_28 ?_
        refine lv_iconst (v := 0) hx hb dX9_sum_31 (by decide) ?_
        have hi16 : vp_in 0 3 := z_in (i := 0) (by decide) (by omega) (by omega)
        refine va_iald hx hb hK hP 25 0 rfl rfl hi16 dX9_sum_32 ?_
        refine lv_topi (fun t17 et17 => ?_)
        refine lv_goto (tgt := 42) hx hb dX9_sum_33 (by decide) ?_
        rw [← hQ9]
        exact W.iret (v := t17) hx hb hr (fun t ht hW => ⟨⟨t17, (), rfl, trivial, ⟨by rw [ht]; exact hP, hD⟩⟩, hS.F ht⟩) hS.2.2 dX9_sum_42
    ·
      have c9 := z_eq (i := t4.toInt) (j := 0) rfl (by decide) c9
      refine lv_bipush (v := (-9)) hx hb dX9_sum_18 (by decide) ?_
      rw [← hQ9]
      refine lv_topi (fun t18 et18 => ?_)
      have ht18 : t18.toInt = (-9) := by rw [et18]; decide
      exact W.iret (v := t18) hx hb hr (fun t ht hW => ⟨⟨t18, (), rfl, trivial, ⟨by rw [ht]; exact hP, hD⟩⟩, hS.F ht⟩) hS.2.2 dX9_sum_20

set_option maxHeartbeats 8000000 in
set_option maxRecDepth 100000 in
theorem c_X9_isSmall_B (l : Launch) (D : va_G) (ca : Nat → ClassId) (sa : Nat → Nat) (A : Nat → Prop) (rest : va_W) (p0 : Int32) : Met l yX9_isSmall wsX9_isSmall ({ frames := 0, cells := 0, slots := 0, locals := 0 }) (va_Pc [.int p0] (zPre D ca sa A (rest))) (va_Qi (fun (r : Int32) (u : Unit) => ((r.toInt = 1 ∧ 97 ≤ p0.toInt ∧ p0.toInt ≤ 122) ∨ (r.toInt = 0 ∧ (p0.toInt < 97 ∨ 122 < p0.toInt)))) (fun u t => zPost D A (rest) t) A) 0 0 A := by
  refine Met.ofW (cc := cX9_isSmall) (maxL := 1) (ret := (some .boolean)) (by decide) rfl ?_
  intro p e s m args below meth c s₁ B hml hv9
  obtain ⟨rfl, hE, hP, hD⟩ := hv9
  have hx := B.exec
  have hb := B.bytes
  have hr := B.returns
  have hts := atoms_spec (ws := wsX9_isSmall) B.pre
  have hown : s.vm.findClass RX9 = some m.cls := findClass_of_methodNamed B.named
  have hlocks := B.notSynchronized
  have hK := hE.1
  have hF : CallFix p m c cX9_isSmall 1 s _ wsX9_isSmall RX9 := ⟨hx, hb, hml, hown, hts⟩
  have hS : va_S A s.heap s.heap [] := va_S.rf
  generalize hHe : s.heap = H at hP
  have hS : va_S A s.heap H [] := by rw [← hHe]; exact hS
  have hl := lv_entry ([.int p0]) (n := 1) (Nat.le_of_ble_eq_true rfl)
  rw [lg_entry_eq]
  generalize (lg_sl ([.int p0]) ++ List.replicate (1 - (lg_sl ([.int p0])).length) Slot.unset).toArray = ls at hl ⊢
  have hl : lv_has ls 1 [(0, .int p0)] := hl
  generalize hQ9 : MQ below _ _ s 0 0 A = Q9
  refine lv_iload_n hx hb dX9_isSmall_0 rfl (lv_at hl 0 rfl) ?_
  refine lv_bipush (v := 97) hx hb dX9_isSmall_1 (by decide) ?_
  refine lv_icmp_lt (tgt := 16) hx hb dX9_isSmall_3 (by decide) (fun c1 => ?_) (fun c1 => ?_)
  ·
    have c1 := z_lt (i := p0.toInt) (j := 97) rfl (by decide) c1
    refine lv_iconst (v := 0) hx hb dX9_isSmall_16 (by decide) ?_
    rw [← hQ9]
    refine lv_topi (fun t2 et2 => ?_)
    have ht2 : t2.toInt = 0 := by rw [et2]; decide
    have hq3 : (t2.toInt = 1 ∧ 97 ≤ p0.toInt ∧ p0.toInt ≤ 122) ∨ (t2.toInt = 0 ∧ (p0.toInt < 97 ∨ 122 < p0.toInt)) := by omega
    have hz4 : narrow .boolean (.int t2) = .int t2 := z_nz (by constructor <;> omega)
    exact W.zret (v := t2) hx hb hr hz4 (fun t ht hW => ⟨⟨t2, (), rfl, hq3, ⟨by rw [ht]; exact hP, hD⟩⟩, hS.F ht⟩) hS.2.2 dX9_isSmall_17
  ·
    have c1 := z_nlt (i := p0.toInt) (j := 97) rfl (by decide) c1
    refine lv_iload_n hx hb dX9_isSmall_6 rfl (lv_at hl 0 rfl) ?_
    refine lv_bipush (v := 122) hx hb dX9_isSmall_7 (by decide) ?_
    refine lv_icmp_gt (tgt := 16) hx hb dX9_isSmall_9 (by decide) (fun c5 => ?_) (fun c5 => ?_)
    ·
      have c5 := z_lt (i := 122) (j := p0.toInt) (by decide) rfl c5
      refine lv_iconst (v := 0) hx hb dX9_isSmall_16 (by decide) ?_
      rw [← hQ9]
      refine lv_topi (fun t6 et6 => ?_)
      have ht6 : t6.toInt = 0 := by rw [et6]; decide
      have hq7 : (t6.toInt = 1 ∧ 97 ≤ p0.toInt ∧ p0.toInt ≤ 122) ∨ (t6.toInt = 0 ∧ (p0.toInt < 97 ∨ 122 < p0.toInt)) := by omega
      have hz8 : narrow .boolean (.int t6) = .int t6 := z_nz (by constructor <;> omega)
      exact W.zret (v := t6) hx hb hr hz8 (fun t ht hW => ⟨⟨t6, (), rfl, hq7, ⟨by rw [ht]; exact hP, hD⟩⟩, hS.F ht⟩) hS.2.2 dX9_isSmall_17
    ·
      have c5 := z_nlt (i := 122) (j := p0.toInt) (by decide) rfl c5
      refine lv_iconst (v := 1) hx hb dX9_isSmall_12 (by decide) ?_
      refine lv_goto (tgt := 17) hx hb dX9_isSmall_13 (by decide) ?_
      rw [← hQ9]
      refine lv_topi (fun t9 et9 => ?_)
      have ht9 : t9.toInt = 1 := by rw [et9]; decide
      have hq10 : (t9.toInt = 1 ∧ 97 ≤ p0.toInt ∧ p0.toInt ≤ 122) ∨ (t9.toInt = 0 ∧ (p0.toInt < 97 ∨ 122 < p0.toInt)) := by omega
      have hz11 : narrow .boolean (.int t9) = .int t9 := z_nz (by constructor <;> omega)
      exact W.zret (v := t9) hx hb hr hz11 (fun t ht hW => ⟨⟨t9, (), rfl, hq10, ⟨by rw [ht]; exact hP, hD⟩⟩, hS.F ht⟩) hS.2.2 dX9_isSmall_17

set_option maxHeartbeats 8000000 in
set_option maxRecDepth 100000 in
theorem c_X9_isDigit_B (l : Launch) (D : va_G) (ca : Nat → ClassId) (sa : Nat → Nat) (A : Nat → Prop) (rest : va_W) (p0 : Int32) : Met l yX9_isDigit wsX9_isDigit ({ frames := 0, cells := 0, slots := 0, locals := 0 }) (va_Pc [.int p0] (zPre D ca sa A (rest))) (va_Qi (fun (r : Int32) (u : Unit) => ((r.toInt = 1 ∧ 48 ≤ p0.toInt ∧ p0.toInt ≤ 57) ∨ (r.toInt = 0 ∧ (p0.toInt < 48 ∨ 57 < p0.toInt)))) (fun u t => zPost D A (rest) t) A) 0 0 A := by
  refine Met.ofW (cc := cX9_isDigit) (maxL := 1) (ret := (some .boolean)) (by decide) rfl ?_
  intro p e s m args below meth c s₁ B hml hv9
  obtain ⟨rfl, hE, hP, hD⟩ := hv9
  have hx := B.exec
  have hb := B.bytes
  have hr := B.returns
  have hts := atoms_spec (ws := wsX9_isDigit) B.pre
  have hown : s.vm.findClass RX9 = some m.cls := findClass_of_methodNamed B.named
  have hlocks := B.notSynchronized
  have hK := hE.1
  have hF : CallFix p m c cX9_isDigit 1 s _ wsX9_isDigit RX9 := ⟨hx, hb, hml, hown, hts⟩
  have hS : va_S A s.heap s.heap [] := va_S.rf
  generalize hHe : s.heap = H at hP
  have hS : va_S A s.heap H [] := by rw [← hHe]; exact hS
  have hl := lv_entry ([.int p0]) (n := 1) (Nat.le_of_ble_eq_true rfl)
  rw [lg_entry_eq]
  generalize (lg_sl ([.int p0]) ++ List.replicate (1 - (lg_sl ([.int p0])).length) Slot.unset).toArray = ls at hl ⊢
  have hl : lv_has ls 1 [(0, .int p0)] := hl
  generalize hQ9 : MQ below _ _ s 0 0 A = Q9
  refine lv_iload_n hx hb dX9_isDigit_0 rfl (lv_at hl 0 rfl) ?_
  refine lv_bipush (v := 48) hx hb dX9_isDigit_1 (by decide) ?_
  refine lv_icmp_lt (tgt := 16) hx hb dX9_isDigit_3 (by decide) (fun c1 => ?_) (fun c1 => ?_)
  ·
    have c1 := z_lt (i := p0.toInt) (j := 48) rfl (by decide) c1
    refine lv_iconst (v := 0) hx hb dX9_isDigit_16 (by decide) ?_
    rw [← hQ9]
    refine lv_topi (fun t2 et2 => ?_)
    have ht2 : t2.toInt = 0 := by rw [et2]; decide
    have hq3 : (t2.toInt = 1 ∧ 48 ≤ p0.toInt ∧ p0.toInt ≤ 57) ∨ (t2.toInt = 0 ∧ (p0.toInt < 48 ∨ 57 < p0.toInt)) := by omega
    have hz4 : narrow .boolean (.int t2) = .int t2 := z_nz (by constructor <;> omega)
    exact W.zret (v := t2) hx hb hr hz4 (fun t ht hW => ⟨⟨t2, (), rfl, hq3, ⟨by rw [ht]; exact hP, hD⟩⟩, hS.F ht⟩) hS.2.2 dX9_isDigit_17
  ·
    have c1 := z_nlt (i := p0.toInt) (j := 48) rfl (by decide) c1
    refine lv_iload_n hx hb dX9_isDigit_6 rfl (lv_at hl 0 rfl) ?_
    refine lv_bipush (v := 57) hx hb dX9_isDigit_7 (by decide) ?_
    refine lv_icmp_gt (tgt := 16) hx hb dX9_isDigit_9 (by decide) (fun c5 => ?_) (fun c5 => ?_)
    ·
      have c5 := z_lt (i := 57) (j := p0.toInt) (by decide) rfl c5
      refine lv_iconst (v := 0) hx hb dX9_isDigit_16 (by decide) ?_
      rw [← hQ9]
      refine lv_topi (fun t6 et6 => ?_)
      have ht6 : t6.toInt = 0 := by rw [et6]; decide
      have hq7 : (t6.toInt = 1 ∧ 48 ≤ p0.toInt ∧ p0.toInt ≤ 57) ∨ (t6.toInt = 0 ∧ (p0.toInt < 48 ∨ 57 < p0.toInt)) := by omega
      have hz8 : narrow .boolean (.int t6) = .int t6 := z_nz (by constructor <;> omega)
      exact W.zret (v := t6) hx hb hr hz8 (fun t ht hW => ⟨⟨t6, (), rfl, hq7, ⟨by rw [ht]; exact hP, hD⟩⟩, hS.F ht⟩) hS.2.2 dX9_isDigit_17
    ·
      have c5 := z_nlt (i := 57) (j := p0.toInt) (by decide) rfl c5
      refine lv_iconst (v := 1) hx hb dX9_isDigit_12 (by decide) ?_
      refine lv_goto (tgt := 17) hx hb dX9_isDigit_13 (by decide) ?_
      rw [← hQ9]
      refine lv_topi (fun t9 et9 => ?_)
      have ht9 : t9.toInt = 1 := by rw [et9]; decide
      have hq10 : (t9.toInt = 1 ∧ 48 ≤ p0.toInt ∧ p0.toInt ≤ 57) ∨ (t9.toInt = 0 ∧ (p0.toInt < 48 ∨ 57 < p0.toInt)) := by omega
      have hz11 : narrow .boolean (.int t9) = .int t9 := z_nz (by constructor <;> omega)
      exact W.zret (v := t9) hx hb hr hz11 (fun t ht hW => ⟨⟨t9, (), rfl, hq10, ⟨by rw [ht]; exact hP, hD⟩⟩, hS.F ht⟩) hS.2.2 dX9_isDigit_17

