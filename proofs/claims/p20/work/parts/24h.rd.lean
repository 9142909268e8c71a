theorem zWi_s {f : Nat → Int32} {p q : Nat} {word at_ same k : Int} (h : zWi f p q word at_ same k) : same = 1 ∨ same = 0 := by
  obtain ⟨w, n, hw, e1, e2, hn, e3, hm, hv⟩ := h
  rcases hm with ⟨a, _⟩ | ⟨a, _⟩
  · exact Or.inl a
  · exact Or.inr a
theorem z_leastE : ∀ n : Nat, n < 7 → (([2, 1, 0, 1, 0, 0, 1] : List Int32).getD n 0).toInt = zLo (n : Int) := by decide +kernel
theorem z_mostE : ∀ n : Nat, n < 7 → (([100, 50, 50, 9, 50, 9, 50] : List Int32).getD n 0).toInt = zHi (n : Int) := by decide +kernel

set_option maxHeartbeats 8000000 in
set_option maxRecDepth 100000 in
theorem c_X7_wordAt_R (l : Launch) (D : va_G) (ca : Nat → ClassId) (sa : Nat → Nat) (A : Nat → Prop) (rest : va_W) (r0 : Nat → Nat) (fi0 : Nat → Int32) (fl0 : Nat → Int64) (fa0 : Nat → Nat → Int32) (fb0 : Nat → Nat → Int64) (hv0 : Ok_TAPE fi0 fa0) (p1 : Int32) (p2 : Int32) (hpre0 : 0 ≤ p1.toInt ∧ p1.toInt ≤ 599) (hpre1 : p2.toInt ≤ 600) (hpre2 : p1.toInt < p2.toInt) : Met l yX7_wordAt wsX7_wordAt ({ frames := 4, cells := 0, slots := 0, locals := 85 }) (va_Pc [.ref (r0 0), .int p1, .int p2] (zPre D ca sa A (w_TAPE ca r0 fi0 fl0 fa0 fb0 (rest)))) (va_Qi (fun (r : Int32) (u : Unit) => (zWr (fa0 0) p1.toNatClampNeg p2.toNatClampNeg (r).toInt)) (fun u t => zPost D A (w_TAPE ca r0 fi0 fl0 fa0 fb0 (rest)) t) A) 0 0 A := by
  refine Met.ofW (cc := cX7_wordAt) (maxL := 8) (ret := (some .int)) (by decide) rfl ?_
  intro p e s m args below meth c s₁ B hml hv9
  obtain ⟨rfl, hE, hP, hD⟩ := hv9
  have hx := B.exec
  have hb := B.bytes
  have hr := B.returns
  have hts := atoms_spec (ws := wsX7_wordAt) B.pre
  have hown : s.vm.findClass RX7 = some m.cls := findClass_of_methodNamed B.named
  have hlocks := B.notSynchronized
  have hK := hE.1
  have hF : CallFix p m c cX7_wordAt 8 s _ wsX7_wordAt RX7 := ⟨hx, hb, hml, hown, hts⟩
  have hS : va_S A s.heap s.heap [] := va_S.rf
  have lk11 := hts (.fieldLink RX7 11 "BranchPlay$Tape" "bytes" "[B") (by decide +kernel)
  have inX7 : ∀ w ∈ wsX70, w ∈ wsX7_wordAt := by decide +kernel
  obtain ⟨hv0i0, hv0j0⟩ := hv0
  generalize hHe : s.heap = H at hP
  have hS : va_S A s.heap H [] := by rw [← hHe]; exact hS
  have hP : va_P D vwCl (((r0 0), .inr (7, [.ref (r0 1), .int (fi0 0)])) :: ((r0 1), .inl (ca 2, 600, .inl (fa0 0))) :: rest) H := hP
  have hD : va_D A (((r0 0), .inr (7, [.ref (r0 1), .int (fi0 0)])) :: ((r0 1), .inl (ca 2, 600, .inl (fa0 0))) :: rest) := hD
  have hl := lv_entry ([.ref (r0 0), .int p1, .int p2]) (n := 8) (Nat.le_of_ble_eq_true rfl)
  rw [lg_entry_eq]
  generalize (lg_sl ([.ref (r0 0), .int p1, .int p2]) ++ List.replicate (8 - (lg_sl ([.ref (r0 0), .int p1, .int p2])).length) Slot.unset).toArray = ls at hl ⊢
  have hl : lv_has ls 8 [(0, .ref (r0 0)), (1, .int p1), (2, .int p2)] := hl
  generalize hQ9 : MQ below _ _ s 0 0 A = Q9
  refine lv_iconst (v := 0) hx hb dX7_wordAt_0 (by decide) ?_
  refine lv_topi (fun t1 et1 => ?_)
  have ht1 : t1.toInt = 0 := by rw [et1]; decide
  refine lv_istore_n (lv' := [(3, .int t1), (0, .ref (r0 0)), (1, .int p1), (2, .int p2)]) hx hb dX7_wordAt_1 rfl hl (by decide) rfl (fun ls hl => ?_)
  refine lv_iload_n hx hb dX7_wordAt_2 rfl (lv_at hl 2 rfl) ?_
  refine lv_istore (lv' := [(4, .int p1), (3, .int t1), (0, .ref (r0 0)), (1, .int p1), (2, .int p2)]) hx hb dX7_wordAt_3 hl (by decide) rfl (fun ls hl => ?_)
  refine lv_iconst (v := 1) hx hb dX7_wordAt_5 (by decide) ?_
  refine lv_topi (fun t2 et2 => ?_)
  have ht2 : t2.toInt = 1 := by rw [et2]; decide
  refine lv_istore (lv' := [(5, .int t2), (4, .int p1), (3, .int t1), (0, .ref (r0 0)), (1, .int p1), (2, .int p2)]) hx hb dX7_wordAt_6 hl (by decide) rfl (fun ls hl => ?_)
  refine lv_iconst (v := 0) hx hb dX7_wordAt_8 (by decide) ?_
  refine lv_topi (fun t3 et3 => ?_)
  have ht3 : t3.toInt = 0 := by rw [et3]; decide
  refine lv_istore (lv' := [(6, .int t3), (5, .int t2), (4, .int p1), (3, .int t1), (0, .ref (r0 0)), (1, .int p1), (2, .int p2)]) hx hb dX7_wordAt_9 hl (by decide) rfl (fun ls hl => ?_)
  have J11_4 : ∀ (n4 : Nat) (x3_4 : Int32) (x4_4 : Int32) (x5_4 : Int32) (x6_4 : Int32) (H : Heap) (locs : List Loc) (hP : va_P D vwCl (((r0 0), .inr (7, [.ref (r0 1), .int (fi0 0)])) :: ((r0 1), .inl (ca 2, 600, .inl (fa0 0))) :: rest) H) (hD : va_D A (((r0 0), .inr (7, [.ref (r0 1), .int (fi0 0)])) :: ((r0 1), .inl (ca 2, 600, .inl (fa0 0))) :: rest)) (hS : va_S A s.heap H locs) (ls : Array Slot) (hl : lv_has ls 8 [(0, .ref (r0 0)), (1, .int p1), (2, .int p2), (3, .int x3_4), (4, .int x4_4), (5, .int x5_4), (6, .int x6_4)]) (hRV_4 : zWi (fa0 0) p1.toNatClampNeg p2.toNatClampNeg x3_4.toInt x4_4.toInt x5_4.toInt x6_4.toInt) (hf4_0 : 0 ≤ x6_4.toInt ∧ x6_4.toInt ≤ 61 ∧ 0 ≤ x4_4.toInt ∧ x4_4.toInt ≤ 600 + x6_4.toInt ∧ 0 ≤ x3_4.toInt ∧ x3_4.toInt ≤ x6_4.toInt), (62 - x6_4.toInt).toNat < n4 → W p l e (headSpec wsX7_wordAt ({ frames := 4, cells := 0, slots := 0, locals := 85 })).room s m ([.ref (r0 0), .int p1, .int p2] : List Value).toArray below meth c H locs 0 0 Q9 (F0 m 11 ls []) := by
    intro n4
    induction n4 with
    | zero => intro x3_4 x4_4 x5_4 x6_4 H locs hP hD hS ls hl hRV_4 hf4_0 hn9; exact absurd hn9 (Nat.not_lt_zero _)
    | succ n4 ih4 =>
      intro x3_4 x4_4 x5_4 x6_4 H locs hP hD hS ls hl hRV_4 hf4_0 hn9
      refine lv_iload hx hb dX7_wordAt_11 (lv_at hl 6 rfl) ?_
      refine va_ldcS hx hb hown hE.2.2.1.2.2.2.2.1.1.1 dX7_wordAt_13 ?_
      refine z_iR (As := []) (rest := [.int x6_4]) hF (c_J0_length_8abf5 l D ca sa A _) (cwV 0 hts gX7_wordAt_J0_length_8abf5 rfl rfl rfl (by decide +kernel) ⟨Nat.le_of_ble_eq_true rfl, Nat.le_of_ble_eq_true rfl⟩) hE hP hD hS (vk_recv (i := 0) hE.2.2.1.2.2.2.2.1.2 (by decide) hS) rfl hl.1 rfl (Nat.le_of_ble_eq_true rfl) dX7_wordAt_15 ⟨Nat.zero_le _, Nat.zero_le _⟩ (fun t6 u5 H locs hw7 hP hD hS => ?_)
      replace hw7 : (t6.toInt = 61) := hw7
      have hq8 := hw7
      clear hw7
      refine lv_icmp_ge (tgt := 101) hx hb dX7_wordAt_18 (by decide) (fun c9 => ?_) (fun c9 => ?_)
      ·
        have c9 := z_le (i := t6.toInt) (j := x6_4.toInt) rfl rfl c9
        refine lv_iconst (v := (-1)) hx hb dX7_wordAt_101 (by decide) ?_
        rw [← hQ9]
        refine lv_topi (fun t10 et10 => ?_)
        have ht10 : t10.toInt = (-1) := by rw [et10]; decide
        have hq11 : zWr (fa0 0) p1.toNatClampNeg p2.toNatClampNeg (t10).toInt := by rw [show t10.toInt = -1 by omega]; exact zWi_e hRV_4 (by omega)
        exact W.iret (v := t10) hx hb hr (fun t ht hW => ⟨⟨t10, (), rfl, hq11, ⟨by rw [ht]; exact hP, hD⟩⟩, hS.F ht⟩) hS.2.2 dX7_wordAt_102
      ·
        have c9 := z_nle (i := t6.toInt) (j := x6_4.toInt) rfl rfl c9
        have h5 := zWi_s hRV_4
        refine va_ldcS hx hb hown hE.2.2.1.2.2.2.2.1.1.1 dX7_wordAt_21 ?_
        refine lv_iload hx hb dX7_wordAt_23 (lv_at hl 6 rfl) ?_
        have hp12 : 0 ≤ x6_4.toInt ∧ x6_4.toInt ≤ 60 := by omega
        refine z_iR (As := [.int x6_4]) (rest := []) hF (c_J0_charAt_5068e l D ca sa A _ x6_4 hp12) (cwV 1 hts gX7_wordAt_J0_charAt_5068e rfl rfl rfl (by decide +kernel) ⟨Nat.le_of_ble_eq_true rfl, Nat.le_of_ble_eq_true rfl⟩) hE hP hD hS (vk_recv (i := 0) hE.2.2.1.2.2.2.2.1.2 (by decide) hS) rfl hl.1 rfl (Nat.le_of_ble_eq_true rfl) dX7_wordAt_25 ⟨Nat.zero_le _, Nat.zero_le _⟩ (fun t14 u13 H locs hw15 hP hD hS => ?_)
        replace hw15 : (t14 = zWb.getD x6_4.toNatClampNeg 0 ∧ narrow .char (.int t14) = .int t14) := hw15
        have hq16 := hw15
        clear hw15
        have hc0 : t14 = zWb.getD (x6_4.toInt).toNat 0 := by rw [← z_cl x6_4]; exact (by assumption : t14 = zWb.getD x6_4.toNatClampNeg 0 ∧ narrow .char (.int t14) = .int t14).1
        refine lv_istore (lv' := [(7, .int t14), (0, .ref (r0 0)), (1, .int p1), (2, .int p2), (3, .int x3_4), (4, .int x4_4), (5, .int x5_4), (6, .int x6_4)]) hx hb dX7_wordAt_28 hl (by decide) rfl (fun ls hl => ?_)
        refine lv_iload hx hb dX7_wordAt_30 (lv_at hl 0 rfl) ?_
        refine lv_bipush (v := 32) hx hb dX7_wordAt_32 (by decide) ?_
        have J95_17 : ∀ (x3_17 : Int32) (x4_17 : Int32) (x5_17 : Int32) (ls : Array Slot) (hl : lv_has ls 8 [(0, .ref (r0 0)), (1, .int p1), (2, .int p2), (3, .int x3_17), (4, .int x4_17), (5, .int x5_17), (6, .int x6_4)]) (hRU_17 : zWi (fa0 0) p1.toNatClampNeg p2.toNatClampNeg x3_17.toInt x4_17.toInt x5_17.toInt (x6_4.toInt + 1)) (hf17_0 : 0 ≤ x4_17.toInt ∧ x4_17.toInt ≤ 601 + x6_4.toInt ∧ 0 ≤ x3_17.toInt ∧ x3_17.toInt ≤ x6_4.toInt + 1), W p l e (headSpec wsX7_wordAt ({ frames := 4, cells := 0, slots := 0, locals := 85 })).room s m ([.ref (r0 0), .int p1, .int p2] : List Value).toArray below meth c H locs 0 0 Q9 (F0 m 95 ls []) := by
          intro x3_17 x4_17 x5_17 ls hl hRU_17 hf17_0
          obtain ⟨t18, et18⟩ : ∃ y : Int32, y = x6_4 + 1 := ⟨_, rfl⟩
          try have ht18 : t18.toInt = x6_4.toInt + 1 := z_add et18 rfl (by decide) (by omega -splitDisjunctions) (by omega -splitDisjunctions)
          refine lv_iinc (v := t18) (lv' := [(6, .int t18), (0, .ref (r0 0)), (1, .int p1), (2, .int p2), (3, .int x3_17), (4, .int x4_17), (5, .int x5_17)]) hx hb dX7_wordAt_95 hl (k := 6) rfl (by rw [et18]; rfl) (by decide) rfl (fun ls hl => ?_)
          refine lv_goto (tgt := 11) hx hb dX7_wordAt_98 (by decide) ?_
          have hr19 : zWi (fa0 0) p1.toNatClampNeg p2.toNatClampNeg x3_17.toInt x4_17.toInt x5_17.toInt t18.toInt := by rw [show t18.toInt = x6_4.toInt + 1 by omega]; exact hRU_17
          have hj20 : 0 ≤ t18.toInt ∧ t18.toInt ≤ 61 ∧ 0 ≤ x4_17.toInt ∧ x4_17.toInt ≤ 600 + t18.toInt ∧ 0 ≤ x3_17.toInt ∧ x3_17.toInt ≤ t18.toInt := by omega
          have hm21 : (62 - t18.toInt).toNat < n4 := by omega
          exact ih4 x3_17 x4_17 x5_17 t18 _ _ hP hD hS ls (lv_sub hl [1, 2, 3, 4, 5, 6, 0] rfl) hr19 hj20 hm21
        refine lv_icmp_eq (tgt := 73) hx hb dX7_wordAt_34 (by decide) (fun c22 => ?_) (fun c22 => ?_)
        ·
          have c22 := z_eq (i := t14.toInt) (j := 32) rfl (by decide) c22
          refine lv_iload hx hb dX7_wordAt_73 (lv_at hl 6 rfl) ?_
          have J86_23 : ∀ (ls : Array Slot) (hl : lv_has ls 8 [(0, .ref (r0 0)), (1, .int p1), (2, .int p2), (3, .int x3_4), (6, .int x6_4)]) (hRN_23 : ¬ (x5_4.toInt = 1 ∧ x4_4.toInt = (p2.toNatClampNeg : Int))), W p l e (headSpec wsX7_wordAt ({ frames := 4, cells := 0, slots := 0, locals := 85 })).room s m ([.ref (r0 0), .int p1, .int p2] : List Value).toArray below meth c H locs 0 0 Q9 (F0 m 86 ls []) := by
            intro ls hl hRN_23
            obtain ⟨t24, et24⟩ : ∃ y : Int32, y = x3_4 + 1 := ⟨_, rfl⟩
            try have ht24 : t24.toInt = x3_4.toInt + 1 := z_add et24 rfl (by decide) (by omega -splitDisjunctions) (by omega -splitDisjunctions)
            refine lv_iinc (v := t24) (lv' := [(3, .int t24), (0, .ref (r0 0)), (1, .int p1), (2, .int p2), (6, .int x6_4)]) hx hb dX7_wordAt_86 hl (k := 3) rfl (by rw [et24]; rfl) (by decide) rfl (fun ls hl => ?_)
            refine lv_iload_n hx hb dX7_wordAt_89 rfl (lv_at hl 2 rfl) ?_
            refine lv_istore (lv' := [(4, .int p1), (3, .int t24), (0, .ref (r0 0)), (1, .int p1), (2, .int p2), (6, .int x6_4)]) hx hb dX7_wordAt_90 hl (by decide) rfl (fun ls hl => ?_)
            refine lv_iconst (v := 1) hx hb dX7_wordAt_92 (by decide) ?_
            refine lv_topi (fun t25 et25 => ?_)
            have ht25 : t25.toInt = 1 := by rw [et25]; decide
            refine lv_istore (lv' := [(5, .int t25), (4, .int p1), (3, .int t24), (0, .ref (r0 0)), (1, .int p1), (2, .int p2), (6, .int x6_4)]) hx hb dX7_wordAt_93 hl (by decide) rfl (fun ls hl => ?_)
            have hr26 : zWi (fa0 0) p1.toNatClampNeg p2.toNatClampNeg t24.toInt p1.toInt t25.toInt (x6_4.toInt + 1) := by rw [show t24.toInt = x3_4.toInt + 1 by omega, show p1.toInt = (p1.toNatClampNeg : Int) by (rw [z_cl]; omega), show t25.toInt = 1 by omega]; exact zWi_m hRV_4 (by omega) (by rw [← hc0]; omega) hRN_23
            have hj27 : 0 ≤ p1.toInt ∧ p1.toInt ≤ 601 + x6_4.toInt ∧ 0 ≤ t24.toInt ∧ t24.toInt ≤ x6_4.toInt + 1 := by omega
            exact J95_17 t24 p1 t25 ls (lv_sub hl [3, 4, 5, 2, 1, 0, 6] rfl) hr26 hj27
          refine lv_if_eq (tgt := 86) hx hb dX7_wordAt_75 (by decide) (fun c28 => ?_) (fun c28 => ?_)
          ·
            have c28 := z_eq (i := x5_4.toInt) (j := 0) rfl (by decide) c28
            have hr29 : ¬ (x5_4.toInt = 1 ∧ x4_4.toInt = (p2.toNatClampNeg : Int)) := fun q => by (have q1 := q.1); (have q2 := q.2); rw [z_cl] at q2; omega
            exact J86_23 ls (lv_sub hl [1, 2, 3, 4, 7] rfl) hr29
          ·
            have c28 := z_ne (i := x5_4.toInt) (j := 0) rfl (by decide) c28
            refine lv_iload hx hb dX7_wordAt_78 (lv_at hl 5 rfl) ?_
            refine lv_iload_n hx hb dX7_wordAt_80 rfl (lv_at hl 3 rfl) ?_
            refine lv_icmp_ne (tgt := 86) hx hb dX7_wordAt_81 (by decide) (fun c30 => ?_) (fun c30 => ?_)
            ·
              have c30 := z_ne (i := x4_4.toInt) (j := p2.toInt) rfl rfl c30
              have hr31 : ¬ (x5_4.toInt = 1 ∧ x4_4.toInt = (p2.toNatClampNeg : Int)) := fun q => by (have q1 := q.1); (have q2 := q.2); rw [z_cl] at q2; omega
              exact J86_23 ls (lv_sub hl [1, 2, 3, 4, 7] rfl) hr31
            ·
              have c30 := z_eq (i := x4_4.toInt) (j := p2.toInt) rfl rfl c30
              refine lv_iload_n hx hb dX7_wordAt_84 rfl (lv_at hl 4 rfl) ?_
              rw [← hQ9]
              have hq32 : zWr (fa0 0) p1.toNatClampNeg p2.toNatClampNeg (x3_4).toInt := zWi_h hRV_4 (by omega) (by rw [← hc0]; omega) (by omega) (by rw [z_cl]; omega)
              exact W.iret (v := x3_4) hx hb hr (fun t ht hW => ⟨⟨x3_4, (), rfl, hq32, ⟨by rw [ht]; exact hP, hD⟩⟩, hS.F ht⟩) hS.2.2 dX7_wordAt_85
        ·
          have c22 := z_ne (i := t14.toInt) (j := 32) rfl (by decide) c22
          refine lv_iload hx hb dX7_wordAt_37 (lv_at hl 6 rfl) ?_
          have J65_33 : ∀ (k0_33 : Int32) (ls : Array Slot) (hl : lv_has ls 8 [(0, .ref (r0 0)), (1, .int p1), (2, .int p2), (3, .int x3_4), (4, .int x4_4), (6, .int x6_4)]) (hRW_33 : (k0_33.toInt = 1 ∧ x5_4.toInt = 1 ∧ x4_4.toInt < (p2.toNatClampNeg : Int) ∧ fa0 0 (x4_4.toInt).toNat = zWb.getD (x6_4.toInt).toNat 0) ∨ (k0_33.toInt = 0 ∧ ¬ (x5_4.toInt = 1 ∧ x4_4.toInt < (p2.toNatClampNeg : Int) ∧ fa0 0 (x4_4.toInt).toNat = zWb.getD (x6_4.toInt).toNat 0))) (hf33_0 : 0 ≤ k0_33.toInt ∧ k0_33.toInt ≤ 1), W p l e (headSpec wsX7_wordAt ({ frames := 4, cells := 0, slots := 0, locals := 85 })).room s m ([.ref (r0 0), .int p1, .int p2] : List Value).toArray below meth c H locs 0 0 Q9 (F0 m 65 ls [.int k0_33]) := by
            intro k0_33 ls hl hRW_33 hf33_0
            refine lv_istore (lv' := [(5, .int k0_33), (0, .ref (r0 0)), (1, .int p1), (2, .int p2), (3, .int x3_4), (4, .int x4_4), (6, .int x6_4)]) hx hb dX7_wordAt_65 hl (by decide) rfl (fun ls hl => ?_)
            obtain ⟨t34, et34⟩ : ∃ y : Int32, y = x4_4 + 1 := ⟨_, rfl⟩
            try have ht34 : t34.toInt = x4_4.toInt + 1 := z_add et34 rfl (by decide) (by omega -splitDisjunctions) (by omega -splitDisjunctions)
            refine lv_iinc (v := t34) (lv' := [(4, .int t34), (5, .int k0_33), (0, .ref (r0 0)), (1, .int p1), (2, .int p2), (3, .int x3_4), (6, .int x6_4)]) hx hb dX7_wordAt_67 hl (k := 5) rfl (by rw [et34]; rfl) (by decide) rfl (fun ls hl => ?_)
            refine lv_goto (tgt := 95) hx hb dX7_wordAt_70 (by decide) ?_
            have hr35 : zWi (fa0 0) p1.toNatClampNeg p2.toNatClampNeg x3_4.toInt t34.toInt k0_33.toInt (x6_4.toInt + 1) := by rw [show t34.toInt = x4_4.toInt + 1 by omega]; exact zWi_c hRV_4 (by omega) (by rw [← hc0]; omega) hRW_33
            have hj36 : 0 ≤ t34.toInt ∧ t34.toInt ≤ 601 + x6_4.toInt ∧ 0 ≤ x3_4.toInt ∧ x3_4.toInt ≤ x6_4.toInt + 1 := by omega
            exact J95_17 x3_4 t34 k0_33 ls (lv_sub hl [2, 3, 4, 5, 0, 1, 6] rfl) hr35 hj36
          have J64_37 : ∀ (ls : Array Slot) (hl : lv_has ls 8 [(0, .ref (r0 0)), (1, .int p1), (2, .int p2), (3, .int x3_4), (4, .int x4_4), (6, .int x6_4)]) (hRQ_37 : ¬ (x5_4.toInt = 1 ∧ x4_4.toInt < (p2.toNatClampNeg : Int) ∧ fa0 0 (x4_4.toInt).toNat = zWb.getD (x6_4.toInt).toNat 0)), W p l e (headSpec wsX7_wordAt ({ frames := 4, cells := 0, slots := 0, locals := 85 })).room s m ([.ref (r0 0), .int p1, .int p2] : List Value).toArray below meth c H locs 0 0 Q9 (F0 m 64 ls []) := by
            intro ls hl hRQ_37
            refine lv_iconst (v := 0) hx hb dX7_wordAt_64 (by decide) ?_
            refine lv_topi (fun t38 et38 => ?_)
            have ht38 : t38.toInt = 0 := by rw [et38]; decide
            have hr39 : (t38.toInt = 1 ∧ x5_4.toInt = 1 ∧ x4_4.toInt < (p2.toNatClampNeg : Int) ∧ fa0 0 (x4_4.toInt).toNat = zWb.getD (x6_4.toInt).toNat 0) ∨ (t38.toInt = 0 ∧ ¬ (x5_4.toInt = 1 ∧ x4_4.toInt < (p2.toNatClampNeg : Int) ∧ fa0 0 (x4_4.toInt).toNat = zWb.getD (x6_4.toInt).toNat 0)) := Or.inr ⟨by omega, hRQ_37⟩
            have hj40 : 0 ≤ t38.toInt ∧ t38.toInt ≤ 1 := by omega
            exact J65_33 t38 ls (lv_sub hl [0, 1, 2, 3, 4, 5] rfl) hr39 hj40
          refine lv_if_eq (tgt := 64) hx hb dX7_wordAt_39 (by decide) (fun c41 => ?_) (fun c41 => ?_)
          ·
            have c41 := z_eq (i := x5_4.toInt) (j := 0) rfl (by decide) c41
            have hr42 : ¬ (x5_4.toInt = 1 ∧ x4_4.toInt < (p2.toNatClampNeg : Int) ∧ fa0 0 (x4_4.toInt).toNat = zWb.getD (x6_4.toInt).toNat 0) := fun q => by (have q1 := q.1); (have q2 := q.2.1); rw [z_cl] at q2; omega
            exact J64_37 ls (lv_sub hl [1, 2, 3, 4, 5, 7] rfl) hr42
          ·
            have c41 := z_ne (i := x5_4.toInt) (j := 0) rfl (by decide) c41
            refine lv_iload hx hb dX7_wordAt_42 (lv_at hl 5 rfl) ?_
            refine lv_iload_n hx hb dX7_wordAt_44 rfl (lv_at hl 3 rfl) ?_
            refine lv_icmp_ge (tgt := 64) hx hb dX7_wordAt_45 (by decide) (fun c43 => ?_) (fun c43 => ?_)
            ·
              have c43 := z_le (i := p2.toInt) (j := x4_4.toInt) rfl rfl c43
              have hr44 : ¬ (x5_4.toInt = 1 ∧ x4_4.toInt < (p2.toNatClampNeg : Int) ∧ fa0 0 (x4_4.toInt).toNat = zWb.getD (x6_4.toInt).toNat 0) := fun q => by (have q1 := q.1); (have q2 := q.2.1); rw [z_cl] at q2; omega
              exact J64_37 ls (lv_sub hl [1, 2, 3, 4, 5, 7] rfl) hr44
            ·
              have c43 := z_nle (i := p2.toInt) (j := x4_4.toInt) rfl rfl c43
              refine lv_aload_n hx hb dX7_wordAt_48 rfl (lv_at hl 1 rfl) ?_
              refine va_get (D := D) (ci := 7) (v := .ref (r0 1)) (C := RX7) (T := TX7) (N := 2) hx hb hts inX7 hown hK hP 0 rfl rfl 0 (by decide) lk11 (fun _ h9 => h9) rfl dX7_wordAt_49 ?_
              refine lv_iload hx hb dX7_wordAt_52 (lv_at hl 5 rfl) ?_
              have hi45 : vp_in x4_4 600 := z_in (i := x4_4.toInt) rfl (by omega) (by omega)
              refine va_bald hx hb hK hP 1 2 rfl rfl hi45 dX7_wordAt_54 ?_
              refine lv_topi (fun t46 et46 => ?_)
              have ht46v : t46.toInt = ((fa0 0) x4_4.toNatClampNeg).toInt := by rw [et46]
              refine lv_iload hx hb dX7_wordAt_55 (lv_at hl 0 rfl) ?_
              refine lv_icmp_ne (tgt := 64) hx hb dX7_wordAt_57 (by decide) (fun c47 => ?_) (fun c47 => ?_)
              ·
                have c47 := z_ne (i := t46.toInt) (j := t14.toInt) rfl rfl c47
                have hr48 : ¬ (x5_4.toInt = 1 ∧ x4_4.toInt < (p2.toNatClampNeg : Int) ∧ fa0 0 (x4_4.toInt).toNat = zWb.getD (x6_4.toInt).toNat 0) := fun q => absurd (show t46.toInt = t14.toInt from by rw [et46, z_cl, q.2.2, ← hc0]) (by omega)
                exact J64_37 ls (lv_sub hl [1, 2, 3, 4, 5, 7] rfl) hr48
              ·
                have c47 := z_eq (i := t46.toInt) (j := t14.toInt) rfl rfl c47
                refine lv_iconst (v := 1) hx hb dX7_wordAt_60 (by decide) ?_
                refine lv_goto (tgt := 65) hx hb dX7_wordAt_61 (by decide) ?_
                refine lv_topi (fun t49 et49 => ?_)
                have ht49 : t49.toInt = 1 := by rw [et49]; decide
                have hr50 : (t49.toInt = 1 ∧ x5_4.toInt = 1 ∧ x4_4.toInt < (p2.toNatClampNeg : Int) ∧ fa0 0 (x4_4.toInt).toNat = zWb.getD (x6_4.toInt).toNat 0) ∨ (t49.toInt = 0 ∧ ¬ (x5_4.toInt = 1 ∧ x4_4.toInt < (p2.toNatClampNeg : Int) ∧ fa0 0 (x4_4.toInt).toNat = zWb.getD (x6_4.toInt).toNat 0)) := Or.inl ⟨by omega, by omega, by rw [z_cl]; omega, by rw [← z_cl, ← et46, ← hc0]; exact Int32.toInt_inj.mp (by omega)⟩
                have hj51 : 0 ≤ t49.toInt ∧ t49.toInt ≤ 1 := by omega
                exact J65_33 t49 ls (lv_sub hl [1, 2, 3, 4, 5, 7] rfl) hr50 hj51
  have hr52 : zWi (fa0 0) p1.toNatClampNeg p2.toNatClampNeg t1.toInt p1.toInt t2.toInt t3.toInt := by rw [show t1.toInt = 0 by omega, show p1.toInt = (p1.toNatClampNeg : Int) by (rw [z_cl]; omega), show t2.toInt = 1 by omega, show t3.toInt = 0 by omega]; exact zWi_0 _ _ _
  have hj53 : 0 ≤ t3.toInt ∧ t3.toInt ≤ 61 ∧ 0 ≤ p1.toInt ∧ p1.toInt ≤ 600 + t3.toInt ∧ 0 ≤ t1.toInt ∧ t1.toInt ≤ t3.toInt := by omega
  exact J11_4 ((62 - t3.toInt).toNat + 1) t1 p1 t2 t3 _ _ hP hD hS ls (lv_sub hl [4, 5, 6, 3, 2, 1, 0] rfl) hr52 hj53 (Nat.lt_succ_self _)

set_option maxHeartbeats 8000000 in
set_option maxRecDepth 100000 in
theorem c_X7_isSemicolon_R (l : Launch) (D : va_G) (ca : Nat → ClassId) (sa : Nat → Nat) (A : Nat → Prop) (rest : va_W) (r0 : Nat → Nat) (fi0 : Nat → Int32) (fl0 : Nat → Int64) (fa0 : Nat → Nat → Int32) (fb0 : Nat → Nat → Int64) (hv0 : Ok_TAPE fi0 fa0) (p1 : Int32) (hpre0 : 0 ≤ p1.toInt ∧ p1.toInt ≤ 599) : Met l yX7_isSemicolon wsX7_isSemicolon ({ frames := 0, cells := 0, slots := 0, locals := 0 }) (va_Pc [.ref (r0 0), .int p1] (zPre D ca sa A (w_TAPE ca r0 fi0 fl0 fa0 fb0 (rest)))) (va_Qi (fun (r : Int32) (u : Unit) => (0 ≤ r.toInt ∧ r.toInt ≤ 1) ∧ (((r).toInt = 1 ∧ ((fa0 0) p1.toNatClampNeg).toInt = 59) ∨ ((r).toInt = 0 ∧ ¬ ((fa0 0) p1.toNatClampNeg).toInt = 59))) (fun u t => zPost D A (w_TAPE ca r0 fi0 fl0 fa0 fb0 (rest)) t) A) 0 0 A := by
  refine Met.ofW (cc := cX7_isSemicolon) (maxL := 2) (ret := (some .boolean)) (by decide) rfl ?_
  intro p e s m args below meth c s₁ B hml hv9
  obtain ⟨rfl, hE, hP, hD⟩ := hv9
  have hx := B.exec
  have hb := B.bytes
  have hr := B.returns
  have hts := atoms_spec (ws := wsX7_isSemicolon) B.pre
  have hown : s.vm.findClass RX7 = some m.cls := findClass_of_methodNamed B.named
  have hlocks := B.notSynchronized
  have hK := hE.1
  have hF : CallFix p m c cX7_isSemicolon 2 s _ wsX7_isSemicolon RX7 := ⟨hx, hb, hml, hown, hts⟩
  have hS : va_S A s.heap s.heap [] := va_S.rf
  have lk11 := hts (.fieldLink RX7 11 "BranchPlay$Tape" "bytes" "[B") (by decide +kernel)
  have inX7 : ∀ w ∈ wsX70, w ∈ wsX7_isSemicolon := by decide +kernel
  obtain ⟨hv0i0, hv0j0⟩ := hv0
  generalize hHe : s.heap = H at hP
  have hS : va_S A s.heap H [] := by rw [← hHe]; exact hS
  have hP : va_P D vwCl (((r0 0), .inr (7, [.ref (r0 1), .int (fi0 0)])) :: ((r0 1), .inl (ca 2, 600, .inl (fa0 0))) :: rest) H := hP
  have hD : va_D A (((r0 0), .inr (7, [.ref (r0 1), .int (fi0 0)])) :: ((r0 1), .inl (ca 2, 600, .inl (fa0 0))) :: rest) := hD
  have hl := lv_entry ([.ref (r0 0), .int p1]) (n := 2) (Nat.le_of_ble_eq_true rfl)
  rw [lg_entry_eq]
  generalize (lg_sl ([.ref (r0 0), .int p1]) ++ List.replicate (2 - (lg_sl ([.ref (r0 0), .int p1])).length) Slot.unset).toArray = ls at hl ⊢
  have hl : lv_has ls 2 [(0, .ref (r0 0)), (1, .int p1)] := hl
  generalize hQ9 : MQ below _ _ s 0 0 A = Q9
  refine lv_aload_n hx hb dX7_isSemicolon_0 rfl (lv_at hl 0 rfl) ?_
  refine va_get (D := D) (ci := 7) (v := .ref (r0 1)) (C := RX7) (T := TX7) (N := 2) hx hb hts inX7 hown hK hP 0 rfl rfl 0 (by decide) lk11 (fun _ h9 => h9) rfl dX7_isSemicolon_1 ?_
  refine lv_iload_n hx hb dX7_isSemicolon_4 rfl (lv_at hl 1 rfl) ?_
  have hi1 : vp_in p1 600 := z_in (i := p1.toInt) rfl (by omega) (by omega)
  refine va_bald hx hb hK hP 1 2 rfl rfl hi1 dX7_isSemicolon_5 ?_
  refine lv_topi (fun t2 et2 => ?_)
  have ht2v : t2.toInt = ((fa0 0) p1.toNatClampNeg).toInt := by rw [et2]
  refine lv_bipush (v := 59) hx hb dX7_isSemicolon_6 (by decide) ?_
  refine lv_icmp_ne (tgt := 15) hx hb dX7_isSemicolon_8 (by decide) (fun c3 => ?_) (fun c3 => ?_)
  ·
    have c3 := z_ne (i := t2.toInt) (j := 59) rfl (by decide) c3
    refine lv_iconst (v := 0) hx hb dX7_isSemicolon_15 (by decide) ?_
    rw [← hQ9]
    refine lv_topi (fun t4 et4 => ?_)
    have ht4 : t4.toInt = 0 := by rw [et4]; decide
    have hq5 : 0 ≤ t4.toInt ∧ t4.toInt ≤ 1 := by omega
    have hq6 : ((t4).toInt = 1 ∧ ((fa0 0) p1.toNatClampNeg).toInt = 59) ∨ ((t4).toInt = 0 ∧ ¬ ((fa0 0) p1.toNatClampNeg).toInt = 59) := Or.inr ⟨by omega, by omega⟩
    have hz7 : narrow .boolean (.int t4) = .int t4 := z_nz (by constructor <;> omega)
    exact W.zret (v := t4) hx hb hr hz7 (fun t ht hW => ⟨⟨t4, (), rfl, ⟨hq5, hq6⟩, ⟨by rw [ht]; exact hP, hD⟩⟩, hS.F ht⟩) hS.2.2 dX7_isSemicolon_16
  ·
    have c3 := z_eq (i := t2.toInt) (j := 59) rfl (by decide) c3
    refine lv_iconst (v := 1) hx hb dX7_isSemicolon_11 (by decide) ?_
    refine lv_goto (tgt := 16) hx hb dX7_isSemicolon_12 (by decide) ?_
    rw [← hQ9]
    refine lv_topi (fun t8 et8 => ?_)
    have ht8 : t8.toInt = 1 := by rw [et8]; decide
    have hq9 : 0 ≤ t8.toInt ∧ t8.toInt ≤ 1 := by omega
    have hq10 : ((t8).toInt = 1 ∧ ((fa0 0) p1.toNatClampNeg).toInt = 59) ∨ ((t8).toInt = 0 ∧ ¬ ((fa0 0) p1.toNatClampNeg).toInt = 59) := Or.inl ⟨by omega, by omega⟩
    have hz11 : narrow .boolean (.int t8) = .int t8 := z_nz (by constructor <;> omega)
    exact W.zret (v := t8) hx hb hr hz11 (fun t ht hW => ⟨⟨t8, (), rfl, ⟨hq9, hq10⟩, ⟨by rw [ht]; exact hP, hD⟩⟩, hS.F ht⟩) hS.2.2 dX7_isSemicolon_16

set_option maxHeartbeats 8000000 in
set_option maxRecDepth 100000 in
theorem c_X8_isWithinBounds_R (l : Launch) (D : va_G) (ca : Nat → ClassId) (sa : Nat → Nat) (A : Nat → Prop) (rest : va_W) (p0 : Int32) (p1 : Int32) (hpre0 : 0 ≤ p0.toInt ∧ p0.toInt ≤ 6) : Met l yX8_isWithinBounds wsX8_isWithinBounds ({ frames := 0, cells := 0, slots := 0, locals := 0 }) (va_Pc [.int p0, .int p1] (zPre D ca sa A (rest))) (va_Qi (fun (r : Int32) (u : Unit) => (0 ≤ r.toInt ∧ r.toInt ≤ 1) ∧ (((r).toInt = 1 ∧ zIb p0.toInt p1.toInt) ∨ ((r).toInt = 0 ∧ ¬ zIb p0.toInt p1.toInt))) (fun u t => zPost D A (rest) t) A) 0 0 A := by
  refine Met.ofW (cc := cX8_isWithinBounds) (maxL := 2) (ret := (some .boolean)) (by decide) rfl ?_
  intro p e s m args below meth c s₁ B hml hv9
  obtain ⟨rfl, hE, hP, hD⟩ := hv9
  have hx := B.exec
  have hb := B.bytes
  have hr := B.returns
  have hts := atoms_spec (ws := wsX8_isWithinBounds) B.pre
  have hown : s.vm.findClass RX8 = some m.cls := findClass_of_methodNamed B.named
  have hlocks := B.notSynchronized
  have hK := hE.1
  have hF : CallFix p m c cX8_isWithinBounds 2 s _ wsX8_isWithinBounds RX8 := ⟨hx, hb, hml, hown, hts⟩
  have hS : va_S A s.heap s.heap [] := va_S.rf
  have lk194 := hts (.fieldLink RX8 194 "BranchPlay" "LEAST" "[I") (by decide +kernel)
  have lk197 := hts (.fieldLink RX8 197 "BranchPlay" "MOST" "[I") (by decide +kernel)
  generalize hHe : s.heap = H at hP
  have hS : va_S A s.heap H [] := by rw [← hHe]; exact hS
  have hl := lv_entry ([.int p0, .int p1]) (n := 2) (Nat.le_of_ble_eq_true rfl)
  rw [lg_entry_eq]
  generalize (lg_sl ([.int p0, .int p1]) ++ List.replicate (2 - (lg_sl ([.int p0, .int p1])).length) Slot.unset).toArray = ls at hl ⊢
  have hl : lv_has ls 2 [(0, .int p0), (1, .int p1)] := hl
  generalize hQ9 : MQ below _ _ s 0 0 A = Q9
  refine lv_iload_n hx hb dX8_isWithinBounds_0 rfl (lv_at hl 1 rfl) ?_
  refine va_gets hx hb hE.2.2.1.2.1.1 hS hown lk194 (fun _ h9 => h9) dX8_isWithinBounds_1 ?_
  refine lv_iload_n hx hb dX8_isWithinBounds_4 rfl (lv_at hl 0 rfl) ?_
  have hi1 : vp_in p0 7 := z_in (i := p0.toInt) rfl (by omega) (by omega)
  refine va_ti hx hb hE.2.2.1.2.1.2 hS hi1 rfl dX8_isWithinBounds_5 ?_
  refine lv_topi (fun t2 et2 => ?_)
  have ht2 := z_least p0.toNatClampNeg
  rw [← et2] at ht2
  have hlo : t2.toInt = zLo p0.toInt := by rw [et2, z_leastE _ (by rw [z_cl]; omega), z_cl, Int.toNat_of_nonneg (by omega)]
  refine lv_icmp_lt (tgt := 22) hx hb dX8_isWithinBounds_6 (by decide) (fun c3 => ?_) (fun c3 => ?_)
  ·
    have c3 := z_lt (i := p1.toInt) (j := t2.toInt) rfl rfl c3
    refine lv_iconst (v := 0) hx hb dX8_isWithinBounds_22 (by decide) ?_
    rw [← hQ9]
    refine lv_topi (fun t4 et4 => ?_)
    have ht4 : t4.toInt = 0 := by rw [et4]; decide
    have hq5 : 0 ≤ t4.toInt ∧ t4.toInt ≤ 1 := by omega
    have hq6 : ((t4).toInt = 1 ∧ zIb p0.toInt p1.toInt) ∨ ((t4).toInt = 0 ∧ ¬ zIb p0.toInt p1.toInt) := Or.inr ⟨by omega, fun q => by unfold zIb at q; omega⟩
    have hz7 : narrow .boolean (.int t4) = .int t4 := z_nz (by constructor <;> omega)
    exact W.zret (v := t4) hx hb hr hz7 (fun t ht hW => ⟨⟨t4, (), rfl, ⟨hq5, hq6⟩, ⟨by rw [ht]; exact hP, hD⟩⟩, hS.F ht⟩) hS.2.2 dX8_isWithinBounds_23
  ·
    have c3 := z_nlt (i := p1.toInt) (j := t2.toInt) rfl rfl c3
    refine lv_iload_n hx hb dX8_isWithinBounds_9 rfl (lv_at hl 1 rfl) ?_
    refine va_gets hx hb hE.2.2.1.2.2.1.1 hS hown lk197 (fun _ h9 => h9) dX8_isWithinBounds_10 ?_
    refine lv_iload_n hx hb dX8_isWithinBounds_13 rfl (lv_at hl 0 rfl) ?_
    have hi8 : vp_in p0 7 := z_in (i := p0.toInt) rfl (by omega) (by omega)
    refine va_ti hx hb hE.2.2.1.2.2.1.2 hS hi8 rfl dX8_isWithinBounds_14 ?_
    refine lv_topi (fun t9 et9 => ?_)
    have ht9 := z_most p0.toNatClampNeg
    rw [← et9] at ht9
    have hhi : t9.toInt = zHi p0.toInt := by rw [et9, z_mostE _ (by rw [z_cl]; omega), z_cl, Int.toNat_of_nonneg (by omega)]
    refine lv_icmp_gt (tgt := 22) hx hb dX8_isWithinBounds_15 (by decide) (fun c10 => ?_) (fun c10 => ?_)
    ·
      have c10 := z_lt (i := t9.toInt) (j := p1.toInt) rfl rfl c10
      refine lv_iconst (v := 0) hx hb dX8_isWithinBounds_22 (by decide) ?_
      rw [← hQ9]
      refine lv_topi (fun t11 et11 => ?_)
      have ht11 : t11.toInt = 0 := by rw [et11]; decide
      have hq12 : 0 ≤ t11.toInt ∧ t11.toInt ≤ 1 := by omega
      have hq13 : ((t11).toInt = 1 ∧ zIb p0.toInt p1.toInt) ∨ ((t11).toInt = 0 ∧ ¬ zIb p0.toInt p1.toInt) := Or.inr ⟨by omega, fun q => by unfold zIb at q; omega⟩
      have hz14 : narrow .boolean (.int t11) = .int t11 := z_nz (by constructor <;> omega)
      exact W.zret (v := t11) hx hb hr hz14 (fun t ht hW => ⟨⟨t11, (), rfl, ⟨hq12, hq13⟩, ⟨by rw [ht]; exact hP, hD⟩⟩, hS.F ht⟩) hS.2.2 dX8_isWithinBounds_23
    ·
      have c10 := z_nlt (i := t9.toInt) (j := p1.toInt) rfl rfl c10
      refine lv_iconst (v := 1) hx hb dX8_isWithinBounds_18 (by decide) ?_
      refine lv_goto (tgt := 23) hx hb dX8_isWithinBounds_19 (by decide) ?_
      rw [← hQ9]
      refine lv_topi (fun t15 et15 => ?_)
      have ht15 : t15.toInt = 1 := by rw [et15]; decide
      have hq16 : 0 ≤ t15.toInt ∧ t15.toInt ≤ 1 := by omega
      have hq17 : ((t15).toInt = 1 ∧ zIb p0.toInt p1.toInt) ∨ ((t15).toInt = 0 ∧ ¬ zIb p0.toInt p1.toInt) := Or.inl ⟨by omega, by unfold zIb; omega⟩
      have hz18 : narrow .boolean (.int t15) = .int t15 := z_nz (by constructor <;> omega)
      exact W.zret (v := t15) hx hb hr hz18 (fun t ht hW => ⟨⟨t15, (), rfl, ⟨hq16, hq17⟩, ⟨by rw [ht]; exact hP, hD⟩⟩, hS.F ht⟩) hS.2.2 dX8_isWithinBounds_23

set_option maxHeartbeats 8000000 in
set_option maxRecDepth 100000 in
theorem c_X6_blame_R (l : Launch) (D : va_G) (ca : Nat → ClassId) (sa : Nat → Nat) (A : Nat → Prop) (rest : va_W) (r0 : Nat → Nat) (fi0 : Nat → Int32) (fl0 : Nat → Int64) (fa0 : Nat → Nat → Int32) (fb0 : Nat → Nat → Int64) (hv0 : Ok_RDR fi0 fa0) (p1 : Int32) (p2 : Int32) : Met l yX6_blame wsX6_blame ({ frames := 0, cells := 0, slots := 0, locals := 0 }) (va_Pc [.ref (r0 0), .int p1, .int p2] (zPre D ca sa A (w_RDR ca r0 fi0 fl0 fa0 fb0 (rest)))) (va_Qv (fun (u : zS) => Ok_RDR (zx [0, 1] fi0 u.1) (zx [] fa0 u.2.2.1) ∧ ((u.1 0) = p1 ∧ (u.1 1) = p2)) (fun u t => zPost D A (w_RDR ca r0 (zx [0, 1] fi0 u.1) (zx [] fl0 u.2.1) (zx [] fa0 u.2.2.1) (zx [] fb0 u.2.2.2) (rest)) t) A) 0 0 A := by
  refine Met.ofW (cc := cX6_blame) (maxL := 3) (ret := none) (by decide) rfl ?_
  intro p e s m args below meth c s₁ B hml hv9
  obtain ⟨rfl, hE, hP, hD⟩ := hv9
  have hx := B.exec
  have hb := B.bytes
  have hr := B.returns
  have hts := atoms_spec (ws := wsX6_blame) B.pre
  have hown : s.vm.findClass RX6 = some m.cls := findClass_of_methodNamed B.named
  have hlocks := B.notSynchronized
  have hK := hE.1
  have hF : CallFix p m c cX6_blame 3 s _ wsX6_blame RX6 := ⟨hx, hb, hml, hown, hts⟩
  have hS : va_S A s.heap s.heap [] := va_S.rf
  have lk15 := hts (.fieldLink RX6 15 "BranchPlay$Reader" "faultKind" "I") (by decide +kernel)
  have inX6 : ∀ w ∈ wsX60, w ∈ wsX6_blame := by decide +kernel
  have lk19 := hts (.fieldLink RX6 19 "BranchPlay$Reader" "faultPlace" "I") (by decide +kernel)
  obtain ⟨⟨hv0i3, hv0j3⟩, hv0x0⟩ := hv0
  generalize hHe : s.heap = H at hP
  have hS : va_S A s.heap H [] := by rw [← hHe]; exact hS
  have hP : va_P D vwCl (((r0 0), .inr (6, [.ref (r0 1), .int (fi0 0), .int (fi0 1), .int (fi0 2), .int (fi0 3), .int (fi0 4), .int (fi0 5)])) :: ((r0 1), .inl (ca 0, 8, .inl (fa0 0))) :: rest) H := hP
  have hD : va_D A (((r0 0), .inr (6, [.ref (r0 1), .int (fi0 0), .int (fi0 1), .int (fi0 2), .int (fi0 3), .int (fi0 4), .int (fi0 5)])) :: ((r0 1), .inl (ca 0, 8, .inl (fa0 0))) :: rest) := hD
  have hl := lv_entry ([.ref (r0 0), .int p1, .int p2]) (n := 3) (Nat.le_of_ble_eq_true rfl)
  rw [lg_entry_eq]
  generalize (lg_sl ([.ref (r0 0), .int p1, .int p2]) ++ List.replicate (3 - (lg_sl ([.ref (r0 0), .int p1, .int p2])).length) Slot.unset).toArray = ls at hl ⊢
  have hl : lv_has ls 3 [(0, .ref (r0 0)), (1, .int p1), (2, .int p2)] := hl
  generalize hQ9 : MQ below _ _ s 0 0 A = Q9
  refine lv_aload_n hx hb dX6_blame_0 rfl (lv_at hl 0 rfl) ?_
  refine lv_iload_n hx hb dX6_blame_1 rfl (lv_at hl 1 rfl) ?_
  refine va_put (D := D) (ci := 6) (v := .int p1) (ty := .int) (C := RX6) (T := TX6) (N := 7) hx hb hts inX6 tyX6 tyX6_ok nmX6 hown hK hP hD hS 0 rfl rfl 1 (by decide) lk15 (fun _ h9 => h9) rfl (by decide +kernel) rfl rfl (Nat.le_of_ble_eq_true rfl) dX6_blame_2 (fun H locs hP hD hS => ?_)
  have hP : va_P D vwCl (((r0 0), .inr (6, [.ref (r0 1), .int p1, .int (fi0 1), .int (fi0 2), .int (fi0 3), .int (fi0 4), .int (fi0 5)])) :: ((r0 1), .inl (ca 0, 8, .inl (fa0 0))) :: rest) H := hP
  have hD : va_D A (((r0 0), .inr (6, [.ref (r0 1), .int p1, .int (fi0 1), .int (fi0 2), .int (fi0 3), .int (fi0 4), .int (fi0 5)])) :: ((r0 1), .inl (ca 0, 8, .inl (fa0 0))) :: rest) := hD
  refine lv_aload_n hx hb dX6_blame_5 rfl (lv_at hl 0 rfl) ?_
  refine lv_iload_n hx hb dX6_blame_6 rfl (lv_at hl 2 rfl) ?_
  refine va_put (D := D) (ci := 6) (v := .int p2) (ty := .int) (C := RX6) (T := TX6) (N := 7) hx hb hts inX6 tyX6 tyX6_ok nmX6 hown hK hP hD hS 0 rfl rfl 2 (by decide) lk19 (fun _ h9 => h9) rfl (by decide +kernel) rfl rfl (Nat.le_of_ble_eq_true rfl) dX6_blame_7 (fun H locs hP hD hS => ?_)
  have hP : va_P D vwCl (((r0 0), .inr (6, [.ref (r0 1), .int p1, .int p2, .int (fi0 2), .int (fi0 3), .int (fi0 4), .int (fi0 5)])) :: ((r0 1), .inl (ca 0, 8, .inl (fa0 0))) :: rest) H := hP
  have hD : va_D A (((r0 0), .inr (6, [.ref (r0 1), .int p1, .int p2, .int (fi0 2), .int (fi0 3), .int (fi0 4), .int (fi0 5)])) :: ((r0 1), .inl (ca 0, 8, .inl (fa0 0))) :: rest) := hD
  rw [← hQ9]
  have ho1 : (0 ≤ (fi0 3).toInt ∧ (fi0 3).toInt ≤ 7) ∧ ((fi0 2).toInt = 1 → (fi0 3).toInt ≤ 6) := ⟨⟨by omega, by omega⟩, by omega⟩
  have hq2 : p1 = p1 ∧ p2 = p2 := ⟨rfl, rfl⟩
  exact W.vret hx hb hr (fun t ht hW => ⟨⟨((zl 0 [p1, p2, (fi0 2), (fi0 3), (fi0 4), (fi0 5)]), (zl 0 []), (zl (fun _ => 0) [(fa0 0)]), (zl (fun _ => 0) [])), rfl, ⟨ho1, hq2⟩, ⟨by rw [ht]; exact hP, hD⟩⟩, hS.F ht⟩) hS.2.2 dX6_blame_10

set_option maxHeartbeats 8000000 in
set_option maxRecDepth 100000 in
theorem c_X6_takeLineWord_R (l : Launch) (D : va_G) (ca : Nat → ClassId) (sa : Nat → Nat) (A : Nat → Prop) (rest : va_W) (r0 : Nat → Nat) (fi0 : Nat → Int32) (fl0 : Nat → Int64) (fa0 : Nat → Nat → Int32) (fb0 : Nat → Nat → Int64) (hv0 : Ok_RDR fi0 fa0) (p1 : Int32) (p2 : Int32) : Met l yX6_takeLineWord wsX6_takeLineWord ({ frames := 1, cells := 0, slots := 0, locals := 22 }) (va_Pc [.ref (r0 0), .int p1, .int p2] (zPre D ca sa A (w_RDR ca r0 fi0 fl0 fa0 fb0 (rest)))) (va_Qv (fun (u : zS) => Ok_RDR (zx [0, 1, 2, 3, 4] fi0 u.1) (zx [] fa0 u.2.2.1) ∧ ((¬ (0 ≤ p1.toInt ∧ p1.toInt < 8) ∧ ((u.1 0)).toInt = 1 ∧ (u.1 1) = p2 ∧ (u.1 2) = (fi0 2)) ∨ (0 ≤ p1.toInt ∧ p1.toInt < 8 ∧ zTb (fi0 4) p1 ∧ ((u.1 0)).toInt = 3 ∧ (u.1 1) = p2 ∧ (u.1 2) = (fi0 2)) ∨ (0 ≤ p1.toInt ∧ p1.toInt < 8 ∧ ¬ zTb (fi0 4) p1 ∧ (u.1 0) = (fi0 0) ∧ (u.1 1) = (fi0 1) ∧ ((p1.toInt = 7 ∧ ((u.1 2)).toInt = 2) ∨ (p1.toInt < 7 ∧ ((u.1 2)).toInt = 1)) ∧ (u.1 3) = p1 ∧ (u.1 4) = zTs (fi0 4) p1))) (fun u t => zPost D A (w_RDR ca r0 (zx [0, 1, 2, 3, 4] fi0 u.1) (zx [] fl0 u.2.1) (zx [] fa0 u.2.2.1) (zx [] fb0 u.2.2.2) (rest)) t) A) 0 0 A := by
  refine Met.ofW (cc := cX6_takeLineWord) (maxL := 3) (ret := none) (by decide) rfl ?_
  intro p e s m args below meth c s₁ B hml hv9
  obtain ⟨rfl, hE, hP, hD⟩ := hv9
  have hx := B.exec
  have hb := B.bytes
  have hr := B.returns
  have hts := atoms_spec (ws := wsX6_takeLineWord) B.pre
  have hown : s.vm.findClass RX6 = some m.cls := findClass_of_methodNamed B.named
  have hlocks := B.notSynchronized
  have hK := hE.1
  have hF : CallFix p m c cX6_takeLineWord 3 s _ wsX6_takeLineWord RX6 := ⟨hx, hb, hml, hown, hts⟩
  have hS : va_S A s.heap s.heap [] := va_S.rf
  have lk34 := hts (.fieldLink RX6 34 "BranchPlay$Reader" "toldRules" "I") (by decide +kernel)
  have inX6 : ∀ w ∈ wsX60, w ∈ wsX6_takeLineWord := by decide +kernel
  have lk88 := hts (.fieldLink RX6 88 "BranchPlay$Reader" "lineRule" "I") (by decide +kernel)
  have lk31 := hts (.fieldLink RX6 31 "BranchPlay$Reader" "awaited" "I") (by decide +kernel)
  obtain ⟨⟨hv0i3, hv0j3⟩, hv0x0⟩ := hv0
  generalize hHe : s.heap = H at hP
  have hS : va_S A s.heap H [] := by rw [← hHe]; exact hS
  have hP : va_P D vwCl (((r0 0), .inr (6, [.ref (r0 1), .int (fi0 0), .int (fi0 1), .int (fi0 2), .int (fi0 3), .int (fi0 4), .int (fi0 5)])) :: ((r0 1), .inl (ca 0, 8, .inl (fa0 0))) :: rest) H := hP
  have hD : va_D A (((r0 0), .inr (6, [.ref (r0 1), .int (fi0 0), .int (fi0 1), .int (fi0 2), .int (fi0 3), .int (fi0 4), .int (fi0 5)])) :: ((r0 1), .inl (ca 0, 8, .inl (fa0 0))) :: rest) := hD
  have hl := lv_entry ([.ref (r0 0), .int p1, .int p2]) (n := 3) (Nat.le_of_ble_eq_true rfl)
  rw [lg_entry_eq]
  generalize (lg_sl ([.ref (r0 0), .int p1, .int p2]) ++ List.replicate (3 - (lg_sl ([.ref (r0 0), .int p1, .int p2])).length) Slot.unset).toArray = ls at hl ⊢
  have hl : lv_has ls 3 [(0, .ref (r0 0)), (1, .int p1), (2, .int p2)] := hl
  generalize hQ9 : MQ below _ _ s 0 0 A = Q9
  refine lv_iload_n hx hb dX6_takeLineWord_0 rfl (lv_at hl 1 rfl) ?_
  have J10_1 : ∀ (ls : Array Slot) (hl : lv_has ls 3 [(0, .ref (r0 0)), (2, .int p2)]) (hf1_0 : p1.toInt < 0 ∨ 8 ≤ p1.toInt), W p l e (headSpec wsX6_takeLineWord ({ frames := 1, cells := 0, slots := 0, locals := 22 })).room s m ([.ref (r0 0), .int p1, .int p2] : List Value).toArray below meth c H [] 0 0 Q9 (F0 m 10 ls []) := by
    intro ls hl hf1_0
    refine lv_aload_n hx hb dX6_takeLineWord_10 rfl (lv_at hl 0 rfl) ?_
    refine lv_iconst (v := 1) hx hb dX6_takeLineWord_11 (by decide) ?_
    refine lv_iload_n hx hb dX6_takeLineWord_12 rfl (lv_at hl 1 rfl) ?_
    have ho2 : (0 ≤ (fi0 3).toInt ∧ (fi0 3).toInt ≤ 7) ∧ ((fi0 2).toInt = 1 → (fi0 3).toInt ≤ 6) := ⟨⟨by omega, by omega⟩, by omega⟩
    refine z_vV (As := [.int 1, .int p2]) (rest := []) hF (c_X6_blame_R l D ca sa A rest (zl 0 [(r0 0), (r0 1)]) (zl 0 [(fi0 0), (fi0 1), (fi0 2), (fi0 3), (fi0 4), (fi0 5)]) (zl 0 []) (zl (fun _ => 0) [(fa0 0)]) (zl (fun _ => 0) []) ho2 1 p2) (cwV 2 hts gX6_takeLineWord_X6_blame rfl rfl rfl (by decide +kernel) ⟨Nat.le_of_ble_eq_true rfl, Nat.le_of_ble_eq_true rfl⟩) hE hP hD hS 6 0 rfl rfl rfl hl.1 rfl (Nat.le_of_ble_eq_true rfl) dX6_takeLineWord_13 ⟨Nat.zero_le _, Nat.zero_le _⟩ (fun u3 H locs hw5 hP hD hS => ?_)
    obtain ⟨im6, lm6, am6, bm6⟩ := u3
    replace hw5 : ((0 ≤ (fi0 3).toInt ∧ (fi0 3).toInt ≤ 7) ∧ ((fi0 2).toInt = 1 → (fi0 3).toInt ≤ 6)) ∧ ((im6 0) = (1 : Int32) ∧ (im6 1) = p2) := hw5
    obtain ⟨⟨-, -⟩, hq7⟩ := hw5
    have hP : va_P D vwCl (((r0 0), .inr (6, [.ref (r0 1), .int (im6 0), .int (im6 1), .int (fi0 2), .int (fi0 3), .int (fi0 4), .int (fi0 5)])) :: ((r0 1), .inl (ca 0, 8, .inl (fa0 0))) :: rest) H := hP
    have hD : va_D A (((r0 0), .inr (6, [.ref (r0 1), .int (im6 0), .int (im6 1), .int (fi0 2), .int (fi0 3), .int (fi0 4), .int (fi0 5)])) :: ((r0 1), .inl (ca 0, 8, .inl (fa0 0))) :: rest) := hD
    refine lv_goto (tgt := 71) hx hb dX6_takeLineWord_16 (by decide) ?_
    rw [← hQ9]
    have ho8 : (0 ≤ (fi0 3).toInt ∧ (fi0 3).toInt ≤ 7) ∧ ((fi0 2).toInt = 1 → (fi0 3).toInt ≤ 6) := ⟨⟨by omega, by omega⟩, by omega⟩
    have hq9 : (¬ (0 ≤ p1.toInt ∧ p1.toInt < 8) ∧ ((im6 0)).toInt = 1 ∧ (im6 1) = p2 ∧ (fi0 2) = (fi0 2)) ∨ (0 ≤ p1.toInt ∧ p1.toInt < 8 ∧ zTb (fi0 4) p1 ∧ ((im6 0)).toInt = 3 ∧ (im6 1) = p2 ∧ (fi0 2) = (fi0 2)) ∨ (0 ≤ p1.toInt ∧ p1.toInt < 8 ∧ ¬ zTb (fi0 4) p1 ∧ (im6 0) = (fi0 0) ∧ (im6 1) = (fi0 1) ∧ ((p1.toInt = 7 ∧ ((fi0 2)).toInt = 2) ∨ (p1.toInt < 7 ∧ ((fi0 2)).toInt = 1)) ∧ (fi0 3) = p1 ∧ (fi0 4) = zTs (fi0 4) p1) := Or.inl ⟨by omega, by rw [hq7.1]; decide, hq7.2, rfl⟩
    exact W.vret hx hb hr (fun t ht hW => ⟨⟨((zl 0 [(im6 0), (im6 1), (fi0 2), (fi0 3), (fi0 4), (fi0 5)]), (zl 0 []), (zl (fun _ => 0) [(fa0 0)]), (zl (fun _ => 0) [])), rfl, ⟨ho8, hq9⟩, ⟨by rw [ht]; exact hP, hD⟩⟩, hS.F ht⟩) hS.2.2 dX6_takeLineWord_71
  refine lv_if_lt (tgt := 10) hx hb dX6_takeLineWord_1 (by decide) (fun c10 => ?_) (fun c10 => ?_)
  ·
    have c10 := z_lt (i := p1.toInt) (j := 0) rfl (by decide) c10
    have hj11 : p1.toInt < 0 ∨ 8 ≤ p1.toInt := by omega
    exact J10_1 ls (lv_sub hl [0, 2] rfl) hj11
  ·
    have c10 := z_nlt (i := p1.toInt) (j := 0) rfl (by decide) c10
    refine lv_iload_n hx hb dX6_takeLineWord_4 rfl (lv_at hl 1 rfl) ?_
    refine lv_bipush (v := 8) hx hb dX6_takeLineWord_5 (by decide) ?_
    refine lv_icmp_lt (tgt := 19) hx hb dX6_takeLineWord_7 (by decide) (fun c12 => ?_) (fun c12 => ?_)
    ·
      have c12 := z_lt (i := p1.toInt) (j := 8) rfl (by decide) c12
      refine lv_aload_n hx hb dX6_takeLineWord_19 rfl (lv_at hl 0 rfl) ?_
      refine va_get (D := D) (ci := 6) (v := .int (fi0 4)) (C := RX6) (T := TX6) (N := 7) hx hb hts inX6 hown hK hP 0 rfl rfl 5 (by decide) lk34 (fun _ h9 => h9) rfl dX6_takeLineWord_20 ?_
      refine lv_iload_n hx hb dX6_takeLineWord_23 rfl (lv_at hl 1 rfl) ?_
      refine lv_iushr hx hb dX6_takeLineWord_24 rfl ?_
      refine lv_topi (fun t13 et13 => ?_)
      refine lv_iconst (v := 1) hx hb dX6_takeLineWord_25 (by decide) ?_
      refine lv_iand hx hb dX6_takeLineWord_26 ?_
      refine lv_topi (fun t14 et14 => ?_)
      have ht14 := z_and1 et14
      refine lv_if_eq (tgt := 39) hx hb dX6_takeLineWord_27 (by decide) (fun c15 => ?_) (fun c15 => ?_)
      ·
        have c15 := z_eq (i := t14.toInt) (j := 0) rfl (by decide) c15
        refine lv_aload_n hx hb dX6_takeLineWord_39 rfl (lv_at hl 0 rfl) ?_
        refine lv_dup hx hb dX6_takeLineWord_40 rfl ?_
        refine va_get (D := D) (ci := 6) (v := .int (fi0 4)) (C := RX6) (T := TX6) (N := 7) hx hb hts inX6 hown hK hP 0 rfl rfl 5 (by decide) lk34 (fun _ h9 => h9) rfl dX6_takeLineWord_41 ?_
        refine lv_iconst (v := 1) hx hb dX6_takeLineWord_44 (by decide) ?_
        refine lv_iload_n hx hb dX6_takeLineWord_45 rfl (lv_at hl 1 rfl) ?_
        refine lv_ishl hx hb dX6_takeLineWord_46 ?_
        refine lv_topi (fun t16 et16 => ?_)
        refine lv_ior hx hb dX6_takeLineWord_47 ?_
        refine lv_topi (fun t17 et17 => ?_)
        refine va_put (D := D) (ci := 6) (v := .int t17) (ty := .int) (C := RX6) (T := TX6) (N := 7) hx hb hts inX6 tyX6 tyX6_ok nmX6 hown hK hP hD hS 0 rfl rfl 5 (by decide) lk34 (fun _ h9 => h9) rfl (by decide +kernel) rfl rfl (Nat.le_of_ble_eq_true rfl) dX6_takeLineWord_48 (fun H locs hP hD hS => ?_)
        have hP : va_P D vwCl (((r0 0), .inr (6, [.ref (r0 1), .int (fi0 0), .int (fi0 1), .int (fi0 2), .int (fi0 3), .int t17, .int (fi0 5)])) :: ((r0 1), .inl (ca 0, 8, .inl (fa0 0))) :: rest) H := hP
        have hD : va_D A (((r0 0), .inr (6, [.ref (r0 1), .int (fi0 0), .int (fi0 1), .int (fi0 2), .int (fi0 3), .int t17, .int (fi0 5)])) :: ((r0 1), .inl (ca 0, 8, .inl (fa0 0))) :: rest) := hD
        refine lv_aload_n hx hb dX6_takeLineWord_51 rfl (lv_at hl 0 rfl) ?_
        refine lv_iload_n hx hb dX6_takeLineWord_52 rfl (lv_at hl 1 rfl) ?_
        refine va_put (D := D) (ci := 6) (v := .int p1) (ty := .int) (C := RX6) (T := TX6) (N := 7) hx hb hts inX6 tyX6 tyX6_ok nmX6 hown hK hP hD hS 0 rfl rfl 4 (by decide) lk88 (fun _ h9 => h9) rfl (by decide +kernel) rfl rfl (Nat.le_of_ble_eq_true rfl) dX6_takeLineWord_53 (fun H locs hP hD hS => ?_)
        have hP : va_P D vwCl (((r0 0), .inr (6, [.ref (r0 1), .int (fi0 0), .int (fi0 1), .int (fi0 2), .int p1, .int t17, .int (fi0 5)])) :: ((r0 1), .inl (ca 0, 8, .inl (fa0 0))) :: rest) H := hP
        have hD : va_D A (((r0 0), .inr (6, [.ref (r0 1), .int (fi0 0), .int (fi0 1), .int (fi0 2), .int p1, .int t17, .int (fi0 5)])) :: ((r0 1), .inl (ca 0, 8, .inl (fa0 0))) :: rest) := hD
        refine lv_aload_n hx hb dX6_takeLineWord_56 rfl (lv_at hl 0 rfl) ?_
        refine lv_iload_n hx hb dX6_takeLineWord_57 rfl (lv_at hl 1 rfl) ?_
        refine lv_bipush (v := 7) hx hb dX6_takeLineWord_58 (by decide) ?_
        have J68_18 : ∀ (k1_18 : Int32) (ls : Array Slot) (hl : lv_has ls 3 []) (hf18_0 : (k1_18.toInt = 2 ∧ p1.toInt = 7) ∨ (k1_18.toInt = 1 ∧ p1.toInt < 7)), W p l e (headSpec wsX6_takeLineWord ({ frames := 1, cells := 0, slots := 0, locals := 22 })).room s m ([.ref (r0 0), .int p1, .int p2] : List Value).toArray below meth c H locs 0 0 Q9 (F0 m 68 ls [.int k1_18, .ref (r0 0)]) := by
          intro k1_18 ls hl hf18_0
          refine va_put (D := D) (ci := 6) (v := .int k1_18) (ty := .int) (C := RX6) (T := TX6) (N := 7) hx hb hts inX6 tyX6 tyX6_ok nmX6 hown hK hP hD hS 0 rfl rfl 3 (by decide) lk31 (fun _ h9 => h9) rfl (by decide +kernel) rfl rfl (Nat.le_of_ble_eq_true rfl) dX6_takeLineWord_68 (fun H locs hP hD hS => ?_)
          have hP : va_P D vwCl (((r0 0), .inr (6, [.ref (r0 1), .int (fi0 0), .int (fi0 1), .int k1_18, .int p1, .int t17, .int (fi0 5)])) :: ((r0 1), .inl (ca 0, 8, .inl (fa0 0))) :: rest) H := hP
          have hD : va_D A (((r0 0), .inr (6, [.ref (r0 1), .int (fi0 0), .int (fi0 1), .int k1_18, .int p1, .int t17, .int (fi0 5)])) :: ((r0 1), .inl (ca 0, 8, .inl (fa0 0))) :: rest) := hD
          rw [← hQ9]
          have ho19 : (0 ≤ p1.toInt ∧ p1.toInt ≤ 7) ∧ (k1_18.toInt = 1 → p1.toInt ≤ 6) := ⟨⟨by omega, by omega⟩, by omega⟩
          have hq20 : (¬ (0 ≤ p1.toInt ∧ p1.toInt < 8) ∧ ((fi0 0)).toInt = 1 ∧ (fi0 1) = p2 ∧ k1_18 = (fi0 2)) ∨ (0 ≤ p1.toInt ∧ p1.toInt < 8 ∧ zTb (fi0 4) p1 ∧ ((fi0 0)).toInt = 3 ∧ (fi0 1) = p2 ∧ k1_18 = (fi0 2)) ∨ (0 ≤ p1.toInt ∧ p1.toInt < 8 ∧ ¬ zTb (fi0 4) p1 ∧ (fi0 0) = (fi0 0) ∧ (fi0 1) = (fi0 1) ∧ ((p1.toInt = 7 ∧ (k1_18).toInt = 2) ∨ (p1.toInt < 7 ∧ (k1_18).toInt = 1)) ∧ p1 = p1 ∧ t17 = zTs (fi0 4) p1) := Or.inr (Or.inr ⟨by omega, by omega, fun q => q (by rw [← et13, ← et14]; omega), rfl, rfl, by omega, rfl, by unfold zTs; rw [et17, et16]⟩)
          exact W.vret hx hb hr (fun t ht hW => ⟨⟨((zl 0 [(fi0 0), (fi0 1), k1_18, p1, t17, (fi0 5)]), (zl 0 []), (zl (fun _ => 0) [(fa0 0)]), (zl (fun _ => 0) [])), rfl, ⟨ho19, hq20⟩, ⟨by rw [ht]; exact hP, hD⟩⟩, hS.F ht⟩) hS.2.2 dX6_takeLineWord_71
        refine lv_icmp_ne (tgt := 67) hx hb dX6_takeLineWord_60 (by decide) (fun c21 => ?_) (fun c21 => ?_)
        ·
          have c21 := z_ne (i := p1.toInt) (j := 7) rfl (by decide) c21
          refine lv_iconst (v := 1) hx hb dX6_takeLineWord_67 (by decide) ?_
          refine lv_topi (fun t22 et22 => ?_)
          have ht22 : t22.toInt = 1 := by rw [et22]; decide
          have hj23 : (t22.toInt = 2 ∧ p1.toInt = 7) ∨ (t22.toInt = 1 ∧ p1.toInt < 7) := by omega
          exact J68_18 t22 ls (lv_sub hl [] rfl) hj23
        ·
          have c21 := z_eq (i := p1.toInt) (j := 7) rfl (by decide) c21
          refine lv_iconst (v := 2) hx hb dX6_takeLineWord_63 (by decide) ?_
          refine lv_goto (tgt := 68) hx hb dX6_takeLineWord_64 (by decide) ?_
          refine lv_topi (fun t24 et24 => ?_)
          have ht24 : t24.toInt = 2 := by rw [et24]; decide
          have hj25 : (t24.toInt = 2 ∧ p1.toInt = 7) ∨ (t24.toInt = 1 ∧ p1.toInt < 7) := by omega
          exact J68_18 t24 ls (lv_sub hl [] rfl) hj25
      ·
        have c15 := z_ne (i := t14.toInt) (j := 0) rfl (by decide) c15
        refine lv_aload_n hx hb dX6_takeLineWord_30 rfl (lv_at hl 0 rfl) ?_
        refine lv_iconst (v := 3) hx hb dX6_takeLineWord_31 (by decide) ?_
        refine lv_iload_n hx hb dX6_takeLineWord_32 rfl (lv_at hl 2 rfl) ?_
        have ho26 : (0 ≤ (fi0 3).toInt ∧ (fi0 3).toInt ≤ 7) ∧ ((fi0 2).toInt = 1 → (fi0 3).toInt ≤ 6) := ⟨⟨by omega, by omega⟩, by omega⟩
        refine z_vV (As := [.int 3, .int p2]) (rest := []) hF (c_X6_blame_R l D ca sa A rest (zl 0 [(r0 0), (r0 1)]) (zl 0 [(fi0 0), (fi0 1), (fi0 2), (fi0 3), (fi0 4), (fi0 5)]) (zl 0 []) (zl (fun _ => 0) [(fa0 0)]) (zl (fun _ => 0) []) ho26 3 p2) (cwV 2 hts gX6_takeLineWord_X6_blame rfl rfl rfl (by decide +kernel) ⟨Nat.le_of_ble_eq_true rfl, Nat.le_of_ble_eq_true rfl⟩) hE hP hD hS 6 0 rfl rfl rfl hl.1 rfl (Nat.le_of_ble_eq_true rfl) dX6_takeLineWord_33 ⟨Nat.zero_le _, Nat.zero_le _⟩ (fun u27 H locs hw29 hP hD hS => ?_)
        obtain ⟨im30, lm30, am30, bm30⟩ := u27
        replace hw29 : ((0 ≤ (fi0 3).toInt ∧ (fi0 3).toInt ≤ 7) ∧ ((fi0 2).toInt = 1 → (fi0 3).toInt ≤ 6)) ∧ ((im30 0) = (3 : Int32) ∧ (im30 1) = p2) := hw29
        obtain ⟨⟨-, -⟩, hq31⟩ := hw29
        have hP : va_P D vwCl (((r0 0), .inr (6, [.ref (r0 1), .int (im30 0), .int (im30 1), .int (fi0 2), .int (fi0 3), .int (fi0 4), .int (fi0 5)])) :: ((r0 1), .inl (ca 0, 8, .inl (fa0 0))) :: rest) H := hP
        have hD : va_D A (((r0 0), .inr (6, [.ref (r0 1), .int (im30 0), .int (im30 1), .int (fi0 2), .int (fi0 3), .int (fi0 4), .int (fi0 5)])) :: ((r0 1), .inl (ca 0, 8, .inl (fa0 0))) :: rest) := hD
        refine lv_goto (tgt := 71) hx hb dX6_takeLineWord_36 (by decide) ?_
        rw [← hQ9]
        have ho32 : (0 ≤ (fi0 3).toInt ∧ (fi0 3).toInt ≤ 7) ∧ ((fi0 2).toInt = 1 → (fi0 3).toInt ≤ 6) := ⟨⟨by omega, by omega⟩, by omega⟩
        have hq33 : (¬ (0 ≤ p1.toInt ∧ p1.toInt < 8) ∧ ((im30 0)).toInt = 1 ∧ (im30 1) = p2 ∧ (fi0 2) = (fi0 2)) ∨ (0 ≤ p1.toInt ∧ p1.toInt < 8 ∧ zTb (fi0 4) p1 ∧ ((im30 0)).toInt = 3 ∧ (im30 1) = p2 ∧ (fi0 2) = (fi0 2)) ∨ (0 ≤ p1.toInt ∧ p1.toInt < 8 ∧ ¬ zTb (fi0 4) p1 ∧ (im30 0) = (fi0 0) ∧ (im30 1) = (fi0 1) ∧ ((p1.toInt = 7 ∧ ((fi0 2)).toInt = 2) ∨ (p1.toInt < 7 ∧ ((fi0 2)).toInt = 1)) ∧ (fi0 3) = p1 ∧ (fi0 4) = zTs (fi0 4) p1) := Or.inr (Or.inl ⟨by omega, by omega, by unfold zTb; rw [← et13, ← et14]; omega, by rw [hq31.1]; decide, hq31.2, rfl⟩)
        exact W.vret hx hb hr (fun t ht hW => ⟨⟨((zl 0 [(im30 0), (im30 1), (fi0 2), (fi0 3), (fi0 4), (fi0 5)]), (zl 0 []), (zl (fun _ => 0) [(fa0 0)]), (zl (fun _ => 0) [])), rfl, ⟨ho32, hq33⟩, ⟨by rw [ht]; exact hP, hD⟩⟩, hS.F ht⟩) hS.2.2 dX6_takeLineWord_71
    ·
      have c12 := z_nlt (i := p1.toInt) (j := 8) rfl (by decide) c12
      have hj34 : p1.toInt < 0 ∨ 8 ≤ p1.toInt := by omega
      exact J10_1 ls (lv_sub hl [0, 2] rfl) hj34

set_option maxHeartbeats 8000000 in
set_option maxRecDepth 100000 in
theorem c_X6_takeNumber_R (l : Launch) (D : va_G) (ca : Nat → ClassId) (sa : Nat → Nat) (A : Nat → Prop) (rest : va_W) (r0 : Nat → Nat) (fi0 : Nat → Int32) (fl0 : Nat → Int64) (fa0 : Nat → Nat → Int32) (fb0 : Nat → Nat → Int64) (hv0 : Ok_RDR fi0 fa0) (p1 : Int32) (p2 : Int32) (hpre0 : (fi0 2).toInt = 1) : Met l yX6_takeNumber wsX6_takeNumber ({ frames := 1, cells := 0, slots := 0, locals := 22 }) (va_Pc [.ref (r0 0), .int p1, .int p2] (zPre D ca sa A (w_RDR ca r0 fi0 fl0 fa0 fb0 (rest)))) (va_Qv (fun (u : zS) => Ok_RDR (zx [0, 1, 2] fi0 u.1) (zx [0] fa0 u.2.2.1) ∧ ((p1.toInt = -1 ∧ ((u.1 0)).toInt = 1 ∧ (u.1 1) = p2 ∧ (u.1 2) = (fi0 2)) ∨ (¬ p1.toInt = -1 ∧ ¬ zIb ((fi0 3)).toInt p1.toInt ∧ ((u.1 0)).toInt = 2 ∧ (u.1 1) = p2 ∧ (u.1 2) = (fi0 2)) ∨ (¬ p1.toInt = -1 ∧ zIb ((fi0 3)).toInt p1.toInt ∧ (u.1 0) = (fi0 0) ∧ (u.1 1) = (fi0 1) ∧ ((u.1 2)).toInt = 3 ∧ (u.2.2.1 0) = upd (fa0 0) ((fi0 3)).toNatClampNeg p1))) (fun u t => zPost D A (w_RDR ca r0 (zx [0, 1, 2] fi0 u.1) (zx [] fl0 u.2.1) (zx [0] fa0 u.2.2.1) (zx [] fb0 u.2.2.2) (rest)) t) A) 0 0 A := by
  refine Met.ofW (cc := cX6_takeNumber) (maxL := 3) (ret := none) (by decide) rfl ?_
  intro p e s m args below meth c s₁ B hml hv9
  obtain ⟨rfl, hE, hP, hD⟩ := hv9
  have hx := B.exec
  have hb := B.bytes
  have hr := B.returns
  have hts := atoms_spec (ws := wsX6_takeNumber) B.pre
  have hown : s.vm.findClass RX6 = some m.cls := findClass_of_methodNamed B.named
  have hlocks := B.notSynchronized
  have hK := hE.1
  have hF : CallFix p m c cX6_takeNumber 3 s _ wsX6_takeNumber RX6 := ⟨hx, hb, hml, hown, hts⟩
  have hS : va_S A s.heap s.heap [] := va_S.rf
  have lk88 := hts (.fieldLink RX6 88 "BranchPlay$Reader" "lineRule" "I") (by decide +kernel)
  have inX6 : ∀ w ∈ wsX60, w ∈ wsX6_takeNumber := by decide +kernel
  have liX8 := hts (.initialized RX8) (by decide +kernel)
  have lsX8_isWithinBounds := hts (.static yX8_isWithinBounds) (by decide +kernel)
  have lk9 := hts (.fieldLink RX6 9 "BranchPlay$Reader" "rules" "[I") (by decide +kernel)
  have lk31 := hts (.fieldLink RX6 31 "BranchPlay$Reader" "awaited" "I") (by decide +kernel)
  obtain ⟨⟨hv0i3, hv0j3⟩, hv0x0⟩ := hv0
  generalize hHe : s.heap = H at hP
  have hS : va_S A s.heap H [] := by rw [← hHe]; exact hS
  have hP : va_P D vwCl (((r0 0), .inr (6, [.ref (r0 1), .int (fi0 0), .int (fi0 1), .int (fi0 2), .int (fi0 3), .int (fi0 4), .int (fi0 5)])) :: ((r0 1), .inl (ca 0, 8, .inl (fa0 0))) :: rest) H := hP
  have hD : va_D A (((r0 0), .inr (6, [.ref (r0 1), .int (fi0 0), .int (fi0 1), .int (fi0 2), .int (fi0 3), .int (fi0 4), .int (fi0 5)])) :: ((r0 1), .inl (ca 0, 8, .inl (fa0 0))) :: rest) := hD
  have hl := lv_entry ([.ref (r0 0), .int p1, .int p2]) (n := 3) (Nat.le_of_ble_eq_true rfl)
  rw [lg_entry_eq]
  generalize (lg_sl ([.ref (r0 0), .int p1, .int p2]) ++ List.replicate (3 - (lg_sl ([.ref (r0 0), .int p1, .int p2])).length) Slot.unset).toArray = ls at hl ⊢
  have hl : lv_has ls 3 [(0, .ref (r0 0)), (1, .int p1), (2, .int p2)] := hl
  generalize hQ9 : MQ below _ _ s 0 0 A = Q9
  refine lv_iload_n hx hb dX6_takeNumber_0 rfl (lv_at hl 1 rfl) ?_
  refine lv_iconst (v := (-1)) hx hb dX6_takeNumber_1 (by decide) ?_
  refine lv_icmp_ne (tgt := 14) hx hb dX6_takeNumber_2 (by decide) (fun c1 => ?_) (fun c1 => ?_)
  ·
    have c1 := z_ne (i := p1.toInt) (j := (-1)) rfl (by decide) c1
    refine lv_aload_n hx hb dX6_takeNumber_14 rfl (lv_at hl 0 rfl) ?_
    refine va_get (D := D) (ci := 6) (v := .int (fi0 3)) (C := RX6) (T := TX6) (N := 7) hx hb hts inX6 hown hK hP 0 rfl rfl 4 (by decide) lk88 (fun _ h9 => h9) rfl dX6_takeNumber_15 ?_
    refine lv_iload_n hx hb dX6_takeNumber_18 rfl (lv_at hl 1 rfl) ?_
    have hp2 : 0 ≤ (fi0 3).toInt ∧ (fi0 3).toInt ≤ 6 := by omega
    refine z_iN (As := [.int (fi0 3), .int p1]) (rest := []) (host := RX8) hF (c_X8_isWithinBounds_R l D ca sa A _ (fi0 3) p1 hp2) ⟨va_cnB 2 hts ggX6_takeNumber_X8_isWithinBounds rfl rfl rfl (hE.2.1 _ (by decide +kernel)) liX8 (by decide +kernel) ⟨Nat.le_of_ble_eq_true rfl, Nat.le_of_ble_eq_true rfl⟩, lsX8_isWithinBounds, trivial⟩ hE hP hD hS rfl hl.1 rfl (Nat.le_of_ble_eq_true rfl) dX6_takeNumber_19 ⟨Nat.zero_le _, Nat.zero_le _⟩ (fun t4 u3 H locs hw5 hP hD hS => ?_)
    replace hw5 : (0 ≤ t4.toInt ∧ t4.toInt ≤ 1) ∧ (((t4).toInt = 1 ∧ zIb (fi0 3).toInt p1.toInt) ∨ ((t4).toInt = 0 ∧ ¬ zIb (fi0 3).toInt p1.toInt)) := hw5
    obtain ⟨hq6, hq7⟩ := hw5
    refine lv_if_ne (tgt := 34) hx hb dX6_takeNumber_22 (by decide) (fun c8 => ?_) (fun c8 => ?_)
    ·
      have c8 := z_ne (i := t4.toInt) (j := 0) rfl (by decide) c8
      refine lv_aload_n hx hb dX6_takeNumber_34 rfl (lv_at hl 0 rfl) ?_
      refine va_get (D := D) (ci := 6) (v := .ref (r0 1)) (C := RX6) (T := TX6) (N := 7) hx hb hts inX6 hown hK hP 0 rfl rfl 0 (by decide) lk9 (fun _ h9 => h9) rfl dX6_takeNumber_35 ?_
      refine lv_aload_n hx hb dX6_takeNumber_38 rfl (lv_at hl 0 rfl) ?_
      refine va_get (D := D) (ci := 6) (v := .int (fi0 3)) (C := RX6) (T := TX6) (N := 7) hx hb hts inX6 hown hK hP 0 rfl rfl 4 (by decide) lk88 (fun _ h9 => h9) rfl dX6_takeNumber_39 ?_
      refine lv_iload_n hx hb dX6_takeNumber_42 rfl (lv_at hl 1 rfl) ?_
      have hi9 : vp_in (fi0 3) 8 := z_in (i := (fi0 3).toInt) rfl (by omega) (by omega)
      refine va_iast hx hb hK hP hD hS 1 0 rfl rfl hi9 dX6_takeNumber_43 (fun H locs hP hD hS => ?_)
      generalize eg10 : upd (fa0 0) (fi0 3).toNatClampNeg p1 = g10 at hP hD
      have hP : va_P D vwCl (((r0 0), .inr (6, [.ref (r0 1), .int (fi0 0), .int (fi0 1), .int (fi0 2), .int (fi0 3), .int (fi0 4), .int (fi0 5)])) :: ((r0 1), .inl (ca 0, 8, .inl g10)) :: rest) H := hP
      have hD : va_D A (((r0 0), .inr (6, [.ref (r0 1), .int (fi0 0), .int (fi0 1), .int (fi0 2), .int (fi0 3), .int (fi0 4), .int (fi0 5)])) :: ((r0 1), .inl (ca 0, 8, .inl g10)) :: rest) := hD
      refine lv_aload_n hx hb dX6_takeNumber_44 rfl (lv_at hl 0 rfl) ?_
      refine lv_iconst (v := 3) hx hb dX6_takeNumber_45 (by decide) ?_
      refine lv_topi (fun t11 et11 => ?_)
      have ht11 : t11.toInt = 3 := by rw [et11]; decide
      refine va_put (D := D) (ci := 6) (v := .int t11) (ty := .int) (C := RX6) (T := TX6) (N := 7) hx hb hts inX6 tyX6 tyX6_ok nmX6 hown hK hP hD hS 0 rfl rfl 3 (by decide) lk31 (fun _ h9 => h9) rfl (by decide +kernel) rfl rfl (Nat.le_of_ble_eq_true rfl) dX6_takeNumber_46 (fun H locs hP hD hS => ?_)
      have hP : va_P D vwCl (((r0 0), .inr (6, [.ref (r0 1), .int (fi0 0), .int (fi0 1), .int t11, .int (fi0 3), .int (fi0 4), .int (fi0 5)])) :: ((r0 1), .inl (ca 0, 8, .inl g10)) :: rest) H := hP
      have hD : va_D A (((r0 0), .inr (6, [.ref (r0 1), .int (fi0 0), .int (fi0 1), .int t11, .int (fi0 3), .int (fi0 4), .int (fi0 5)])) :: ((r0 1), .inl (ca 0, 8, .inl g10)) :: rest) := hD
      rw [← hQ9]
      have ho12 : (0 ≤ (fi0 3).toInt ∧ (fi0 3).toInt ≤ 7) ∧ (t11.toInt = 1 → (fi0 3).toInt ≤ 6) := ⟨⟨by omega, by omega⟩, by omega⟩
      have hq13 : (p1.toInt = -1 ∧ ((fi0 0)).toInt = 1 ∧ (fi0 1) = p2 ∧ t11 = (fi0 2)) ∨ (¬ p1.toInt = -1 ∧ ¬ zIb ((fi0 3)).toInt p1.toInt ∧ ((fi0 0)).toInt = 2 ∧ (fi0 1) = p2 ∧ t11 = (fi0 2)) ∨ (¬ p1.toInt = -1 ∧ zIb ((fi0 3)).toInt p1.toInt ∧ (fi0 0) = (fi0 0) ∧ (fi0 1) = (fi0 1) ∧ (t11).toInt = 3 ∧ g10 = upd (fa0 0) ((fi0 3)).toNatClampNeg p1) := Or.inr (Or.inr ⟨by omega, (hq7.elim (fun q => q.2) (fun q => absurd q.1 (by omega))), rfl, rfl, by omega, eg10.symm⟩)
      exact W.vret hx hb hr (fun t ht hW => ⟨⟨((zl 0 [(fi0 0), (fi0 1), t11, (fi0 3), (fi0 4), (fi0 5)]), (zl 0 []), (zl (fun _ => 0) [g10]), (zl (fun _ => 0) [])), rfl, ⟨ho12, hq13⟩, ⟨by rw [ht]; exact hP, hD⟩⟩, hS.F ht⟩) hS.2.2 dX6_takeNumber_49
    ·
      have c8 := z_eq (i := t4.toInt) (j := 0) rfl (by decide) c8
      refine lv_aload_n hx hb dX6_takeNumber_25 rfl (lv_at hl 0 rfl) ?_
      refine lv_iconst (v := 2) hx hb dX6_takeNumber_26 (by decide) ?_
      refine lv_iload_n hx hb dX6_takeNumber_27 rfl (lv_at hl 2 rfl) ?_
      have ho14 : (0 ≤ (fi0 3).toInt ∧ (fi0 3).toInt ≤ 7) ∧ ((fi0 2).toInt = 1 → (fi0 3).toInt ≤ 6) := ⟨⟨by omega, by omega⟩, by omega⟩
      refine z_vV (As := [.int 2, .int p2]) (rest := []) hF (c_X6_blame_R l D ca sa A rest (zl 0 [(r0 0), (r0 1)]) (zl 0 [(fi0 0), (fi0 1), (fi0 2), (fi0 3), (fi0 4), (fi0 5)]) (zl 0 []) (zl (fun _ => 0) [(fa0 0)]) (zl (fun _ => 0) []) ho14 2 p2) (cwV 2 hts gX6_takeNumber_X6_blame rfl rfl rfl (by decide +kernel) ⟨Nat.le_of_ble_eq_true rfl, Nat.le_of_ble_eq_true rfl⟩) hE hP hD hS 6 0 rfl rfl rfl hl.1 rfl (Nat.le_of_ble_eq_true rfl) dX6_takeNumber_28 ⟨Nat.zero_le _, Nat.zero_le _⟩ (fun u15 H locs hw17 hP hD hS => ?_)
      obtain ⟨im18, lm18, am18, bm18⟩ := u15
      replace hw17 : ((0 ≤ (fi0 3).toInt ∧ (fi0 3).toInt ≤ 7) ∧ ((fi0 2).toInt = 1 → (fi0 3).toInt ≤ 6)) ∧ ((im18 0) = (2 : Int32) ∧ (im18 1) = p2) := hw17
      obtain ⟨⟨-, -⟩, hq19⟩ := hw17
      have hP : va_P D vwCl (((r0 0), .inr (6, [.ref (r0 1), .int (im18 0), .int (im18 1), .int (fi0 2), .int (fi0 3), .int (fi0 4), .int (fi0 5)])) :: ((r0 1), .inl (ca 0, 8, .inl (fa0 0))) :: rest) H := hP
      have hD : va_D A (((r0 0), .inr (6, [.ref (r0 1), .int (im18 0), .int (im18 1), .int (fi0 2), .int (fi0 3), .int (fi0 4), .int (fi0 5)])) :: ((r0 1), .inl (ca 0, 8, .inl (fa0 0))) :: rest) := hD
      refine lv_goto (tgt := 49) hx hb dX6_takeNumber_31 (by decide) ?_
      rw [← hQ9]
      have ho20 : (0 ≤ (fi0 3).toInt ∧ (fi0 3).toInt ≤ 7) ∧ ((fi0 2).toInt = 1 → (fi0 3).toInt ≤ 6) := ⟨⟨by omega, by omega⟩, by omega⟩
      have hq21 : (p1.toInt = -1 ∧ ((im18 0)).toInt = 1 ∧ (im18 1) = p2 ∧ (fi0 2) = (fi0 2)) ∨ (¬ p1.toInt = -1 ∧ ¬ zIb ((fi0 3)).toInt p1.toInt ∧ ((im18 0)).toInt = 2 ∧ (im18 1) = p2 ∧ (fi0 2) = (fi0 2)) ∨ (¬ p1.toInt = -1 ∧ zIb ((fi0 3)).toInt p1.toInt ∧ (im18 0) = (fi0 0) ∧ (im18 1) = (fi0 1) ∧ ((fi0 2)).toInt = 3 ∧ (fa0 0) = upd (fa0 0) ((fi0 3)).toNatClampNeg p1) := Or.inr (Or.inl ⟨by omega, (hq7.elim (fun q => absurd q.1 (by omega)) (fun q => q.2)), by rw [hq19.1]; decide, hq19.2, rfl⟩)
      exact W.vret hx hb hr (fun t ht hW => ⟨⟨((zl 0 [(im18 0), (im18 1), (fi0 2), (fi0 3), (fi0 4), (fi0 5)]), (zl 0 []), (zl (fun _ => 0) [(fa0 0)]), (zl (fun _ => 0) [])), rfl, ⟨ho20, hq21⟩, ⟨by rw [ht]; exact hP, hD⟩⟩, hS.F ht⟩) hS.2.2 dX6_takeNumber_49
  ·
    have c1 := z_eq (i := p1.toInt) (j := (-1)) rfl (by decide) c1
    refine lv_aload_n hx hb dX6_takeNumber_5 rfl (lv_at hl 0 rfl) ?_
    refine lv_iconst (v := 1) hx hb dX6_takeNumber_6 (by decide) ?_
    refine lv_iload_n hx hb dX6_takeNumber_7 rfl (lv_at hl 2 rfl) ?_
    have ho22 : (0 ≤ (fi0 3).toInt ∧ (fi0 3).toInt ≤ 7) ∧ ((fi0 2).toInt = 1 → (fi0 3).toInt ≤ 6) := ⟨⟨by omega, by omega⟩, by omega⟩
    refine z_vV (As := [.int 1, .int p2]) (rest := []) hF (c_X6_blame_R l D ca sa A rest (zl 0 [(r0 0), (r0 1)]) (zl 0 [(fi0 0), (fi0 1), (fi0 2), (fi0 3), (fi0 4), (fi0 5)]) (zl 0 []) (zl (fun _ => 0) [(fa0 0)]) (zl (fun _ => 0) []) ho22 1 p2) (cwV 2 hts gX6_takeNumber_X6_blame rfl rfl rfl (by decide +kernel) ⟨Nat.le_of_ble_eq_true rfl, Nat.le_of_ble_eq_true rfl⟩) hE hP hD hS 6 0 rfl rfl rfl hl.1 rfl (Nat.le_of_ble_eq_true rfl) dX6_takeNumber_8 ⟨Nat.zero_le _, Nat.zero_le _⟩ (fun u23 H locs hw25 hP hD hS => ?_)
    obtain ⟨im26, lm26, am26, bm26⟩ := u23
    replace hw25 : ((0 ≤ (fi0 3).toInt ∧ (fi0 3).toInt ≤ 7) ∧ ((fi0 2).toInt = 1 → (fi0 3).toInt ≤ 6)) ∧ ((im26 0) = (1 : Int32) ∧ (im26 1) = p2) := hw25
    obtain ⟨⟨-, -⟩, hq27⟩ := hw25
    have hP : va_P D vwCl (((r0 0), .inr (6, [.ref (r0 1), .int (im26 0), .int (im26 1), .int (fi0 2), .int (fi0 3), .int (fi0 4), .int (fi0 5)])) :: ((r0 1), .inl (ca 0, 8, .inl (fa0 0))) :: rest) H := hP
    have hD : va_D A (((r0 0), .inr (6, [.ref (r0 1), .int (im26 0), .int (im26 1), .int (fi0 2), .int (fi0 3), .int (fi0 4), .int (fi0 5)])) :: ((r0 1), .inl (ca 0, 8, .inl (fa0 0))) :: rest) := hD
    refine lv_goto (tgt := 49) hx hb dX6_takeNumber_11 (by decide) ?_
    rw [← hQ9]
    have ho28 : (0 ≤ (fi0 3).toInt ∧ (fi0 3).toInt ≤ 7) ∧ ((fi0 2).toInt = 1 → (fi0 3).toInt ≤ 6) := ⟨⟨by omega, by omega⟩, by omega⟩
    have hq29 : (p1.toInt = -1 ∧ ((im26 0)).toInt = 1 ∧ (im26 1) = p2 ∧ (fi0 2) = (fi0 2)) ∨ (¬ p1.toInt = -1 ∧ ¬ zIb ((fi0 3)).toInt p1.toInt ∧ ((im26 0)).toInt = 2 ∧ (im26 1) = p2 ∧ (fi0 2) = (fi0 2)) ∨ (¬ p1.toInt = -1 ∧ zIb ((fi0 3)).toInt p1.toInt ∧ (im26 0) = (fi0 0) ∧ (im26 1) = (fi0 1) ∧ ((fi0 2)).toInt = 3 ∧ (fa0 0) = upd (fa0 0) ((fi0 3)).toNatClampNeg p1) := Or.inl ⟨by omega, by rw [hq27.1]; decide, hq27.2, rfl⟩
    exact W.vret hx hb hr (fun t ht hW => ⟨⟨((zl 0 [(im26 0), (im26 1), (fi0 2), (fi0 3), (fi0 4), (fi0 5)]), (zl 0 []), (zl (fun _ => 0) [(fa0 0)]), (zl (fun _ => 0) [])), rfl, ⟨ho28, hq29⟩, ⟨by rw [ht]; exact hP, hD⟩⟩, hS.F ht⟩) hS.2.2 dX6_takeNumber_49

set_option maxHeartbeats 8000000 in
set_option maxRecDepth 100000 in
theorem c_X6_takePick_R (l : Launch) (D : va_G) (ca : Nat → ClassId) (sa : Nat → Nat) (A : Nat → Prop) (rest : va_W) (r0 : Nat → Nat) (fi0 : Nat → Int32) (fl0 : Nat → Int64) (fa0 : Nat → Nat → Int32) (fb0 : Nat → Nat → Int64) (hv0 : Ok_RDR fi0 fa0) (p1 : Int32) (p2 : Int32) (hpre0 : p1.toInt ≤ 10) : Met l yX6_takePick wsX6_takePick ({ frames := 1, cells := 0, slots := 0, locals := 22 }) (va_Pc [.ref (r0 0), .int p1, .int p2] (zPre D ca sa A (w_RDR ca r0 fi0 fl0 fa0 fb0 (rest)))) (va_Qv (fun (u : zS) => Ok_RDR (zx [0, 1, 2] fi0 u.1) (zx [0] fa0 u.2.2.1) ∧ ((p1.toInt < 8 ∧ ((u.1 0)).toInt = 1 ∧ (u.1 1) = p2 ∧ (u.1 2) = (fi0 2)) ∨ (8 ≤ p1.toInt ∧ (u.1 0) = (fi0 0) ∧ (u.1 1) = (fi0 1) ∧ ((u.1 2)).toInt = 3 ∧ ∃ x : Int32, x.toInt = p1.toInt - 8 ∧ (u.2.2.1 0) = upd (fa0 0) 7 x))) (fun u t => zPost D A (w_RDR ca r0 (zx [0, 1, 2] fi0 u.1) (zx [] fl0 u.2.1) (zx [0] fa0 u.2.2.1) (zx [] fb0 u.2.2.2) (rest)) t) A) 0 0 A := by
  refine Met.ofW (cc := cX6_takePick) (maxL := 3) (ret := none) (by decide) rfl ?_
  intro p e s m args below meth c s₁ B hml hv9
  obtain ⟨rfl, hE, hP, hD⟩ := hv9
  have hx := B.exec
  have hb := B.bytes
  have hr := B.returns
  have hts := atoms_spec (ws := wsX6_takePick) B.pre
  have hown : s.vm.findClass RX6 = some m.cls := findClass_of_methodNamed B.named
  have hlocks := B.notSynchronized
  have hK := hE.1
  have hF : CallFix p m c cX6_takePick 3 s _ wsX6_takePick RX6 := ⟨hx, hb, hml, hown, hts⟩
  have hS : va_S A s.heap s.heap [] := va_S.rf
  have lk9 := hts (.fieldLink RX6 9 "BranchPlay$Reader" "rules" "[I") (by decide +kernel)
  have inX6 : ∀ w ∈ wsX60, w ∈ wsX6_takePick := by decide +kernel
  have lk31 := hts (.fieldLink RX6 31 "BranchPlay$Reader" "awaited" "I") (by decide +kernel)
  obtain ⟨⟨hv0i3, hv0j3⟩, hv0x0⟩ := hv0
  generalize hHe : s.heap = H at hP
  have hS : va_S A s.heap H [] := by rw [← hHe]; exact hS
  have hP : va_P D vwCl (((r0 0), .inr (6, [.ref (r0 1), .int (fi0 0), .int (fi0 1), .int (fi0 2), .int (fi0 3), .int (fi0 4), .int (fi0 5)])) :: ((r0 1), .inl (ca 0, 8, .inl (fa0 0))) :: rest) H := hP
  have hD : va_D A (((r0 0), .inr (6, [.ref (r0 1), .int (fi0 0), .int (fi0 1), .int (fi0 2), .int (fi0 3), .int (fi0 4), .int (fi0 5)])) :: ((r0 1), .inl (ca 0, 8, .inl (fa0 0))) :: rest) := hD
  have hl := lv_entry ([.ref (r0 0), .int p1, .int p2]) (n := 3) (Nat.le_of_ble_eq_true rfl)
  rw [lg_entry_eq]
  generalize (lg_sl ([.ref (r0 0), .int p1, .int p2]) ++ List.replicate (3 - (lg_sl ([.ref (r0 0), .int p1, .int p2])).length) Slot.unset).toArray = ls at hl ⊢
  have hl : lv_has ls 3 [(0, .ref (r0 0)), (1, .int p1), (2, .int p2)] := hl
  generalize hQ9 : MQ below _ _ s 0 0 A = Q9
  refine lv_iload_n hx hb dX6_takePick_0 rfl (lv_at hl 1 rfl) ?_
  refine lv_bipush (v := 8) hx hb dX6_takePick_1 (by decide) ?_
  refine lv_icmp_ge (tgt := 15) hx hb dX6_takePick_3 (by decide) (fun c1 => ?_) (fun c1 => ?_)
  ·
    have c1 := z_le (i := 8) (j := p1.toInt) (by decide) rfl c1
    refine lv_aload_n hx hb dX6_takePick_15 rfl (lv_at hl 0 rfl) ?_
    refine va_get (D := D) (ci := 6) (v := .ref (r0 1)) (C := RX6) (T := TX6) (N := 7) hx hb hts inX6 hown hK hP 0 rfl rfl 0 (by decide) lk9 (fun _ h9 => h9) rfl dX6_takePick_16 ?_
    refine lv_bipush (v := 7) hx hb dX6_takePick_19 (by decide) ?_
    refine lv_iload_n hx hb dX6_takePick_21 rfl (lv_at hl 1 rfl) ?_
    refine lv_bipush (v := 8) hx hb dX6_takePick_22 (by decide) ?_
    refine lv_isub hx hb dX6_takePick_24 ?_
    refine lv_topi (fun t2 et2 => ?_)
    try have ht2 : t2.toInt = p1.toInt - 8 := z_sub et2 rfl (by decide) (by omega -splitDisjunctions) (by omega -splitDisjunctions)
    have hi3 : vp_in 7 8 := z_in (i := 7) (by decide) (by omega) (by omega)
    refine va_iast hx hb hK hP hD hS 1 0 rfl rfl hi3 dX6_takePick_25 (fun H locs hP hD hS => ?_)
    generalize eg4 : upd (fa0 0) (7 : Int32).toNatClampNeg t2 = g4 at hP hD
    have hP : va_P D vwCl (((r0 0), .inr (6, [.ref (r0 1), .int (fi0 0), .int (fi0 1), .int (fi0 2), .int (fi0 3), .int (fi0 4), .int (fi0 5)])) :: ((r0 1), .inl (ca 0, 8, .inl g4)) :: rest) H := hP
    have hD : va_D A (((r0 0), .inr (6, [.ref (r0 1), .int (fi0 0), .int (fi0 1), .int (fi0 2), .int (fi0 3), .int (fi0 4), .int (fi0 5)])) :: ((r0 1), .inl (ca 0, 8, .inl g4)) :: rest) := hD
    refine lv_aload_n hx hb dX6_takePick_26 rfl (lv_at hl 0 rfl) ?_
    refine lv_iconst (v := 3) hx hb dX6_takePick_27 (by decide) ?_
    refine lv_topi (fun t5 et5 => ?_)
    have ht5 : t5.toInt = 3 := by rw [et5]; decide
    refine va_put (D := D) (ci := 6) (v := .int t5) (ty := .int) (C := RX6) (T := TX6) (N := 7) hx hb hts inX6 tyX6 tyX6_ok nmX6 hown hK hP hD hS 0 rfl rfl 3 (by decide) lk31 (fun _ h9 => h9) rfl (by decide +kernel) rfl rfl (Nat.le_of_ble_eq_true rfl) dX6_takePick_28 (fun H locs hP hD hS => ?_)
    have hP : va_P D vwCl (((r0 0), .inr (6, [.ref (r0 1), .int (fi0 0), .int (fi0 1), .int t5, .int (fi0 3), .int (fi0 4), .int (fi0 5)])) :: ((r0 1), .inl (ca 0, 8, .inl g4)) :: rest) H := hP
    have hD : va_D A (((r0 0), .inr (6, [.ref (r0 1), .int (fi0 0), .int (fi0 1), .int t5, .int (fi0 3), .int (fi0 4), .int (fi0 5)])) :: ((r0 1), .inl (ca 0, 8, .inl g4)) :: rest) := hD
    rw [← hQ9]
    have ho6 : (0 ≤ (fi0 3).toInt ∧ (fi0 3).toInt ≤ 7) ∧ (t5.toInt = 1 → (fi0 3).toInt ≤ 6) := ⟨⟨by omega, by omega⟩, by omega⟩
    have hq7 : (p1.toInt < 8 ∧ ((fi0 0)).toInt = 1 ∧ (fi0 1) = p2 ∧ t5 = (fi0 2)) ∨ (8 ≤ p1.toInt ∧ (fi0 0) = (fi0 0) ∧ (fi0 1) = (fi0 1) ∧ (t5).toInt = 3 ∧ ∃ x : Int32, x.toInt = p1.toInt - 8 ∧ g4 = upd (fa0 0) 7 x) := Or.inr ⟨by omega, rfl, rfl, by omega, t2, by omega, by rw [← eg4, show ((7 : Int32).toNatClampNeg) = 7 from by decide]⟩
    exact W.vret hx hb hr (fun t ht hW => ⟨⟨((zl 0 [(fi0 0), (fi0 1), t5, (fi0 3), (fi0 4), (fi0 5)]), (zl 0 []), (zl (fun _ => 0) [g4]), (zl (fun _ => 0) [])), rfl, ⟨ho6, hq7⟩, ⟨by rw [ht]; exact hP, hD⟩⟩, hS.F ht⟩) hS.2.2 dX6_takePick_31
  ·
    have c1 := z_nle (i := 8) (j := p1.toInt) (by decide) rfl c1
    refine lv_aload_n hx hb dX6_takePick_6 rfl (lv_at hl 0 rfl) ?_
    refine lv_iconst (v := 1) hx hb dX6_takePick_7 (by decide) ?_
    refine lv_iload_n hx hb dX6_takePick_8 rfl (lv_at hl 2 rfl) ?_
    have ho8 : (0 ≤ (fi0 3).toInt ∧ (fi0 3).toInt ≤ 7) ∧ ((fi0 2).toInt = 1 → (fi0 3).toInt ≤ 6) := ⟨⟨by omega, by omega⟩, by omega⟩
    refine z_vV (As := [.int 1, .int p2]) (rest := []) hF (c_X6_blame_R l D ca sa A rest (zl 0 [(r0 0), (r0 1)]) (zl 0 [(fi0 0), (fi0 1), (fi0 2), (fi0 3), (fi0 4), (fi0 5)]) (zl 0 []) (zl (fun _ => 0) [(fa0 0)]) (zl (fun _ => 0) []) ho8 1 p2) (cwV 2 hts gX6_takePick_X6_blame rfl rfl rfl (by decide +kernel) ⟨Nat.le_of_ble_eq_true rfl, Nat.le_of_ble_eq_true rfl⟩) hE hP hD hS 6 0 rfl rfl rfl hl.1 rfl (Nat.le_of_ble_eq_true rfl) dX6_takePick_9 ⟨Nat.zero_le _, Nat.zero_le _⟩ (fun u9 H locs hw11 hP hD hS => ?_)
    obtain ⟨im12, lm12, am12, bm12⟩ := u9
    replace hw11 : ((0 ≤ (fi0 3).toInt ∧ (fi0 3).toInt ≤ 7) ∧ ((fi0 2).toInt = 1 → (fi0 3).toInt ≤ 6)) ∧ ((im12 0) = (1 : Int32) ∧ (im12 1) = p2) := hw11
    obtain ⟨⟨-, -⟩, hq13⟩ := hw11
    have hP : va_P D vwCl (((r0 0), .inr (6, [.ref (r0 1), .int (im12 0), .int (im12 1), .int (fi0 2), .int (fi0 3), .int (fi0 4), .int (fi0 5)])) :: ((r0 1), .inl (ca 0, 8, .inl (fa0 0))) :: rest) H := hP
    have hD : va_D A (((r0 0), .inr (6, [.ref (r0 1), .int (im12 0), .int (im12 1), .int (fi0 2), .int (fi0 3), .int (fi0 4), .int (fi0 5)])) :: ((r0 1), .inl (ca 0, 8, .inl (fa0 0))) :: rest) := hD
    refine lv_goto (tgt := 31) hx hb dX6_takePick_12 (by decide) ?_
    rw [← hQ9]
    have ho14 : (0 ≤ (fi0 3).toInt ∧ (fi0 3).toInt ≤ 7) ∧ ((fi0 2).toInt = 1 → (fi0 3).toInt ≤ 6) := ⟨⟨by omega, by omega⟩, by omega⟩
    have hq15 : (p1.toInt < 8 ∧ ((im12 0)).toInt = 1 ∧ (im12 1) = p2 ∧ (fi0 2) = (fi0 2)) ∨ (8 ≤ p1.toInt ∧ (im12 0) = (fi0 0) ∧ (im12 1) = (fi0 1) ∧ ((fi0 2)).toInt = 3 ∧ ∃ x : Int32, x.toInt = p1.toInt - 8 ∧ (fa0 0) = upd (fa0 0) 7 x) := Or.inl ⟨by omega, by rw [hq13.1]; decide, hq13.2, rfl⟩
    exact W.vret hx hb hr (fun t ht hW => ⟨⟨((zl 0 [(im12 0), (im12 1), (fi0 2), (fi0 3), (fi0 4), (fi0 5)]), (zl 0 []), (zl (fun _ => 0) [(fa0 0)]), (zl (fun _ => 0) [])), rfl, ⟨ho14, hq15⟩, ⟨by rw [ht]; exact hP, hD⟩⟩, hS.F ht⟩) hS.2.2 dX6_takePick_31

set_option maxHeartbeats 8000000 in
set_option maxRecDepth 100000 in
theorem c_X6_takeSemicolon_R (l : Launch) (D : va_G) (ca : Nat → ClassId) (sa : Nat → Nat) (A : Nat → Prop) (rest : va_W) (r0 : Nat → Nat) (fi0 : Nat → Int32) (fl0 : Nat → Int64) (fa0 : Nat → Nat → Int32) (fb0 : Nat → Nat → Int64) (hv0 : Ok_RDR fi0 fa0) (p1 : Int32) (p2 : Int32) (hpre0 : 0 ≤ (fi0 5).toInt ∧ (fi0 5).toInt ≤ 600) : Met l yX6_takeSemicolon wsX6_takeSemicolon ({ frames := 1, cells := 0, slots := 0, locals := 22 }) (va_Pc [.ref (r0 0), .int p1, .int p2] (zPre D ca sa A (w_RDR ca r0 fi0 fl0 fa0 fb0 (rest)))) (va_Qv (fun (u : zS) => Ok_RDR (zx [0, 1, 2, 5] fi0 u.1) (zx [] fa0 u.2.2.1) ∧ ((p1.toInt = 0 ∧ ((u.1 0)).toInt = 1 ∧ (u.1 1) = p2 ∧ (u.1 2) = (fi0 2) ∧ (u.1 5) = (fi0 5)) ∨ (¬ p1.toInt = 0 ∧ (u.1 0) = (fi0 0) ∧ (u.1 1) = (fi0 1) ∧ ((u.1 2)).toInt = 0 ∧ ((u.1 5)).toInt = ((fi0 5)).toInt + 1))) (fun u t => zPost D A (w_RDR ca r0 (zx [0, 1, 2, 5] fi0 u.1) (zx [] fl0 u.2.1) (zx [] fa0 u.2.2.1) (zx [] fb0 u.2.2.2) (rest)) t) A) 0 0 A := by
  refine Met.ofW (cc := cX6_takeSemicolon) (maxL := 3) (ret := none) (by decide) rfl ?_
  intro p e s m args below meth c s₁ B hml hv9
  obtain ⟨rfl, hE, hP, hD⟩ := hv9
  have hx := B.exec
  have hb := B.bytes
  have hr := B.returns
  have hts := atoms_spec (ws := wsX6_takeSemicolon) B.pre
  have hown : s.vm.findClass RX6 = some m.cls := findClass_of_methodNamed B.named
  have hlocks := B.notSynchronized
  have hK := hE.1
  have hF : CallFix p m c cX6_takeSemicolon 3 s _ wsX6_takeSemicolon RX6 := ⟨hx, hb, hml, hown, hts⟩
  have hS : va_S A s.heap s.heap [] := va_S.rf
  have lk37 := hts (.fieldLink RX6 37 "BranchPlay$Reader" "lines" "I") (by decide +kernel)
  have inX6 : ∀ w ∈ wsX60, w ∈ wsX6_takeSemicolon := by decide +kernel
  have lk31 := hts (.fieldLink RX6 31 "BranchPlay$Reader" "awaited" "I") (by decide +kernel)
  obtain ⟨⟨hv0i3, hv0j3⟩, hv0x0⟩ := hv0
  generalize hHe : s.heap = H at hP
  have hS : va_S A s.heap H [] := by rw [← hHe]; exact hS
  have hP : va_P D vwCl (((r0 0), .inr (6, [.ref (r0 1), .int (fi0 0), .int (fi0 1), .int (fi0 2), .int (fi0 3), .int (fi0 4), .int (fi0 5)])) :: ((r0 1), .inl (ca 0, 8, .inl (fa0 0))) :: rest) H := hP
  have hD : va_D A (((r0 0), .inr (6, [.ref (r0 1), .int (fi0 0), .int (fi0 1), .int (fi0 2), .int (fi0 3), .int (fi0 4), .int (fi0 5)])) :: ((r0 1), .inl (ca 0, 8, .inl (fa0 0))) :: rest) := hD
  have hl := lv_entry ([.ref (r0 0), .int p1, .int p2]) (n := 3) (Nat.le_of_ble_eq_true rfl)
  rw [lg_entry_eq]
  generalize (lg_sl ([.ref (r0 0), .int p1, .int p2]) ++ List.replicate (3 - (lg_sl ([.ref (r0 0), .int p1, .int p2])).length) Slot.unset).toArray = ls at hl ⊢
  have hl : lv_has ls 3 [(0, .ref (r0 0)), (1, .int p1), (2, .int p2)] := hl
  generalize hQ9 : MQ below _ _ s 0 0 A = Q9
  refine lv_iload_n hx hb dX6_takeSemicolon_0 rfl (lv_at hl 1 rfl) ?_
  refine lv_if_eq (tgt := 22) hx hb dX6_takeSemicolon_1 (by decide) (fun c1 => ?_) (fun c1 => ?_)
  ·
    have c1 := z_eq (i := p1.toInt) (j := 0) rfl (by decide) c1
    refine lv_aload_n hx hb dX6_takeSemicolon_22 rfl (lv_at hl 0 rfl) ?_
    refine lv_iconst (v := 1) hx hb dX6_takeSemicolon_23 (by decide) ?_
    refine lv_iload_n hx hb dX6_takeSemicolon_24 rfl (lv_at hl 2 rfl) ?_
    have ho2 : (0 ≤ (fi0 3).toInt ∧ (fi0 3).toInt ≤ 7) ∧ ((fi0 2).toInt = 1 → (fi0 3).toInt ≤ 6) := ⟨⟨by omega, by omega⟩, by omega⟩
    refine z_vV (As := [.int 1, .int p2]) (rest := []) hF (c_X6_blame_R l D ca sa A rest (zl 0 [(r0 0), (r0 1)]) (zl 0 [(fi0 0), (fi0 1), (fi0 2), (fi0 3), (fi0 4), (fi0 5)]) (zl 0 []) (zl (fun _ => 0) [(fa0 0)]) (zl (fun _ => 0) []) ho2 1 p2) (cwV 2 hts gX6_takeSemicolon_X6_blame rfl rfl rfl (by decide +kernel) ⟨Nat.le_of_ble_eq_true rfl, Nat.le_of_ble_eq_true rfl⟩) hE hP hD hS 6 0 rfl rfl rfl hl.1 rfl (Nat.le_of_ble_eq_true rfl) dX6_takeSemicolon_25 ⟨Nat.zero_le _, Nat.zero_le _⟩ (fun u3 H locs hw5 hP hD hS => ?_)
    obtain ⟨im6, lm6, am6, bm6⟩ := u3
    replace hw5 : ((0 ≤ (fi0 3).toInt ∧ (fi0 3).toInt ≤ 7) ∧ ((fi0 2).toInt = 1 → (fi0 3).toInt ≤ 6)) ∧ ((im6 0) = (1 : Int32) ∧ (im6 1) = p2) := hw5
    obtain ⟨⟨-, -⟩, hq7⟩ := hw5
    have hP : va_P D vwCl (((r0 0), .inr (6, [.ref (r0 1), .int (im6 0), .int (im6 1), .int (fi0 2), .int (fi0 3), .int (fi0 4), .int (fi0 5)])) :: ((r0 1), .inl (ca 0, 8, .inl (fa0 0))) :: rest) H := hP
    have hD : va_D A (((r0 0), .inr (6, [.ref (r0 1), .int (im6 0), .int (im6 1), .int (fi0 2), .int (fi0 3), .int (fi0 4), .int (fi0 5)])) :: ((r0 1), .inl (ca 0, 8, .inl (fa0 0))) :: rest) := hD
    rw [← hQ9]
    have ho8 : (0 ≤ (fi0 3).toInt ∧ (fi0 3).toInt ≤ 7) ∧ ((fi0 2).toInt = 1 → (fi0 3).toInt ≤ 6) := ⟨⟨by omega, by omega⟩, by omega⟩
    have hq9 : (p1.toInt = 0 ∧ ((im6 0)).toInt = 1 ∧ (im6 1) = p2 ∧ (fi0 2) = (fi0 2) ∧ (fi0 5) = (fi0 5)) ∨ (¬ p1.toInt = 0 ∧ (im6 0) = (fi0 0) ∧ (im6 1) = (fi0 1) ∧ ((fi0 2)).toInt = 0 ∧ ((fi0 5)).toInt = ((fi0 5)).toInt + 1) := Or.inl ⟨by omega, by rw [hq7.1]; decide, hq7.2, rfl, rfl⟩
    exact W.vret hx hb hr (fun t ht hW => ⟨⟨((zl 0 [(im6 0), (im6 1), (fi0 2), (fi0 3), (fi0 4), (fi0 5)]), (zl 0 []), (zl (fun _ => 0) [(fa0 0)]), (zl (fun _ => 0) [])), rfl, ⟨ho8, hq9⟩, ⟨by rw [ht]; exact hP, hD⟩⟩, hS.F ht⟩) hS.2.2 dX6_takeSemicolon_28
  ·
    have c1 := z_ne (i := p1.toInt) (j := 0) rfl (by decide) c1
    refine lv_aload_n hx hb dX6_takeSemicolon_4 rfl (lv_at hl 0 rfl) ?_
    refine lv_dup hx hb dX6_takeSemicolon_5 rfl ?_
    refine va_get (D := D) (ci := 6) (v := .int (fi0 5)) (C := RX6) (T := TX6) (N := 7) hx hb hts inX6 hown hK hP 0 rfl rfl 6 (by decide) lk37 (fun _ h9 => h9) rfl dX6_takeSemicolon_6 ?_
    refine lv_iconst (v := 1) hx hb dX6_takeSemicolon_9 (by decide) ?_
    refine lv_iadd hx hb dX6_takeSemicolon_10 ?_
    refine lv_topi (fun t10 et10 => ?_)
    try have ht10 : t10.toInt = (fi0 5).toInt + 1 := z_add et10 rfl (by decide) (by omega -splitDisjunctions) (by omega -splitDisjunctions)
    refine va_put (D := D) (ci := 6) (v := .int t10) (ty := .int) (C := RX6) (T := TX6) (N := 7) hx hb hts inX6 tyX6 tyX6_ok nmX6 hown hK hP hD hS 0 rfl rfl 6 (by decide) lk37 (fun _ h9 => h9) rfl (by decide +kernel) rfl rfl (Nat.le_of_ble_eq_true rfl) dX6_takeSemicolon_11 (fun H locs hP hD hS => ?_)
    have hP : va_P D vwCl (((r0 0), .inr (6, [.ref (r0 1), .int (fi0 0), .int (fi0 1), .int (fi0 2), .int (fi0 3), .int (fi0 4), .int t10])) :: ((r0 1), .inl (ca 0, 8, .inl (fa0 0))) :: rest) H := hP
    have hD : va_D A (((r0 0), .inr (6, [.ref (r0 1), .int (fi0 0), .int (fi0 1), .int (fi0 2), .int (fi0 3), .int (fi0 4), .int t10])) :: ((r0 1), .inl (ca 0, 8, .inl (fa0 0))) :: rest) := hD
    refine lv_aload_n hx hb dX6_takeSemicolon_14 rfl (lv_at hl 0 rfl) ?_
    refine lv_iconst (v := 0) hx hb dX6_takeSemicolon_15 (by decide) ?_
    refine lv_topi (fun t11 et11 => ?_)
    have ht11 : t11.toInt = 0 := by rw [et11]; decide
    refine va_put (D := D) (ci := 6) (v := .int t11) (ty := .int) (C := RX6) (T := TX6) (N := 7) hx hb hts inX6 tyX6 tyX6_ok nmX6 hown hK hP hD hS 0 rfl rfl 3 (by decide) lk31 (fun _ h9 => h9) rfl (by decide +kernel) rfl rfl (Nat.le_of_ble_eq_true rfl) dX6_takeSemicolon_16 (fun H locs hP hD hS => ?_)
    have hP : va_P D vwCl (((r0 0), .inr (6, [.ref (r0 1), .int (fi0 0), .int (fi0 1), .int t11, .int (fi0 3), .int (fi0 4), .int t10])) :: ((r0 1), .inl (ca 0, 8, .inl (fa0 0))) :: rest) H := hP
    have hD : va_D A (((r0 0), .inr (6, [.ref (r0 1), .int (fi0 0), .int (fi0 1), .int t11, .int (fi0 3), .int (fi0 4), .int t10])) :: ((r0 1), .inl (ca 0, 8, .inl (fa0 0))) :: rest) := hD
    refine lv_goto (tgt := 28) hx hb dX6_takeSemicolon_19 (by decide) ?_
    rw [← hQ9]
    have ho12 : (0 ≤ (fi0 3).toInt ∧ (fi0 3).toInt ≤ 7) ∧ (t11.toInt = 1 → (fi0 3).toInt ≤ 6) := ⟨⟨by omega, by omega⟩, by omega⟩
    have hq13 : (p1.toInt = 0 ∧ ((fi0 0)).toInt = 1 ∧ (fi0 1) = p2 ∧ t11 = (fi0 2) ∧ t10 = (fi0 5)) ∨ (¬ p1.toInt = 0 ∧ (fi0 0) = (fi0 0) ∧ (fi0 1) = (fi0 1) ∧ (t11).toInt = 0 ∧ (t10).toInt = ((fi0 5)).toInt + 1) := Or.inr ⟨by omega, rfl, rfl, by omega, by omega⟩
    exact W.vret hx hb hr (fun t ht hW => ⟨⟨((zl 0 [(fi0 0), (fi0 1), t11, (fi0 3), (fi0 4), t10]), (zl 0 []), (zl (fun _ => 0) [(fa0 0)]), (zl (fun _ => 0) [])), rfl, ⟨ho12, hq13⟩, ⟨by rw [ht]; exact hP, hD⟩⟩, hS.F ht⟩) hS.2.2 dX6_takeSemicolon_28

set_option maxHeartbeats 8000000 in
set_option maxRecDepth 100000 in
theorem c_X6_takeEnd_R (l : Launch) (D : va_G) (ca : Nat → ClassId) (sa : Nat → Nat) (A : Nat → Prop) (rest : va_W) (r0 : Nat → Nat) (fi0 : Nat → Int32) (fl0 : Nat → Int64) (fa0 : Nat → Nat → Int32) (fb0 : Nat → Nat → Int64) (hv0 : Ok_RDR fi0 fa0) (p1 : Int32) : Met l yX6_takeEnd wsX6_takeEnd ({ frames := 1, cells := 0, slots := 0, locals := 22 }) (va_Pc [.ref (r0 0), .int p1] (zPre D ca sa A (w_RDR ca r0 fi0 fl0 fa0 fb0 (rest)))) (va_Qv (fun (u : zS) => Ok_RDR (zx [0, 1] fi0 u.1) (zx [] fa0 u.2.2.1) ∧ ((¬ ((fi0 2)).toInt = 0 ∧ ((u.1 0)).toInt = 1 ∧ (u.1 1) = p1) ∨ (((fi0 2)).toInt = 0 ∧ ((fa0 0) 0).toInt ≤ ((fa0 0) 1).toInt ∧ ((u.1 0)).toInt = 4 ∧ (u.1 1) = p1) ∨ (((fi0 2)).toInt = 0 ∧ ((fa0 0) 1).toInt < ((fa0 0) 0).toInt ∧ (u.1 0) = (fi0 0) ∧ (u.1 1) = (fi0 1)))) (fun u t => zPost D A (w_RDR ca r0 (zx [0, 1] fi0 u.1) (zx [] fl0 u.2.1) (zx [] fa0 u.2.2.1) (zx [] fb0 u.2.2.2) (rest)) t) A) 0 0 A := by
  refine Met.ofW (cc := cX6_takeEnd) (maxL := 2) (ret := none) (by decide) rfl ?_
  intro p e s m args below meth c s₁ B hml hv9
  obtain ⟨rfl, hE, hP, hD⟩ := hv9
  have hx := B.exec
  have hb := B.bytes
  have hr := B.returns
  have hts := atoms_spec (ws := wsX6_takeEnd) B.pre
  have hown : s.vm.findClass RX6 = some m.cls := findClass_of_methodNamed B.named
  have hlocks := B.notSynchronized
  have hK := hE.1
  have hF : CallFix p m c cX6_takeEnd 2 s _ wsX6_takeEnd RX6 := ⟨hx, hb, hml, hown, hts⟩
  have hS : va_S A s.heap s.heap [] := va_S.rf
  have lk31 := hts (.fieldLink RX6 31 "BranchPlay$Reader" "awaited" "I") (by decide +kernel)
  have inX6 : ∀ w ∈ wsX60, w ∈ wsX6_takeEnd := by decide +kernel
  have lk9 := hts (.fieldLink RX6 9 "BranchPlay$Reader" "rules" "[I") (by decide +kernel)
  obtain ⟨⟨hv0i3, hv0j3⟩, hv0x0⟩ := hv0
  generalize hHe : s.heap = H at hP
  have hS : va_S A s.heap H [] := by rw [← hHe]; exact hS
  have hP : va_P D vwCl (((r0 0), .inr (6, [.ref (r0 1), .int (fi0 0), .int (fi0 1), .int (fi0 2), .int (fi0 3), .int (fi0 4), .int (fi0 5)])) :: ((r0 1), .inl (ca 0, 8, .inl (fa0 0))) :: rest) H := hP
  have hD : va_D A (((r0 0), .inr (6, [.ref (r0 1), .int (fi0 0), .int (fi0 1), .int (fi0 2), .int (fi0 3), .int (fi0 4), .int (fi0 5)])) :: ((r0 1), .inl (ca 0, 8, .inl (fa0 0))) :: rest) := hD
  have hl := lv_entry ([.ref (r0 0), .int p1]) (n := 2) (Nat.le_of_ble_eq_true rfl)
  rw [lg_entry_eq]
  generalize (lg_sl ([.ref (r0 0), .int p1]) ++ List.replicate (2 - (lg_sl ([.ref (r0 0), .int p1])).length) Slot.unset).toArray = ls at hl ⊢
  have hl : lv_has ls 2 [(0, .ref (r0 0)), (1, .int p1)] := hl
  generalize hQ9 : MQ below _ _ s 0 0 A = Q9
  refine lv_aload_n hx hb dX6_takeEnd_0 rfl (lv_at hl 0 rfl) ?_
  refine va_get (D := D) (ci := 6) (v := .int (fi0 2)) (C := RX6) (T := TX6) (N := 7) hx hb hts inX6 hown hK hP 0 rfl rfl 3 (by decide) lk31 (fun _ h9 => h9) rfl dX6_takeEnd_1 ?_
  refine lv_if_eq (tgt := 16) hx hb dX6_takeEnd_4 (by decide) (fun c1 => ?_) (fun c1 => ?_)
  ·
    have c1 := z_eq (i := (fi0 2).toInt) (j := 0) rfl (by decide) c1
    refine lv_aload_n hx hb dX6_takeEnd_16 rfl (lv_at hl 0 rfl) ?_
    refine va_get (D := D) (ci := 6) (v := .ref (r0 1)) (C := RX6) (T := TX6) (N := 7) hx hb hts inX6 hown hK hP 0 rfl rfl 0 (by decide) lk9 (fun _ h9 => h9) rfl dX6_takeEnd_17 ?_
    refine lv_iconst (v := 1) hx hb dX6_takeEnd_20 (by decide) ?_
    have hi2 : vp_in 1 8 := z_in (i := 1) (by decide) (by omega) (by omega)
    refine va_iald hx hb hK hP 1 0 rfl rfl hi2 dX6_takeEnd_21 ?_
    refine lv_topi (fun t3 et3 => ?_)
    refine lv_aload_n hx hb dX6_takeEnd_22 rfl (lv_at hl 0 rfl) ?_
    refine va_get (D := D) (ci := 6) (v := .ref (r0 1)) (C := RX6) (T := TX6) (N := 7) hx hb hts inX6 hown hK hP 0 rfl rfl 0 (by decide) lk9 (fun _ h9 => h9) rfl dX6_takeEnd_23 ?_
    refine lv_iconst (v := 0) hx hb dX6_takeEnd_26 (by decide) ?_
    have hi4 : vp_in 0 8 := z_in (i := 0) (by decide) (by omega) (by omega)
    refine va_iald hx hb hK hP 1 0 rfl rfl hi4 dX6_takeEnd_27 ?_
    refine lv_topi (fun t5 et5 => ?_)
    refine lv_icmp_lt (tgt := 37) hx hb dX6_takeEnd_28 (by decide) (fun c6 => ?_) (fun c6 => ?_)
    ·
      have c6 := z_lt (i := t3.toInt) (j := t5.toInt) rfl rfl c6
      rw [← hQ9]
      have ho7 : (0 ≤ (fi0 3).toInt ∧ (fi0 3).toInt ≤ 7) ∧ ((fi0 2).toInt = 1 → (fi0 3).toInt ≤ 6) := ⟨⟨by omega, by omega⟩, by omega⟩
      have hq8 : (¬ ((fi0 2)).toInt = 0 ∧ ((fi0 0)).toInt = 1 ∧ (fi0 1) = p1) ∨ (((fi0 2)).toInt = 0 ∧ ((fa0 0) 0).toInt ≤ ((fa0 0) 1).toInt ∧ ((fi0 0)).toInt = 4 ∧ (fi0 1) = p1) ∨ (((fi0 2)).toInt = 0 ∧ ((fa0 0) 1).toInt < ((fa0 0) 0).toInt ∧ (fi0 0) = (fi0 0) ∧ (fi0 1) = (fi0 1)) := Or.inr (Or.inr ⟨by omega, (by (have q1 : t3.toInt = (fa0 0 1).toInt := by rw [et3, show ((1 : Int32).toNatClampNeg) = 1 from by decide]); (have q0 : t5.toInt = (fa0 0 0).toInt := by rw [et5, show ((0 : Int32).toNatClampNeg) = 0 from by decide]); omega), rfl, rfl⟩)
      exact W.vret hx hb hr (fun t ht hW => ⟨⟨((zl 0 [(fi0 0), (fi0 1), (fi0 2), (fi0 3), (fi0 4), (fi0 5)]), (zl 0 []), (zl (fun _ => 0) [(fa0 0)]), (zl (fun _ => 0) [])), rfl, ⟨ho7, hq8⟩, ⟨by rw [ht]; exact hP, hD⟩⟩, hS.F ht⟩) hS.2.2 dX6_takeEnd_37
    ·
      have c6 := z_nlt (i := t3.toInt) (j := t5.toInt) rfl rfl c6
      refine lv_aload_n hx hb dX6_takeEnd_31 rfl (lv_at hl 0 rfl) ?_
      refine lv_iconst (v := 4) hx hb dX6_takeEnd_32 (by decide) ?_
      refine lv_iload_n hx hb dX6_takeEnd_33 rfl (lv_at hl 1 rfl) ?_
      have ho9 : (0 ≤ (fi0 3).toInt ∧ (fi0 3).toInt ≤ 7) ∧ ((fi0 2).toInt = 1 → (fi0 3).toInt ≤ 6) := ⟨⟨by omega, by omega⟩, by omega⟩
      refine z_vV (As := [.int 4, .int p1]) (rest := []) hF (c_X6_blame_R l D ca sa A rest (zl 0 [(r0 0), (r0 1)]) (zl 0 [(fi0 0), (fi0 1), (fi0 2), (fi0 3), (fi0 4), (fi0 5)]) (zl 0 []) (zl (fun _ => 0) [(fa0 0)]) (zl (fun _ => 0) []) ho9 4 p1) (cwV 2 hts gX6_takeEnd_X6_blame rfl rfl rfl (by decide +kernel) ⟨Nat.le_of_ble_eq_true rfl, Nat.le_of_ble_eq_true rfl⟩) hE hP hD hS 6 0 rfl rfl rfl hl.1 rfl (Nat.le_of_ble_eq_true rfl) dX6_takeEnd_34 ⟨Nat.zero_le _, Nat.zero_le _⟩ (fun u10 H locs hw12 hP hD hS => ?_)
      obtain ⟨im13, lm13, am13, bm13⟩ := u10
      replace hw12 : ((0 ≤ (fi0 3).toInt ∧ (fi0 3).toInt ≤ 7) ∧ ((fi0 2).toInt = 1 → (fi0 3).toInt ≤ 6)) ∧ ((im13 0) = (4 : Int32) ∧ (im13 1) = p1) := hw12
      obtain ⟨⟨-, -⟩, hq14⟩ := hw12
      have hP : va_P D vwCl (((r0 0), .inr (6, [.ref (r0 1), .int (im13 0), .int (im13 1), .int (fi0 2), .int (fi0 3), .int (fi0 4), .int (fi0 5)])) :: ((r0 1), .inl (ca 0, 8, .inl (fa0 0))) :: rest) H := hP
      have hD : va_D A (((r0 0), .inr (6, [.ref (r0 1), .int (im13 0), .int (im13 1), .int (fi0 2), .int (fi0 3), .int (fi0 4), .int (fi0 5)])) :: ((r0 1), .inl (ca 0, 8, .inl (fa0 0))) :: rest) := hD
      rw [← hQ9]
      have ho15 : (0 ≤ (fi0 3).toInt ∧ (fi0 3).toInt ≤ 7) ∧ ((fi0 2).toInt = 1 → (fi0 3).toInt ≤ 6) := ⟨⟨by omega, by omega⟩, by omega⟩
      have hq16 : (¬ ((fi0 2)).toInt = 0 ∧ ((im13 0)).toInt = 1 ∧ (im13 1) = p1) ∨ (((fi0 2)).toInt = 0 ∧ ((fa0 0) 0).toInt ≤ ((fa0 0) 1).toInt ∧ ((im13 0)).toInt = 4 ∧ (im13 1) = p1) ∨ (((fi0 2)).toInt = 0 ∧ ((fa0 0) 1).toInt < ((fa0 0) 0).toInt ∧ (im13 0) = (fi0 0) ∧ (im13 1) = (fi0 1)) := Or.inr (Or.inl ⟨by omega, (by (have q1 : t3.toInt = (fa0 0 1).toInt := by rw [et3, show ((1 : Int32).toNatClampNeg) = 1 from by decide]); (have q0 : t5.toInt = (fa0 0 0).toInt := by rw [et5, show ((0 : Int32).toNatClampNeg) = 0 from by decide]); omega), by rw [hq14.1]; decide, hq14.2⟩)
      exact W.vret hx hb hr (fun t ht hW => ⟨⟨((zl 0 [(im13 0), (im13 1), (fi0 2), (fi0 3), (fi0 4), (fi0 5)]), (zl 0 []), (zl (fun _ => 0) [(fa0 0)]), (zl (fun _ => 0) [])), rfl, ⟨ho15, hq16⟩, ⟨by rw [ht]; exact hP, hD⟩⟩, hS.F ht⟩) hS.2.2 dX6_takeEnd_37
  ·
    have c1 := z_ne (i := (fi0 2).toInt) (j := 0) rfl (by decide) c1
    refine lv_aload_n hx hb dX6_takeEnd_7 rfl (lv_at hl 0 rfl) ?_
    refine lv_iconst (v := 1) hx hb dX6_takeEnd_8 (by decide) ?_
    refine lv_iload_n hx hb dX6_takeEnd_9 rfl (lv_at hl 1 rfl) ?_
    have ho17 : (0 ≤ (fi0 3).toInt ∧ (fi0 3).toInt ≤ 7) ∧ ((fi0 2).toInt = 1 → (fi0 3).toInt ≤ 6) := ⟨⟨by omega, by omega⟩, by omega⟩
    refine z_vV (As := [.int 1, .int p1]) (rest := []) hF (c_X6_blame_R l D ca sa A rest (zl 0 [(r0 0), (r0 1)]) (zl 0 [(fi0 0), (fi0 1), (fi0 2), (fi0 3), (fi0 4), (fi0 5)]) (zl 0 []) (zl (fun _ => 0) [(fa0 0)]) (zl (fun _ => 0) []) ho17 1 p1) (cwV 2 hts gX6_takeEnd_X6_blame rfl rfl rfl (by decide +kernel) ⟨Nat.le_of_ble_eq_true rfl, Nat.le_of_ble_eq_true rfl⟩) hE hP hD hS 6 0 rfl rfl rfl hl.1 rfl (Nat.le_of_ble_eq_true rfl) dX6_takeEnd_10 ⟨Nat.zero_le _, Nat.zero_le _⟩ (fun u18 H locs hw20 hP hD hS => ?_)
    obtain ⟨im21, lm21, am21, bm21⟩ := u18
    replace hw20 : ((0 ≤ (fi0 3).toInt ∧ (fi0 3).toInt ≤ 7) ∧ ((fi0 2).toInt = 1 → (fi0 3).toInt ≤ 6)) ∧ ((im21 0) = (1 : Int32) ∧ (im21 1) = p1) := hw20
    obtain ⟨⟨-, -⟩, hq22⟩ := hw20
    have hP : va_P D vwCl (((r0 0), .inr (6, [.ref (r0 1), .int (im21 0), .int (im21 1), .int (fi0 2), .int (fi0 3), .int (fi0 4), .int (fi0 5)])) :: ((r0 1), .inl (ca 0, 8, .inl (fa0 0))) :: rest) H := hP
    have hD : va_D A (((r0 0), .inr (6, [.ref (r0 1), .int (im21 0), .int (im21 1), .int (fi0 2), .int (fi0 3), .int (fi0 4), .int (fi0 5)])) :: ((r0 1), .inl (ca 0, 8, .inl (fa0 0))) :: rest) := hD
    refine lv_goto (tgt := 37) hx hb dX6_takeEnd_13 (by decide) ?_
    rw [← hQ9]
    have ho23 : (0 ≤ (fi0 3).toInt ∧ (fi0 3).toInt ≤ 7) ∧ ((fi0 2).toInt = 1 → (fi0 3).toInt ≤ 6) := ⟨⟨by omega, by omega⟩, by omega⟩
    have hq24 : (¬ ((fi0 2)).toInt = 0 ∧ ((im21 0)).toInt = 1 ∧ (im21 1) = p1) ∨ (((fi0 2)).toInt = 0 ∧ ((fa0 0) 0).toInt ≤ ((fa0 0) 1).toInt ∧ ((im21 0)).toInt = 4 ∧ (im21 1) = p1) ∨ (((fi0 2)).toInt = 0 ∧ ((fa0 0) 1).toInt < ((fa0 0) 0).toInt ∧ (im21 0) = (fi0 0) ∧ (im21 1) = (fi0 1)) := Or.inl ⟨by omega, by rw [hq22.1]; decide, hq22.2⟩
    exact W.vret hx hb hr (fun t ht hW => ⟨⟨((zl 0 [(im21 0), (im21 1), (fi0 2), (fi0 3), (fi0 4), (fi0 5)]), (zl 0 []), (zl (fun _ => 0) [(fa0 0)]), (zl (fun _ => 0) [])), rfl, ⟨ho23, hq24⟩, ⟨by rw [ht]; exact hP, hD⟩⟩, hS.F ht⟩) hS.2.2 dX6_takeEnd_37

def zTP (f : Nat → Int32) (p q : Nat) (pl a0 a1 a2 a3 a4 a5 : Int32) (R : Nat → Int32) (b0 b1 b2 b3 b4 b5 : Int32) (R2 : Nat → Int32) : Prop := zTo f p q (zMd a2 a3) a4 a5.toInt R b0.toInt (zMd b2 b3) b4 b5.toInt R2 ∧ (b0.toInt ≠ 0 → b1 = pl) ∧ (b0.toInt = 0 → b1 = a1) ∧ (0 ≤ b2.toInt ∧ b2.toInt ≤ 3) ∧ (0 ≤ b5.toInt ∧ b5.toInt ≤ a5.toInt + 1)
theorem zMd_1 {a b : Int32} (h : a.toInt = 1) : zMd a b = 10 + b.toInt := by unfold zMd; rw [if_pos h]
theorem zMd_0 {a b : Int32} (h : a.toInt ≠ 1) : zMd a b = a.toInt := by unfold zMd; rw [if_neg h]
theorem zTT0 {f : Nat → Int32} {p q : Nat} {w pl : Int32} {a0 a1 a2 a3 a4 a5 b0 b1 b2 b3 b4 : Int32} {R : Nat → Int32} (hw : zWr f p q w.toInt) (h0 : a0.toInt = 0) (h2 : a2.toInt = 0) (h5 : 0 ≤ a5.toInt) (h : (¬ (0 ≤ w.toInt ∧ w.toInt < 8) ∧ (b0).toInt = 1 ∧ b1 = pl ∧ b2 = a2) ∨ (0 ≤ w.toInt ∧ w.toInt < 8 ∧ zTb a4 w ∧ (b0).toInt = 3 ∧ b1 = pl ∧ b2 = a2) ∨ (0 ≤ w.toInt ∧ w.toInt < 8 ∧ ¬ zTb a4 w ∧ b0 = a0 ∧ b1 = a1 ∧ ((w.toInt = 7 ∧ (b2).toInt = 2) ∨ (w.toInt < 7 ∧ (b2).toInt = 1)) ∧ b3 = w ∧ b4 = zTs a4 w)) : zTP f p q pl a0 a1 a2 a3 a4 a5 R b0 b1 b2 b3 b4 a5 R := by
  have m : zMd a2 a3 = 0 := by rw [zMd_0 (by omega)]; exact h2
  rcases h with ⟨x, y, z, v⟩ | ⟨x1, x2, x3, y, z, v⟩ | ⟨x1, x2, x3, y, z, v, u, t⟩
  · exact ⟨Or.inl ⟨m, w, hw, Or.inl ⟨x, y⟩⟩, fun _ => z, fun q9 => by omega, by rw [v]; omega, by omega⟩
  · exact ⟨Or.inl ⟨m, w, hw, Or.inr (Or.inl ⟨x1, x2, x3, y⟩)⟩, fun _ => z, fun q9 => by omega, by rw [v]; omega, by omega⟩
  · have y0 : b0.toInt = 0 := by rw [y]; exact h0
    refine ⟨Or.inl ⟨m, w, hw, Or.inr (Or.inr ⟨x1, x2, x3, y0, ?_, t, rfl, rfl⟩)⟩, fun q9 => absurd y0 q9, fun _ => z, by omega, by omega⟩
    rcases v with ⟨v1, v2⟩ | ⟨v1, v2⟩
    · exact Or.inl ⟨v1, by rw [zMd_0 (by omega)]; exact v2⟩
    · exact Or.inr ⟨v1, by rw [zMd_1 v2, u]⟩
theorem zTT1 {f : Nat → Int32} {p q : Nat} {w pl : Int32} {a0 a1 a2 a3 a4 a5 b0 b1 b2 : Int32} {R R2 : Nat → Int32} (hw : (w.toInt = -1 ∧ (¬ zDg (f p) ∨ 3 < (q : Int) - (p : Int))) ∨ (zDg (f p) ∧ (q : Int) - (p : Int) ≤ 3 ∧ w.toInt = zVal f p (q - p) ∧ 0 ≤ w.toInt)) (h0 : a0.toInt = 0) (h2 : a2.toInt = 1) (h3 : 0 ≤ a3.toInt) (h5 : 0 ≤ a5.toInt) (h : (w.toInt = -1 ∧ (b0).toInt = 1 ∧ b1 = pl ∧ b2 = a2) ∨ (¬ w.toInt = -1 ∧ ¬ zIb (a3).toInt w.toInt ∧ (b0).toInt = 2 ∧ b1 = pl ∧ b2 = a2) ∨ (¬ w.toInt = -1 ∧ zIb (a3).toInt w.toInt ∧ b0 = a0 ∧ b1 = a1 ∧ (b2).toInt = 3 ∧ R2 = upd R (a3).toNatClampNeg w)) (hR : b0.toInt = 0 ∨ R2 = R2) : zTP f p q pl a0 a1 a2 a3 a4 a5 R b0 b1 b2 a3 a4 a5 R2 := by
  have m : zMd a2 a3 = 10 + a3.toInt := zMd_1 h2
  unfold zTP
  rw [m]
  rcases h with ⟨x, y, z, v⟩ | ⟨x1, x2, y, z, v⟩ | ⟨x1, x2, y, z, v, u⟩
  · refine ⟨Or.inr (Or.inl ⟨by omega, Or.inl ⟨fun q9 => ?_, y⟩⟩), fun _ => z, fun q9 => by omega, by rw [v]; omega, by omega⟩
    rcases hw with ⟨_, g | g⟩ | ⟨_, _, _, g⟩
    · exact g q9.1
    · have := q9.2
      omega
    · omega
  · rcases hw with ⟨g, _⟩ | ⟨g1, g2, g3, g4⟩
    · exact absurd g x1
    · exact ⟨Or.inr (Or.inl ⟨by omega, Or.inr (Or.inl ⟨g1, g2, by rw [show 10 + a3.toInt - 10 = a3.toInt by omega, ← g3]; exact x2, y⟩)⟩), fun _ => z, fun q9 => by omega, by rw [v]; omega, by omega⟩
  · rcases hw with ⟨g, _⟩ | ⟨g1, g2, g3, g4⟩
    · exact absurd g x1
    · have y0 : b0.toInt = 0 := by rw [y]; exact h0
      exact ⟨Or.inr (Or.inl ⟨by omega, Or.inr (Or.inr ⟨g1, g2, by rw [show 10 + a3.toInt - 10 = a3.toInt by omega, ← g3]; exact x2, y0, by rw [zMd_0 (by omega)]; exact v, rfl, rfl, w, g3, by rw [show (10 + a3.toInt - 10).toNat = a3.toNatClampNeg by rw [z_cl]; congr 1; omega]; exact u⟩)⟩), fun q9 => absurd y0 q9, fun _ => z, by omega, by omega⟩
theorem zTT2 {f : Nat → Int32} {p q : Nat} {w pl : Int32} {a0 a1 a2 a3 a4 a5 b0 b1 b2 : Int32} {R R2 : Nat → Int32} (hw : zWr f p q w.toInt) (h0 : a0.toInt = 0) (h2 : a2.toInt = 2) (h5 : 0 ≤ a5.toInt) (h : (w.toInt < 8 ∧ (b0).toInt = 1 ∧ b1 = pl ∧ b2 = a2) ∨ (8 ≤ w.toInt ∧ b0 = a0 ∧ b1 = a1 ∧ (b2).toInt = 3 ∧ ∃ x : Int32, x.toInt = w.toInt - 8 ∧ R2 = upd R 7 x)) : zTP f p q pl a0 a1 a2 a3 a4 a5 R b0 b1 b2 a3 a4 a5 R2 := by
  have m : zMd a2 a3 = 2 := by rw [zMd_0 (by omega)]; exact h2
  rcases h with ⟨x, y, z, v⟩ | ⟨x, y, z, v, u⟩
  · exact ⟨Or.inr (Or.inr (Or.inl ⟨m, w, hw, Or.inl ⟨x, y⟩⟩)), fun _ => z, fun q9 => by omega, by rw [v]; omega, by omega⟩
  · have y0 : b0.toInt = 0 := by rw [y]; exact h0
    exact ⟨Or.inr (Or.inr (Or.inl ⟨m, w, hw, Or.inr ⟨x, y0, by rw [zMd_0 (by omega)]; exact v, rfl, rfl, u⟩⟩)), fun q9 => absurd y0 q9, fun _ => z, by omega, by omega⟩
theorem zTT3 {f : Nat → Int32} {p q : Nat} {w pl : Int32} {a0 a1 a2 a3 a4 a5 b0 b1 b2 b5 : Int32} {R : Nat → Int32} (hw : (w.toInt = 1 ∧ (f p).toInt = 59) ∨ (w.toInt = 0 ∧ ¬ (f p).toInt = 59)) (h0 : a0.toInt = 0) (h2 : a2.toInt = 3) (h5 : 0 ≤ a5.toInt) (h : (w.toInt = 0 ∧ (b0).toInt = 1 ∧ b1 = pl ∧ b2 = a2 ∧ b5 = a5) ∨ (¬ w.toInt = 0 ∧ b0 = a0 ∧ b1 = a1 ∧ (b2).toInt = 0 ∧ (b5).toInt = (a5).toInt + 1)) : zTP f p q pl a0 a1 a2 a3 a4 a5 R b0 b1 b2 a3 a4 b5 R := by
  have m : zMd a2 a3 = 3 := by rw [zMd_0 (by omega)]; exact h2
  rcases h with ⟨x, y, z, v, u⟩ | ⟨x, y, z, v, u⟩
  · exact ⟨Or.inr (Or.inr (Or.inr ⟨m, Or.inl ⟨by omega, y⟩⟩)), fun _ => z, fun q9 => by omega, by rw [v]; omega, by rw [u]; omega⟩
  · have y0 : b0.toInt = 0 := by rw [y]; exact h0
    exact ⟨Or.inr (Or.inr (Or.inr ⟨m, Or.inr ⟨by omega, y0, by rw [zMd_0 (by omega)]; exact v, rfl, u, rfl⟩⟩)), fun q9 => absurd y0 q9, fun _ => z, by omega, by omega⟩
def zVv (f : Nat → Int32) (n : Int) (a : Nat) (R0 : Nat → Int32) (fk fp : Int) (p : Nat) (md : Int) (td : Int32) (ln : Int) (R : Nat → Int32) : Prop := (fk = 0 ∧ fp = -1 ∧ ∀ (k g l : Int) (S : Nat → Int32), zRe f n p md td ln R k g l S → zRe f n a 0 0 0 R0 k g l S) ∨ (fk ≠ 0 ∧ ∀ (l : Int) (S : Nat → Int32), zRe f n a 0 0 0 R0 fk fp l S)
theorem zVv_0 (f : Nat → Int32) (n : Int) (a : Nat) (R : Nat → Int32) : zVv f n a R 0 (-1) a 0 0 0 R := Or.inl ⟨rfl, rfl, fun _ _ _ _ h => h⟩
theorem zVv_s {f : Nat → Int32} {n : Int} {a p q r : Nat} {pl : Int32} {R0 : Nat → Int32} {a0 a1 a2 a3 a4 a5 b0 b1 b2 b3 b4 b5 : Int32} {R R2 : Nat → Int32} (h : zVv f n a R0 a0.toInt a1.toInt p (zMd a2 a3) a4 a5.toInt R) (h0 : a0.toInt = 0) (hp : (p : Int) < n) (hk : zTk f n p q) (hr : zRun zBk f n q r) (hpl : pl.toInt = (p : Int)) (ht : zTP f p q pl a0 a1 a2 a3 a4 a5 R b0 b1 b2 b3 b4 b5 R2) : zVv f n a R0 b0.toInt b1.toInt r (zMd b2 b3) b4 b5.toInt R2 := by
  rcases h with ⟨_, h1, h2⟩ | ⟨h1, _⟩
  · obtain ⟨t, t1, t2, _, _⟩ := ht
    by_cases c : b0.toInt = 0
    · rw [c] at t
      exact Or.inl ⟨c, by rw [t2 c]; exact h1, fun k g l S hz => h2 k g l S (zRe_g hp hk hr t hz)⟩
    · refine Or.inr ⟨c, fun l S => h2 _ _ l S ?_⟩
      rw [t1 c, hpl]
      exact zRe_b hp hk t c
  · exact absurd h0 h1
theorem zVv_e {f : Nat → Int32} {n : Int} {a p : Nat} {w : Int32} {R0 : Nat → Int32} {a0 a1 a2 a3 a4 a5 b0 b1 : Int32} {R : Nat → Int32} (h : zVv f n a R0 a0.toInt a1.toInt p (zMd a2 a3) a4 a5.toInt R) (h0 : a0.toInt = 0) (hp : n ≤ (p : Int)) (hw : w.toInt = n) (h3 : 0 ≤ a2.toInt ∧ 0 ≤ a3.toInt) (he : (¬ (a2).toInt = 0 ∧ (b0).toInt = 1 ∧ b1 = w) ∨ ((a2).toInt = 0 ∧ (R 0).toInt ≤ (R 1).toInt ∧ (b0).toInt = 4 ∧ b1 = w) ∨ ((a2).toInt = 0 ∧ (R 1).toInt < (R 0).toInt ∧ b0 = a0 ∧ b1 = a1)) : zRe f n a 0 0 0 R0 b0.toInt b1.toInt a5.toInt R := by
  rcases h with ⟨_, h1, h2⟩ | ⟨h1, _⟩
  · have m : zMd a2 a3 = 0 ↔ a2.toInt = 0 := by
      by_cases c : a2.toInt = 1
      · rw [zMd_1 c]
        omega
      · rw [zMd_0 c]
    refine h2 _ _ _ _ (zRe_e hp ?_)
    rcases he with ⟨x, y, z⟩ | ⟨x, x2, y, z⟩ | ⟨x, x2, y, z⟩
    · exact Or.inl ⟨fun q9 => x (m.mp q9), y, by rw [z]; exact hw⟩
    · exact Or.inr (Or.inl ⟨m.mpr x, x2, y, by rw [z]; exact hw⟩)
    · exact Or.inr (Or.inr ⟨m.mpr x, x2, by rw [y]; exact h0, by rw [z]; exact h1, rfl, rfl⟩)
  · exact absurd h0 h1

set_option maxHeartbeats 8000000 in
set_option maxRecDepth 100000 in
theorem c_X6_takeToken_R (l : Launch) (D : va_G) (ca : Nat → ClassId) (sa : Nat → Nat) (A : Nat → Prop) (rest : va_W) (r0 : Nat → Nat) (r1 : Nat → Nat) (fi0 : Nat → Int32) (fl0 : Nat → Int64) (fa0 : Nat → Nat → Int32) (fb0 : Nat → Nat → Int64) (hv0 : Ok_RDR fi0 fa0) (fi1 : Nat → Int32) (fl1 : Nat → Int64) (fa1 : Nat → Nat → Int32) (fb1 : Nat → Nat → Int64) (hv1 : Ok_TAPE fi1 fa1) (p2 : Int32) (p3 : Int32) (hpre0 : 0 ≤ p2.toInt ∧ p2.toInt ≤ 599) (hpre1 : p3.toInt ≤ 600) (hpre2 : p2.toInt < p3.toInt) (hpre3 : zTk (fa1 0) (fi1 0).toInt p2.toNatClampNeg p3.toNatClampNeg) (hpre4 : 0 ≤ (fi0 5).toInt ∧ (fi0 5).toInt ≤ 600) (hpre5 : (fi0 0).toInt = 0) (hpre6 : 0 ≤ (fi0 2).toInt ∧ (fi0 2).toInt ≤ 3) : Met l yX6_takeToken wsX6_takeToken ({ frames := 5, cells := 0, slots := 0, locals := 112 }) (va_Pc [.ref (r0 0), .ref (r1 0), .int p2, .int p3] (zPre D ca sa A (w_RDR ca r0 fi0 fl0 fa0 fb0 (w_TAPE ca r1 fi1 fl1 fa1 fb1 (rest))))) (va_Qv (fun (u : zS) => Ok_RDR (zx [0, 1, 2, 3, 4, 5] fi0 u.1) (zx [0] fa0 u.2.2.1) ∧ (zTP (fa1 0) p2.toNatClampNeg p3.toNatClampNeg p2 (fi0 0) (fi0 1) (fi0 2) (fi0 3) (fi0 4) (fi0 5) (fa0 0) (u.1 0) (u.1 1) (u.1 2) (u.1 3) (u.1 4) (u.1 5) (u.2.2.1 0))) (fun u t => zPost D A (w_RDR ca r0 (zx [0, 1, 2, 3, 4, 5] fi0 u.1) (zx [] fl0 u.2.1) (zx [0] fa0 u.2.2.1) (zx [] fb0 u.2.2.2) (w_TAPE ca r1 fi1 fl1 fa1 fb1 (rest))) t) A) 0 0 A := by
  refine Met.ofW (cc := cX6_takeToken) (maxL := 4) (ret := none) (by decide) rfl ?_
  intro p e s m args below meth c s₁ B hml hv9
  obtain ⟨rfl, hE, hP, hD⟩ := hv9
  have hx := B.exec
  have hb := B.bytes
  have hr := B.returns
  have hts := atoms_spec (ws := wsX6_takeToken) B.pre
  have hown : s.vm.findClass RX6 = some m.cls := findClass_of_methodNamed B.named
  have hlocks := B.notSynchronized
  have hK := hE.1
  have hF : CallFix p m c cX6_takeToken 4 s _ wsX6_takeToken RX6 := ⟨hx, hb, hml, hown, hts⟩
  have hS : va_S A s.heap s.heap [] := va_S.rf
  have lk31 := hts (.fieldLink RX6 31 "BranchPlay$Reader" "awaited" "I") (by decide +kernel)
  have inX6 : ∀ w ∈ wsX60, w ∈ wsX6_takeToken := by decide +kernel
  obtain ⟨⟨hv0i3, hv0j3⟩, hv0x0⟩ := hv0
  obtain ⟨hv1i0, hv1j0⟩ := hv1
  generalize hHe : s.heap = H at hP
  have hS : va_S A s.heap H [] := by rw [← hHe]; exact hS
  have hP : va_P D vwCl (((r0 0), .inr (6, [.ref (r0 1), .int (fi0 0), .int (fi0 1), .int (fi0 2), .int (fi0 3), .int (fi0 4), .int (fi0 5)])) :: ((r0 1), .inl (ca 0, 8, .inl (fa0 0))) :: ((r1 0), .inr (7, [.ref (r1 1), .int (fi1 0)])) :: ((r1 1), .inl (ca 2, 600, .inl (fa1 0))) :: rest) H := hP
  have hD : va_D A (((r0 0), .inr (6, [.ref (r0 1), .int (fi0 0), .int (fi0 1), .int (fi0 2), .int (fi0 3), .int (fi0 4), .int (fi0 5)])) :: ((r0 1), .inl (ca 0, 8, .inl (fa0 0))) :: ((r1 0), .inr (7, [.ref (r1 1), .int (fi1 0)])) :: ((r1 1), .inl (ca 2, 600, .inl (fa1 0))) :: rest) := hD
  have hl := lv_entry ([.ref (r0 0), .ref (r1 0), .int p2, .int p3]) (n := 4) (Nat.le_of_ble_eq_true rfl)
  rw [lg_entry_eq]
  generalize (lg_sl ([.ref (r0 0), .ref (r1 0), .int p2, .int p3]) ++ List.replicate (4 - (lg_sl ([.ref (r0 0), .ref (r1 0), .int p2, .int p3])).length) Slot.unset).toArray = ls at hl ⊢
  have hl : lv_has ls 4 [(0, .ref (r0 0)), (1, .ref (r1 0)), (2, .int p2), (3, .int p3)] := hl
  generalize hQ9 : MQ below _ _ s 0 0 A = Q9
  refine lv_aload_n hx hb dX6_takeToken_0 rfl (lv_at hl 0 rfl) ?_
  refine va_get (D := D) (ci := 6) (v := .int (fi0 2)) (C := RX6) (T := TX6) (N := 7) hx hb hts inX6 hown hK hP 0 rfl rfl 3 (by decide) lk31 (fun _ h9 => h9) rfl dX6_takeToken_1 ?_
  by_cases c1 : (fi0 2).toInt = 0
  ·
    refine lv_tableIn (tgt := 32) hx hb dX6_takeToken_4 (by omega) (by omega) (by rw [c1]; rfl) (by decide) ?_
    refine lv_aload_n hx hb dX6_takeToken_32 rfl (lv_at hl 0 rfl) ?_
    refine lv_aload_n hx hb dX6_takeToken_33 rfl (lv_at hl 1 rfl) ?_
    refine lv_iload_n hx hb dX6_takeToken_34 rfl (lv_at hl 2 rfl) ?_
    refine lv_iload_n hx hb dX6_takeToken_35 rfl (lv_at hl 3 rfl) ?_
    have ho2 : (0 ≤ (fi1 0).toInt ∧ (fi1 0).toInt ≤ 600) := ⟨by omega, by omega⟩
    have hp3 : 0 ≤ p2.toInt ∧ p2.toInt ≤ 599 := by omega
    have hp4 : p3.toInt ≤ 600 := by omega
    have hp5 : p2.toInt < p3.toInt := by omega
    have hP9 := va_P.part (pl := rest) (X := [((r0 0), .inr (6, [.ref (r0 1), .int (fi0 0), .int (fi0 1), .int (fi0 2), .int (fi0 3), .int (fi0 4), .int (fi0 5)])), ((r0 1), .inl (ca 0, 8, .inl (fa0 0))), ((r1 0), .inr (7, [.ref (r1 1), .int (fi1 0)])), ((r1 1), .inl (ca 2, 600, .inl (fa1 0)))]) (cx := [((r1 0), .inr (7, [.ref (r1 1), .int (fi1 0)])), ((r1 1), .inl (ca 2, 600, .inl (fa1 0))), ((r0 0), .inr (6, [.ref (r0 1), .int (fi0 0), .int (fi0 1), .int (fi0 2), .int (fi0 3), .int (fi0 4), .int (fi0 5)])), ((r0 1), .inl (ca 0, 8, .inl (fa0 0)))]) hP [2, 3, 0, 1] rfl
    have hD9 := va_D.part (pl := rest) (X := [((r0 0), .inr (6, [.ref (r0 1), .int (fi0 0), .int (fi0 1), .int (fi0 2), .int (fi0 3), .int (fi0 4), .int (fi0 5)])), ((r0 1), .inl (ca 0, 8, .inl (fa0 0))), ((r1 0), .inr (7, [.ref (r1 1), .int (fi1 0)])), ((r1 1), .inl (ca 2, 600, .inl (fa1 0)))]) (cx := [((r1 0), .inr (7, [.ref (r1 1), .int (fi1 0)])), ((r1 1), .inl (ca 2, 600, .inl (fa1 0))), ((r0 0), .inr (6, [.ref (r0 1), .int (fi0 0), .int (fi0 1), .int (fi0 2), .int (fi0 3), .int (fi0 4), .int (fi0 5)])), ((r0 1), .inl (ca 0, 8, .inl (fa0 0)))]) hD [2, 3, 0, 1] (by decide) rfl
    refine z_iV (As := [.int p2, .int p3]) (rest := [.ref (r0 0)]) hF (c_X7_wordAt_R l D ca sa A (((r0 0), .inr (6, [.ref (r0 1), .int (fi0 0), .int (fi0 1), .int (fi0 2), .int (fi0 3), .int (fi0 4), .int (fi0 5)])) :: ((r0 1), .inl (ca 0, 8, .inl (fa0 0))) :: rest) (zl 0 [(r1 0), (r1 1)]) (zl 0 [(fi1 0)]) (zl 0 []) (zl (fun _ => 0) [(fa1 0)]) (zl (fun _ => 0) []) ho2 p2 p3 hp3 hp4 hp5) (cwV 2 hts gX6_takeToken_X7_wordAt rfl rfl rfl (by decide +kernel) ⟨Nat.le_of_ble_eq_true rfl, Nat.le_of_ble_eq_true rfl⟩) hE hP9 hD9 hS 7 0 rfl rfl rfl hl.1 rfl (Nat.le_of_ble_eq_true rfl) dX6_takeToken_36 ⟨Nat.zero_le _, Nat.zero_le _⟩ (fun t7 u6 H locs hw8 hP hD hS => ?_)
    replace hw8 : (zWr (fa1 0) p2.toNatClampNeg p3.toNatClampNeg (t7).toInt) := hw8
    have hq9 := hw8
    clear hw8
    have hP := va_P.part (pl := rest) (X := [((r1 0), .inr (7, [.ref (r1 1), .int (fi1 0)])), ((r1 1), .inl (ca 2, 600, .inl (fa1 0))), ((r0 0), .inr (6, [.ref (r0 1), .int (fi0 0), .int (fi0 1), .int (fi0 2), .int (fi0 3), .int (fi0 4), .int (fi0 5)])), ((r0 1), .inl (ca 0, 8, .inl (fa0 0)))]) (cx := [((r0 0), .inr (6, [.ref (r0 1), .int (fi0 0), .int (fi0 1), .int (fi0 2), .int (fi0 3), .int (fi0 4), .int (fi0 5)])), ((r0 1), .inl (ca 0, 8, .inl (fa0 0))), ((r1 0), .inr (7, [.ref (r1 1), .int (fi1 0)])), ((r1 1), .inl (ca 2, 600, .inl (fa1 0)))]) hP [2, 3, 0, 1] rfl
    have hD := va_D.part (pl := rest) (X := [((r1 0), .inr (7, [.ref (r1 1), .int (fi1 0)])), ((r1 1), .inl (ca 2, 600, .inl (fa1 0))), ((r0 0), .inr (6, [.ref (r0 1), .int (fi0 0), .int (fi0 1), .int (fi0 2), .int (fi0 3), .int (fi0 4), .int (fi0 5)])), ((r0 1), .inl (ca 0, 8, .inl (fa0 0)))]) (cx := [((r0 0), .inr (6, [.ref (r0 1), .int (fi0 0), .int (fi0 1), .int (fi0 2), .int (fi0 3), .int (fi0 4), .int (fi0 5)])), ((r0 1), .inl (ca 0, 8, .inl (fa0 0))), ((r1 0), .inr (7, [.ref (r1 1), .int (fi1 0)])), ((r1 1), .inl (ca 2, 600, .inl (fa1 0)))]) hD [2, 3, 0, 1] (by decide) rfl
    have hP : va_P D vwCl (((r0 0), .inr (6, [.ref (r0 1), .int (fi0 0), .int (fi0 1), .int (fi0 2), .int (fi0 3), .int (fi0 4), .int (fi0 5)])) :: ((r0 1), .inl (ca 0, 8, .inl (fa0 0))) :: ((r1 0), .inr (7, [.ref (r1 1), .int (fi1 0)])) :: ((r1 1), .inl (ca 2, 600, .inl (fa1 0))) :: rest) H := hP
    have hD : va_D A (((r0 0), .inr (6, [.ref (r0 1), .int (fi0 0), .int (fi0 1), .int (fi0 2), .int (fi0 3), .int (fi0 4), .int (fi0 5)])) :: ((r0 1), .inl (ca 0, 8, .inl (fa0 0))) :: ((r1 0), .inr (7, [.ref (r1 1), .int (fi1 0)])) :: ((r1 1), .inl (ca 2, 600, .inl (fa1 0))) :: rest) := hD
    have hwr9 := zWr_r hq9
    refine lv_iload_n hx hb dX6_takeToken_39 rfl (lv_at hl 2 rfl) ?_
    have ho10 : (0 ≤ (fi0 3).toInt ∧ (fi0 3).toInt ≤ 7) ∧ ((fi0 2).toInt = 1 → (fi0 3).toInt ≤ 6) := ⟨⟨by omega, by omega⟩, by omega⟩
    refine z_vV (As := [.int t7, .int p2]) (rest := []) hF (c_X6_takeLineWord_R l D ca sa A (((r1 0), .inr (7, [.ref (r1 1), .int (fi1 0)])) :: ((r1 1), .inl (ca 2, 600, .inl (fa1 0))) :: rest) (zl 0 [(r0 0), (r0 1)]) (zl 0 [(fi0 0), (fi0 1), (fi0 2), (fi0 3), (fi0 4), (fi0 5)]) (zl 0 []) (zl (fun _ => 0) [(fa0 0)]) (zl (fun _ => 0) []) ho10 t7 p2) (cwV 2 hts gX6_takeToken_X6_takeLineWord rfl rfl rfl (by decide +kernel) ⟨Nat.le_of_ble_eq_true rfl, Nat.le_of_ble_eq_true rfl⟩) hE hP hD hS 6 0 rfl rfl rfl hl.1 rfl (Nat.le_of_ble_eq_true rfl) dX6_takeToken_40 ⟨Nat.zero_le _, Nat.zero_le _⟩ (fun u11 H locs hw13 hP hD hS => ?_)
    obtain ⟨im14, lm14, am14, bm14⟩ := u11
    replace hw13 : ((0 ≤ (im14 3).toInt ∧ (im14 3).toInt ≤ 7) ∧ ((im14 2).toInt = 1 → (im14 3).toInt ≤ 6)) ∧ ((¬ (0 ≤ t7.toInt ∧ t7.toInt < 8) ∧ ((im14 0)).toInt = 1 ∧ (im14 1) = p2 ∧ (im14 2) = (fi0 2)) ∨ (0 ≤ t7.toInt ∧ t7.toInt < 8 ∧ zTb (fi0 4) t7 ∧ ((im14 0)).toInt = 3 ∧ (im14 1) = p2 ∧ (im14 2) = (fi0 2)) ∨ (0 ≤ t7.toInt ∧ t7.toInt < 8 ∧ ¬ zTb (fi0 4) t7 ∧ (im14 0) = (fi0 0) ∧ (im14 1) = (fi0 1) ∧ ((t7.toInt = 7 ∧ ((im14 2)).toInt = 2) ∨ (t7.toInt < 7 ∧ ((im14 2)).toInt = 1)) ∧ (im14 3) = t7 ∧ (im14 4) = zTs (fi0 4) t7)) := hw13
    obtain ⟨⟨⟨hm14i3, hm14j3⟩, hm14x0⟩, hq15⟩ := hw13
    have hP : va_P D vwCl (((r0 0), .inr (6, [.ref (r0 1), .int (im14 0), .int (im14 1), .int (im14 2), .int (im14 3), .int (im14 4), .int (fi0 5)])) :: ((r0 1), .inl (ca 0, 8, .inl (fa0 0))) :: ((r1 0), .inr (7, [.ref (r1 1), .int (fi1 0)])) :: ((r1 1), .inl (ca 2, 600, .inl (fa1 0))) :: rest) H := hP
    have hD : va_D A (((r0 0), .inr (6, [.ref (r0 1), .int (im14 0), .int (im14 1), .int (im14 2), .int (im14 3), .int (im14 4), .int (fi0 5)])) :: ((r0 1), .inl (ca 0, 8, .inl (fa0 0))) :: ((r1 0), .inr (7, [.ref (r1 1), .int (fi1 0)])) :: ((r1 1), .inl (ca 2, 600, .inl (fa1 0))) :: rest) := hD
    refine lv_goto (tgt := 84) hx hb dX6_takeToken_43 (by decide) ?_
    rw [← hQ9]
    have ho16 : (0 ≤ (im14 3).toInt ∧ (im14 3).toInt ≤ 7) ∧ ((im14 2).toInt = 1 → (im14 3).toInt ≤ 6) := ⟨⟨by omega, by omega⟩, by omega⟩
    have hq17 : zTP (fa1 0) p2.toNatClampNeg p3.toNatClampNeg p2 (fi0 0) (fi0 1) (fi0 2) (fi0 3) (fi0 4) (fi0 5) (fa0 0) (im14 0) (im14 1) (im14 2) (im14 3) (im14 4) (fi0 5) (fa0 0) := zTT0 hq9 (by omega) (by omega) (by omega) hq15
    exact W.vret hx hb hr (fun t ht hW => ⟨⟨((zl 0 [(im14 0), (im14 1), (im14 2), (im14 3), (im14 4), (fi0 5)]), (zl 0 []), (zl (fun _ => 0) [(fa0 0)]), (zl (fun _ => 0) [])), rfl, ⟨ho16, hq17⟩, ⟨by rw [ht]; exact hP, hD⟩⟩, hS.F ht⟩) hS.2.2 dX6_takeToken_84
  by_cases c18 : (fi0 2).toInt = 1
  ·
    refine lv_tableIn (tgt := 46) hx hb dX6_takeToken_4 (by omega) (by omega) (by rw [c18]; rfl) (by decide) ?_
    refine lv_aload_n hx hb dX6_takeToken_46 rfl (lv_at hl 0 rfl) ?_
    refine lv_aload_n hx hb dX6_takeToken_47 rfl (lv_at hl 1 rfl) ?_
    refine lv_iload_n hx hb dX6_takeToken_48 rfl (lv_at hl 2 rfl) ?_
    refine lv_iload_n hx hb dX6_takeToken_49 rfl (lv_at hl 3 rfl) ?_
    have ho19 : (0 ≤ (fi1 0).toInt ∧ (fi1 0).toInt ≤ 600) := ⟨by omega, by omega⟩
    have hp20 : 0 ≤ p2.toInt ∧ p2.toInt ≤ 599 := by omega
    have hp21 : p3.toInt ≤ 600 := by omega
    have hp22 : zTk (fa1 0) (fi1 0).toInt p2.toNatClampNeg p3.toNatClampNeg := hpre3
    have hp23 : p2.toInt < p3.toInt := by omega
    have hP9 := va_P.part (pl := rest) (X := [((r0 0), .inr (6, [.ref (r0 1), .int (fi0 0), .int (fi0 1), .int (fi0 2), .int (fi0 3), .int (fi0 4), .int (fi0 5)])), ((r0 1), .inl (ca 0, 8, .inl (fa0 0))), ((r1 0), .inr (7, [.ref (r1 1), .int (fi1 0)])), ((r1 1), .inl (ca 2, 600, .inl (fa1 0)))]) (cx := [((r1 0), .inr (7, [.ref (r1 1), .int (fi1 0)])), ((r1 1), .inl (ca 2, 600, .inl (fa1 0))), ((r0 0), .inr (6, [.ref (r0 1), .int (fi0 0), .int (fi0 1), .int (fi0 2), .int (fi0 3), .int (fi0 4), .int (fi0 5)])), ((r0 1), .inl (ca 0, 8, .inl (fa0 0)))]) hP [2, 3, 0, 1] rfl
    have hD9 := va_D.part (pl := rest) (X := [((r0 0), .inr (6, [.ref (r0 1), .int (fi0 0), .int (fi0 1), .int (fi0 2), .int (fi0 3), .int (fi0 4), .int (fi0 5)])), ((r0 1), .inl (ca 0, 8, .inl (fa0 0))), ((r1 0), .inr (7, [.ref (r1 1), .int (fi1 0)])), ((r1 1), .inl (ca 2, 600, .inl (fa1 0)))]) (cx := [((r1 0), .inr (7, [.ref (r1 1), .int (fi1 0)])), ((r1 1), .inl (ca 2, 600, .inl (fa1 0))), ((r0 0), .inr (6, [.ref (r0 1), .int (fi0 0), .int (fi0 1), .int (fi0 2), .int (fi0 3), .int (fi0 4), .int (fi0 5)])), ((r0 1), .inl (ca 0, 8, .inl (fa0 0)))]) hD [2, 3, 0, 1] (by decide) rfl
    refine z_iV (As := [.int p2, .int p3]) (rest := [.ref (r0 0)]) hF (c_X7_numberAt_R l D ca sa A (((r0 0), .inr (6, [.ref (r0 1), .int (fi0 0), .int (fi0 1), .int (fi0 2), .int (fi0 3), .int (fi0 4), .int (fi0 5)])) :: ((r0 1), .inl (ca 0, 8, .inl (fa0 0))) :: rest) (zl 0 [(r1 0), (r1 1)]) (zl 0 [(fi1 0)]) (zl 0 []) (zl (fun _ => 0) [(fa1 0)]) (zl (fun _ => 0) []) ho19 p2 p3 hp20 hp21 hp22 hp23) (cwV 2 hts gX6_takeToken_X7_numberAt rfl rfl rfl (by decide +kernel) ⟨Nat.le_of_ble_eq_true rfl, Nat.le_of_ble_eq_true rfl⟩) hE hP9 hD9 hS 7 0 rfl rfl rfl hl.1 rfl (Nat.le_of_ble_eq_true rfl) dX6_takeToken_50 ⟨Nat.zero_le _, Nat.zero_le _⟩ (fun t25 u24 H locs hw26 hP hD hS => ?_)
    replace hw26 : (((t25).toInt = -1 ∧ (¬ zDg ((fa1 0) p2.toNatClampNeg) ∨ 3 < p3.toInt - p2.toInt)) ∨ (zDg ((fa1 0) p2.toNatClampNeg) ∧ p3.toInt - p2.toInt ≤ 3 ∧ (t25).toInt = zVal (fa1 0) p2.toNatClampNeg (p3.toNatClampNeg - p2.toNatClampNeg) ∧ 0 ≤ (t25).toInt)) := hw26
    have hq27 := hw26
    clear hw26
    have hP := va_P.part (pl := rest) (X := [((r1 0), .inr (7, [.ref (r1 1), .int (fi1 0)])), ((r1 1), .inl (ca 2, 600, .inl (fa1 0))), ((r0 0), .inr (6, [.ref (r0 1), .int (fi0 0), .int (fi0 1), .int (fi0 2), .int (fi0 3), .int (fi0 4), .int (fi0 5)])), ((r0 1), .inl (ca 0, 8, .inl (fa0 0)))]) (cx := [((r0 0), .inr (6, [.ref (r0 1), .int (fi0 0), .int (fi0 1), .int (fi0 2), .int (fi0 3), .int (fi0 4), .int (fi0 5)])), ((r0 1), .inl (ca 0, 8, .inl (fa0 0))), ((r1 0), .inr (7, [.ref (r1 1), .int (fi1 0)])), ((r1 1), .inl (ca 2, 600, .inl (fa1 0)))]) hP [2, 3, 0, 1] rfl
    have hD := va_D.part (pl := rest) (X := [((r1 0), .inr (7, [.ref (r1 1), .int (fi1 0)])), ((r1 1), .inl (ca 2, 600, .inl (fa1 0))), ((r0 0), .inr (6, [.ref (r0 1), .int (fi0 0), .int (fi0 1), .int (fi0 2), .int (fi0 3), .int (fi0 4), .int (fi0 5)])), ((r0 1), .inl (ca 0, 8, .inl (fa0 0)))]) (cx := [((r0 0), .inr (6, [.ref (r0 1), .int (fi0 0), .int (fi0 1), .int (fi0 2), .int (fi0 3), .int (fi0 4), .int (fi0 5)])), ((r0 1), .inl (ca 0, 8, .inl (fa0 0))), ((r1 0), .inr (7, [.ref (r1 1), .int (fi1 0)])), ((r1 1), .inl (ca 2, 600, .inl (fa1 0)))]) hD [2, 3, 0, 1] (by decide) rfl
    have hP : va_P D vwCl (((r0 0), .inr (6, [.ref (r0 1), .int (fi0 0), .int (fi0 1), .int (fi0 2), .int (fi0 3), .int (fi0 4), .int (fi0 5)])) :: ((r0 1), .inl (ca 0, 8, .inl (fa0 0))) :: ((r1 0), .inr (7, [.ref (r1 1), .int (fi1 0)])) :: ((r1 1), .inl (ca 2, 600, .inl (fa1 0))) :: rest) H := hP
    have hD : va_D A (((r0 0), .inr (6, [.ref (r0 1), .int (fi0 0), .int (fi0 1), .int (fi0 2), .int (fi0 3), .int (fi0 4), .int (fi0 5)])) :: ((r0 1), .inl (ca 0, 8, .inl (fa0 0))) :: ((r1 0), .inr (7, [.ref (r1 1), .int (fi1 0)])) :: ((r1 1), .inl (ca 2, 600, .inl (fa1 0))) :: rest) := hD
    refine lv_iload_n hx hb dX6_takeToken_53 rfl (lv_at hl 2 rfl) ?_
    have ho28 : (0 ≤ (fi0 3).toInt ∧ (fi0 3).toInt ≤ 7) ∧ ((fi0 2).toInt = 1 → (fi0 3).toInt ≤ 6) := ⟨⟨by omega, by omega⟩, by omega⟩
    have hp29 : (fi0 2).toInt = 1 := by omega
    refine z_vV (As := [.int t25, .int p2]) (rest := []) hF (c_X6_takeNumber_R l D ca sa A (((r1 0), .inr (7, [.ref (r1 1), .int (fi1 0)])) :: ((r1 1), .inl (ca 2, 600, .inl (fa1 0))) :: rest) (zl 0 [(r0 0), (r0 1)]) (zl 0 [(fi0 0), (fi0 1), (fi0 2), (fi0 3), (fi0 4), (fi0 5)]) (zl 0 []) (zl (fun _ => 0) [(fa0 0)]) (zl (fun _ => 0) []) ho28 t25 p2 hp29) (cwV 2 hts gX6_takeToken_X6_takeNumber rfl rfl rfl (by decide +kernel) ⟨Nat.le_of_ble_eq_true rfl, Nat.le_of_ble_eq_true rfl⟩) hE hP hD hS 6 0 rfl rfl rfl hl.1 rfl (Nat.le_of_ble_eq_true rfl) dX6_takeToken_54 ⟨Nat.zero_le _, Nat.zero_le _⟩ (fun u30 H locs hw32 hP hD hS => ?_)
    obtain ⟨im33, lm33, am33, bm33⟩ := u30
    replace hw32 : ((0 ≤ (fi0 3).toInt ∧ (fi0 3).toInt ≤ 7) ∧ ((im33 2).toInt = 1 → (fi0 3).toInt ≤ 6)) ∧ ((t25.toInt = -1 ∧ ((im33 0)).toInt = 1 ∧ (im33 1) = p2 ∧ (im33 2) = (fi0 2)) ∨ (¬ t25.toInt = -1 ∧ ¬ zIb ((fi0 3)).toInt t25.toInt ∧ ((im33 0)).toInt = 2 ∧ (im33 1) = p2 ∧ (im33 2) = (fi0 2)) ∨ (¬ t25.toInt = -1 ∧ zIb ((fi0 3)).toInt t25.toInt ∧ (im33 0) = (fi0 0) ∧ (im33 1) = (fi0 1) ∧ ((im33 2)).toInt = 3 ∧ (am33 0) = upd (fa0 0) ((fi0 3)).toNatClampNeg t25)) := hw32
    obtain ⟨⟨-, hm33x0⟩, hq34⟩ := hw32
    have hP : va_P D vwCl (((r0 0), .inr (6, [.ref (r0 1), .int (im33 0), .int (im33 1), .int (im33 2), .int (fi0 3), .int (fi0 4), .int (fi0 5)])) :: ((r0 1), .inl (ca 0, 8, .inl (am33 0))) :: ((r1 0), .inr (7, [.ref (r1 1), .int (fi1 0)])) :: ((r1 1), .inl (ca 2, 600, .inl (fa1 0))) :: rest) H := hP
    have hD : va_D A (((r0 0), .inr (6, [.ref (r0 1), .int (im33 0), .int (im33 1), .int (im33 2), .int (fi0 3), .int (fi0 4), .int (fi0 5)])) :: ((r0 1), .inl (ca 0, 8, .inl (am33 0))) :: ((r1 0), .inr (7, [.ref (r1 1), .int (fi1 0)])) :: ((r1 1), .inl (ca 2, 600, .inl (fa1 0))) :: rest) := hD
    refine lv_goto (tgt := 84) hx hb dX6_takeToken_57 (by decide) ?_
    rw [← hQ9]
    have ho35 : (0 ≤ (fi0 3).toInt ∧ (fi0 3).toInt ≤ 7) ∧ ((im33 2).toInt = 1 → (fi0 3).toInt ≤ 6) := ⟨⟨by omega, by omega⟩, by omega⟩
    have hq36 : zTP (fa1 0) p2.toNatClampNeg p3.toNatClampNeg p2 (fi0 0) (fi0 1) (fi0 2) (fi0 3) (fi0 4) (fi0 5) (fa0 0) (im33 0) (im33 1) (im33 2) (fi0 3) (fi0 4) (fi0 5) (am33 0) := zTT1 (by have q9 := hq27; rw [z_cl p2, z_cl p3]; rw [Int.toNat_of_nonneg (by omega), Int.toNat_of_nonneg (by omega)]; rw [z_cl p2, z_cl p3] at q9; exact q9) (by omega) (by omega) (by omega) (by omega) hq34 (Or.inr rfl)
    exact W.vret hx hb hr (fun t ht hW => ⟨⟨((zl 0 [(im33 0), (im33 1), (im33 2), (fi0 3), (fi0 4), (fi0 5)]), (zl 0 []), (zl (fun _ => 0) [(am33 0)]), (zl (fun _ => 0) [])), rfl, ⟨ho35, hq36⟩, ⟨by rw [ht]; exact hP, hD⟩⟩, hS.F ht⟩) hS.2.2 dX6_takeToken_84
  by_cases c37 : (fi0 2).toInt = 2
  ·
    refine lv_tableIn (tgt := 60) hx hb dX6_takeToken_4 (by omega) (by omega) (by rw [c37]; rfl) (by decide) ?_
    refine lv_aload_n hx hb dX6_takeToken_60 rfl (lv_at hl 0 rfl) ?_
    refine lv_aload_n hx hb dX6_takeToken_61 rfl (lv_at hl 1 rfl) ?_
    refine lv_iload_n hx hb dX6_takeToken_62 rfl (lv_at hl 2 rfl) ?_
    refine lv_iload_n hx hb dX6_takeToken_63 rfl (lv_at hl 3 rfl) ?_
    have ho38 : (0 ≤ (fi1 0).toInt ∧ (fi1 0).toInt ≤ 600) := ⟨by omega, by omega⟩
    have hp39 : 0 ≤ p2.toInt ∧ p2.toInt ≤ 599 := by omega
    have hp40 : p3.toInt ≤ 600 := by omega
    have hp41 : p2.toInt < p3.toInt := by omega
    have hP9 := va_P.part (pl := rest) (X := [((r0 0), .inr (6, [.ref (r0 1), .int (fi0 0), .int (fi0 1), .int (fi0 2), .int (fi0 3), .int (fi0 4), .int (fi0 5)])), ((r0 1), .inl (ca 0, 8, .inl (fa0 0))), ((r1 0), .inr (7, [.ref (r1 1), .int (fi1 0)])), ((r1 1), .inl (ca 2, 600, .inl (fa1 0)))]) (cx := [((r1 0), .inr (7, [.ref (r1 1), .int (fi1 0)])), ((r1 1), .inl (ca 2, 600, .inl (fa1 0))), ((r0 0), .inr (6, [.ref (r0 1), .int (fi0 0), .int (fi0 1), .int (fi0 2), .int (fi0 3), .int (fi0 4), .int (fi0 5)])), ((r0 1), .inl (ca 0, 8, .inl (fa0 0)))]) hP [2, 3, 0, 1] rfl
    have hD9 := va_D.part (pl := rest) (X := [((r0 0), .inr (6, [.ref (r0 1), .int (fi0 0), .int (fi0 1), .int (fi0 2), .int (fi0 3), .int (fi0 4), .int (fi0 5)])), ((r0 1), .inl (ca 0, 8, .inl (fa0 0))), ((r1 0), .inr (7, [.ref (r1 1), .int (fi1 0)])), ((r1 1), .inl (ca 2, 600, .inl (fa1 0)))]) (cx := [((r1 0), .inr (7, [.ref (r1 1), .int (fi1 0)])), ((r1 1), .inl (ca 2, 600, .inl (fa1 0))), ((r0 0), .inr (6, [.ref (r0 1), .int (fi0 0), .int (fi0 1), .int (fi0 2), .int (fi0 3), .int (fi0 4), .int (fi0 5)])), ((r0 1), .inl (ca 0, 8, .inl (fa0 0)))]) hD [2, 3, 0, 1] (by decide) rfl
    refine z_iV (As := [.int p2, .int p3]) (rest := [.ref (r0 0)]) hF (c_X7_wordAt_R l D ca sa A (((r0 0), .inr (6, [.ref (r0 1), .int (fi0 0), .int (fi0 1), .int (fi0 2), .int (fi0 3), .int (fi0 4), .int (fi0 5)])) :: ((r0 1), .inl (ca 0, 8, .inl (fa0 0))) :: rest) (zl 0 [(r1 0), (r1 1)]) (zl 0 [(fi1 0)]) (zl 0 []) (zl (fun _ => 0) [(fa1 0)]) (zl (fun _ => 0) []) ho38 p2 p3 hp39 hp40 hp41) (cwV 2 hts gX6_takeToken_X7_wordAt rfl rfl rfl (by decide +kernel) ⟨Nat.le_of_ble_eq_true rfl, Nat.le_of_ble_eq_true rfl⟩) hE hP9 hD9 hS 7 0 rfl rfl rfl hl.1 rfl (Nat.le_of_ble_eq_true rfl) dX6_takeToken_64 ⟨Nat.zero_le _, Nat.zero_le _⟩ (fun t43 u42 H locs hw44 hP hD hS => ?_)
    replace hw44 : (zWr (fa1 0) p2.toNatClampNeg p3.toNatClampNeg (t43).toInt) := hw44
    have hq45 := hw44
    clear hw44
    have hP := va_P.part (pl := rest) (X := [((r1 0), .inr (7, [.ref (r1 1), .int (fi1 0)])), ((r1 1), .inl (ca 2, 600, .inl (fa1 0))), ((r0 0), .inr (6, [.ref (r0 1), .int (fi0 0), .int (fi0 1), .int (fi0 2), .int (fi0 3), .int (fi0 4), .int (fi0 5)])), ((r0 1), .inl (ca 0, 8, .inl (fa0 0)))]) (cx := [((r0 0), .inr (6, [.ref (r0 1), .int (fi0 0), .int (fi0 1), .int (fi0 2), .int (fi0 3), .int (fi0 4), .int (fi0 5)])), ((r0 1), .inl (ca 0, 8, .inl (fa0 0))), ((r1 0), .inr (7, [.ref (r1 1), .int (fi1 0)])), ((r1 1), .inl (ca 2, 600, .inl (fa1 0)))]) hP [2, 3, 0, 1] rfl
    have hD := va_D.part (pl := rest) (X := [((r1 0), .inr (7, [.ref (r1 1), .int (fi1 0)])), ((r1 1), .inl (ca 2, 600, .inl (fa1 0))), ((r0 0), .inr (6, [.ref (r0 1), .int (fi0 0), .int (fi0 1), .int (fi0 2), .int (fi0 3), .int (fi0 4), .int (fi0 5)])), ((r0 1), .inl (ca 0, 8, .inl (fa0 0)))]) (cx := [((r0 0), .inr (6, [.ref (r0 1), .int (fi0 0), .int (fi0 1), .int (fi0 2), .int (fi0 3), .int (fi0 4), .int (fi0 5)])), ((r0 1), .inl (ca 0, 8, .inl (fa0 0))), ((r1 0), .inr (7, [.ref (r1 1), .int (fi1 0)])), ((r1 1), .inl (ca 2, 600, .inl (fa1 0)))]) hD [2, 3, 0, 1] (by decide) rfl
    have hP : va_P D vwCl (((r0 0), .inr (6, [.ref (r0 1), .int (fi0 0), .int (fi0 1), .int (fi0 2), .int (fi0 3), .int (fi0 4), .int (fi0 5)])) :: ((r0 1), .inl (ca 0, 8, .inl (fa0 0))) :: ((r1 0), .inr (7, [.ref (r1 1), .int (fi1 0)])) :: ((r1 1), .inl (ca 2, 600, .inl (fa1 0))) :: rest) H := hP
    have hD : va_D A (((r0 0), .inr (6, [.ref (r0 1), .int (fi0 0), .int (fi0 1), .int (fi0 2), .int (fi0 3), .int (fi0 4), .int (fi0 5)])) :: ((r0 1), .inl (ca 0, 8, .inl (fa0 0))) :: ((r1 0), .inr (7, [.ref (r1 1), .int (fi1 0)])) :: ((r1 1), .inl (ca 2, 600, .inl (fa1 0))) :: rest) := hD
    have hwr9 := zWr_r hq45
    refine lv_iload_n hx hb dX6_takeToken_67 rfl (lv_at hl 2 rfl) ?_
    have ho46 : (0 ≤ (fi0 3).toInt ∧ (fi0 3).toInt ≤ 7) ∧ ((fi0 2).toInt = 1 → (fi0 3).toInt ≤ 6) := ⟨⟨by omega, by omega⟩, by omega⟩
    have hp47 : t43.toInt ≤ 10 := by omega
    refine z_vV (As := [.int t43, .int p2]) (rest := []) hF (c_X6_takePick_R l D ca sa A (((r1 0), .inr (7, [.ref (r1 1), .int (fi1 0)])) :: ((r1 1), .inl (ca 2, 600, .inl (fa1 0))) :: rest) (zl 0 [(r0 0), (r0 1)]) (zl 0 [(fi0 0), (fi0 1), (fi0 2), (fi0 3), (fi0 4), (fi0 5)]) (zl 0 []) (zl (fun _ => 0) [(fa0 0)]) (zl (fun _ => 0) []) ho46 t43 p2 hp47) (cwV 2 hts gX6_takeToken_X6_takePick rfl rfl rfl (by decide +kernel) ⟨Nat.le_of_ble_eq_true rfl, Nat.le_of_ble_eq_true rfl⟩) hE hP hD hS 6 0 rfl rfl rfl hl.1 rfl (Nat.le_of_ble_eq_true rfl) dX6_takeToken_68 ⟨Nat.zero_le _, Nat.zero_le _⟩ (fun u48 H locs hw50 hP hD hS => ?_)
    obtain ⟨im51, lm51, am51, bm51⟩ := u48
    replace hw50 : ((0 ≤ (fi0 3).toInt ∧ (fi0 3).toInt ≤ 7) ∧ ((im51 2).toInt = 1 → (fi0 3).toInt ≤ 6)) ∧ ((t43.toInt < 8 ∧ ((im51 0)).toInt = 1 ∧ (im51 1) = p2 ∧ (im51 2) = (fi0 2)) ∨ (8 ≤ t43.toInt ∧ (im51 0) = (fi0 0) ∧ (im51 1) = (fi0 1) ∧ ((im51 2)).toInt = 3 ∧ ∃ x : Int32, x.toInt = t43.toInt - 8 ∧ (am51 0) = upd (fa0 0) 7 x)) := hw50
    obtain ⟨⟨-, hm51x0⟩, hq52⟩ := hw50
    have hP : va_P D vwCl (((r0 0), .inr (6, [.ref (r0 1), .int (im51 0), .int (im51 1), .int (im51 2), .int (fi0 3), .int (fi0 4), .int (fi0 5)])) :: ((r0 1), .inl (ca 0, 8, .inl (am51 0))) :: ((r1 0), .inr (7, [.ref (r1 1), .int (fi1 0)])) :: ((r1 1), .inl (ca 2, 600, .inl (fa1 0))) :: rest) H := hP
    have hD : va_D A (((r0 0), .inr (6, [.ref (r0 1), .int (im51 0), .int (im51 1), .int (im51 2), .int (fi0 3), .int (fi0 4), .int (fi0 5)])) :: ((r0 1), .inl (ca 0, 8, .inl (am51 0))) :: ((r1 0), .inr (7, [.ref (r1 1), .int (fi1 0)])) :: ((r1 1), .inl (ca 2, 600, .inl (fa1 0))) :: rest) := hD
    refine lv_goto (tgt := 84) hx hb dX6_takeToken_71 (by decide) ?_
    rw [← hQ9]
    have ho53 : (0 ≤ (fi0 3).toInt ∧ (fi0 3).toInt ≤ 7) ∧ ((im51 2).toInt = 1 → (fi0 3).toInt ≤ 6) := ⟨⟨by omega, by omega⟩, by omega⟩
    have hq54 : zTP (fa1 0) p2.toNatClampNeg p3.toNatClampNeg p2 (fi0 0) (fi0 1) (fi0 2) (fi0 3) (fi0 4) (fi0 5) (fa0 0) (im51 0) (im51 1) (im51 2) (fi0 3) (fi0 4) (fi0 5) (am51 0) := zTT2 hq45 (by omega) (by omega) (by omega) hq52
    exact W.vret hx hb hr (fun t ht hW => ⟨⟨((zl 0 [(im51 0), (im51 1), (im51 2), (fi0 3), (fi0 4), (fi0 5)]), (zl 0 []), (zl (fun _ => 0) [(am51 0)]), (zl (fun _ => 0) [])), rfl, ⟨ho53, hq54⟩, ⟨by rw [ht]; exact hP, hD⟩⟩, hS.F ht⟩) hS.2.2 dX6_takeToken_84
  refine lv_tableOut (tgt := 74) hx hb dX6_takeToken_4 (by omega) (by decide) ?_
  refine lv_aload_n hx hb dX6_takeToken_74 rfl (lv_at hl 0 rfl) ?_
  refine lv_aload_n hx hb dX6_takeToken_75 rfl (lv_at hl 1 rfl) ?_
  refine lv_iload_n hx hb dX6_takeToken_76 rfl (lv_at hl 2 rfl) ?_
  have ho55 : (0 ≤ (fi1 0).toInt ∧ (fi1 0).toInt ≤ 600) := ⟨by omega, by omega⟩
  have hp56 : 0 ≤ p2.toInt ∧ p2.toInt ≤ 599 := by omega
  have hP9 := va_P.part (pl := rest) (X := [((r0 0), .inr (6, [.ref (r0 1), .int (fi0 0), .int (fi0 1), .int (fi0 2), .int (fi0 3), .int (fi0 4), .int (fi0 5)])), ((r0 1), .inl (ca 0, 8, .inl (fa0 0))), ((r1 0), .inr (7, [.ref (r1 1), .int (fi1 0)])), ((r1 1), .inl (ca 2, 600, .inl (fa1 0)))]) (cx := [((r1 0), .inr (7, [.ref (r1 1), .int (fi1 0)])), ((r1 1), .inl (ca 2, 600, .inl (fa1 0))), ((r0 0), .inr (6, [.ref (r0 1), .int (fi0 0), .int (fi0 1), .int (fi0 2), .int (fi0 3), .int (fi0 4), .int (fi0 5)])), ((r0 1), .inl (ca 0, 8, .inl (fa0 0)))]) hP [2, 3, 0, 1] rfl
  have hD9 := va_D.part (pl := rest) (X := [((r0 0), .inr (6, [.ref (r0 1), .int (fi0 0), .int (fi0 1), .int (fi0 2), .int (fi0 3), .int (fi0 4), .int (fi0 5)])), ((r0 1), .inl (ca 0, 8, .inl (fa0 0))), ((r1 0), .inr (7, [.ref (r1 1), .int (fi1 0)])), ((r1 1), .inl (ca 2, 600, .inl (fa1 0)))]) (cx := [((r1 0), .inr (7, [.ref (r1 1), .int (fi1 0)])), ((r1 1), .inl (ca 2, 600, .inl (fa1 0))), ((r0 0), .inr (6, [.ref (r0 1), .int (fi0 0), .int (fi0 1), .int (fi0 2), .int (fi0 3), .int (fi0 4), .int (fi0 5)])), ((r0 1), .inl (ca 0, 8, .inl (fa0 0)))]) hD [2, 3, 0, 1] (by decide) rfl
  refine z_iV (As := [.int p2]) (rest := [.ref (r0 0)]) hF (c_X7_isSemicolon_R l D ca sa A (((r0 0), .inr (6, [.ref (r0 1), .int (fi0 0), .int (fi0 1), .int (fi0 2), .int (fi0 3), .int (fi0 4), .int (fi0 5)])) :: ((r0 1), .inl (ca 0, 8, .inl (fa0 0))) :: rest) (zl 0 [(r1 0), (r1 1)]) (zl 0 [(fi1 0)]) (zl 0 []) (zl (fun _ => 0) [(fa1 0)]) (zl (fun _ => 0) []) ho55 p2 hp56) (cwV 1 hts gX6_takeToken_X7_isSemicolon rfl rfl rfl (by decide +kernel) ⟨Nat.le_of_ble_eq_true rfl, Nat.le_of_ble_eq_true rfl⟩) hE hP9 hD9 hS 7 0 rfl rfl rfl hl.1 rfl (Nat.le_of_ble_eq_true rfl) dX6_takeToken_77 ⟨Nat.zero_le _, Nat.zero_le _⟩ (fun t58 u57 H locs hw59 hP hD hS => ?_)
  replace hw59 : (0 ≤ t58.toInt ∧ t58.toInt ≤ 1) ∧ (((t58).toInt = 1 ∧ ((fa1 0) p2.toNatClampNeg).toInt = 59) ∨ ((t58).toInt = 0 ∧ ¬ ((fa1 0) p2.toNatClampNeg).toInt = 59)) := hw59
  obtain ⟨hq60, hq61⟩ := hw59
  have hP := va_P.part (pl := rest) (X := [((r1 0), .inr (7, [.ref (r1 1), .int (fi1 0)])), ((r1 1), .inl (ca 2, 600, .inl (fa1 0))), ((r0 0), .inr (6, [.ref (r0 1), .int (fi0 0), .int (fi0 1), .int (fi0 2), .int (fi0 3), .int (fi0 4), .int (fi0 5)])), ((r0 1), .inl (ca 0, 8, .inl (fa0 0)))]) (cx := [((r0 0), .inr (6, [.ref (r0 1), .int (fi0 0), .int (fi0 1), .int (fi0 2), .int (fi0 3), .int (fi0 4), .int (fi0 5)])), ((r0 1), .inl (ca 0, 8, .inl (fa0 0))), ((r1 0), .inr (7, [.ref (r1 1), .int (fi1 0)])), ((r1 1), .inl (ca 2, 600, .inl (fa1 0)))]) hP [2, 3, 0, 1] rfl
  have hD := va_D.part (pl := rest) (X := [((r1 0), .inr (7, [.ref (r1 1), .int (fi1 0)])), ((r1 1), .inl (ca 2, 600, .inl (fa1 0))), ((r0 0), .inr (6, [.ref (r0 1), .int (fi0 0), .int (fi0 1), .int (fi0 2), .int (fi0 3), .int (fi0 4), .int (fi0 5)])), ((r0 1), .inl (ca 0, 8, .inl (fa0 0)))]) (cx := [((r0 0), .inr (6, [.ref (r0 1), .int (fi0 0), .int (fi0 1), .int (fi0 2), .int (fi0 3), .int (fi0 4), .int (fi0 5)])), ((r0 1), .inl (ca 0, 8, .inl (fa0 0))), ((r1 0), .inr (7, [.ref (r1 1), .int (fi1 0)])), ((r1 1), .inl (ca 2, 600, .inl (fa1 0)))]) hD [2, 3, 0, 1] (by decide) rfl
  have hP : va_P D vwCl (((r0 0), .inr (6, [.ref (r0 1), .int (fi0 0), .int (fi0 1), .int (fi0 2), .int (fi0 3), .int (fi0 4), .int (fi0 5)])) :: ((r0 1), .inl (ca 0, 8, .inl (fa0 0))) :: ((r1 0), .inr (7, [.ref (r1 1), .int (fi1 0)])) :: ((r1 1), .inl (ca 2, 600, .inl (fa1 0))) :: rest) H := hP
  have hD : va_D A (((r0 0), .inr (6, [.ref (r0 1), .int (fi0 0), .int (fi0 1), .int (fi0 2), .int (fi0 3), .int (fi0 4), .int (fi0 5)])) :: ((r0 1), .inl (ca 0, 8, .inl (fa0 0))) :: ((r1 0), .inr (7, [.ref (r1 1), .int (fi1 0)])) :: ((r1 1), .inl (ca 2, 600, .inl (fa1 0))) :: rest) := hD
  refine lv_iload_n hx hb dX6_takeToken_80 rfl (lv_at hl 2 rfl) ?_
  have ho62 : (0 ≤ (fi0 3).toInt ∧ (fi0 3).toInt ≤ 7) ∧ ((fi0 2).toInt = 1 → (fi0 3).toInt ≤ 6) := ⟨⟨by omega, by omega⟩, by omega⟩
  have hp63 : 0 ≤ (fi0 5).toInt ∧ (fi0 5).toInt ≤ 600 := by omega
  refine z_vV (As := [.int t58, .int p2]) (rest := []) hF (c_X6_takeSemicolon_R l D ca sa A (((r1 0), .inr (7, [.ref (r1 1), .int (fi1 0)])) :: ((r1 1), .inl (ca 2, 600, .inl (fa1 0))) :: rest) (zl 0 [(r0 0), (r0 1)]) (zl 0 [(fi0 0), (fi0 1), (fi0 2), (fi0 3), (fi0 4), (fi0 5)]) (zl 0 []) (zl (fun _ => 0) [(fa0 0)]) (zl (fun _ => 0) []) ho62 t58 p2 hp63) (cwV 2 hts gX6_takeToken_X6_takeSemicolon rfl rfl rfl (by decide +kernel) ⟨Nat.le_of_ble_eq_true rfl, Nat.le_of_ble_eq_true rfl⟩) hE hP hD hS 6 0 rfl rfl rfl hl.1 rfl (Nat.le_of_ble_eq_true rfl) dX6_takeToken_81 ⟨Nat.zero_le _, Nat.zero_le _⟩ (fun u64 H locs hw66 hP hD hS => ?_)
  obtain ⟨im67, lm67, am67, bm67⟩ := u64
  replace hw66 : ((0 ≤ (fi0 3).toInt ∧ (fi0 3).toInt ≤ 7) ∧ ((im67 2).toInt = 1 → (fi0 3).toInt ≤ 6)) ∧ ((t58.toInt = 0 ∧ ((im67 0)).toInt = 1 ∧ (im67 1) = p2 ∧ (im67 2) = (fi0 2) ∧ (im67 5) = (fi0 5)) ∨ (¬ t58.toInt = 0 ∧ (im67 0) = (fi0 0) ∧ (im67 1) = (fi0 1) ∧ ((im67 2)).toInt = 0 ∧ ((im67 5)).toInt = ((fi0 5)).toInt + 1)) := hw66
  obtain ⟨⟨-, hm67x0⟩, hq68⟩ := hw66
  have hP : va_P D vwCl (((r0 0), .inr (6, [.ref (r0 1), .int (im67 0), .int (im67 1), .int (im67 2), .int (fi0 3), .int (fi0 4), .int (im67 5)])) :: ((r0 1), .inl (ca 0, 8, .inl (fa0 0))) :: ((r1 0), .inr (7, [.ref (r1 1), .int (fi1 0)])) :: ((r1 1), .inl (ca 2, 600, .inl (fa1 0))) :: rest) H := hP
  have hD : va_D A (((r0 0), .inr (6, [.ref (r0 1), .int (im67 0), .int (im67 1), .int (im67 2), .int (fi0 3), .int (fi0 4), .int (im67 5)])) :: ((r0 1), .inl (ca 0, 8, .inl (fa0 0))) :: ((r1 0), .inr (7, [.ref (r1 1), .int (fi1 0)])) :: ((r1 1), .inl (ca 2, 600, .inl (fa1 0))) :: rest) := hD
  rw [← hQ9]
  have ho69 : (0 ≤ (fi0 3).toInt ∧ (fi0 3).toInt ≤ 7) ∧ ((im67 2).toInt = 1 → (fi0 3).toInt ≤ 6) := ⟨⟨by omega, by omega⟩, by omega⟩
  have hq70 : zTP (fa1 0) p2.toNatClampNeg p3.toNatClampNeg p2 (fi0 0) (fi0 1) (fi0 2) (fi0 3) (fi0 4) (fi0 5) (fa0 0) (im67 0) (im67 1) (im67 2) (fi0 3) (fi0 4) (im67 5) (fa0 0) := zTT3 hq61 (by omega) (by omega) (by omega) hq68
  exact W.vret hx hb hr (fun t ht hW => ⟨⟨((zl 0 [(im67 0), (im67 1), (im67 2), (fi0 3), (fi0 4), (im67 5)]), (zl 0 []), (zl (fun _ => 0) [(fa0 0)]), (zl (fun _ => 0) [])), rfl, ⟨ho69, hq70⟩, ⟨by rw [ht]; exact hP, hD⟩⟩, hS.F ht⟩) hS.2.2 dX6_takeToken_84

def zUs (i : Nat) : Int32 := ([20, 4, 2, 3, 0, 1, -1, 1] : List Int32).getD i 0
theorem zUs_c (h : Nat → Int32) : ∀ i : Nat, i < 8 → va_cpy (fun j => ([20, 4, 2, 3, 0, 1, -1, 1] : List Int32).getD j 0) h (0 : Int32).toNatClampNeg (0 : Int32).toNatClampNeg (8 : Int32).toNatClampNeg i = zUs i := fun i hi => by
  rw [show ((0 : Int32).toNatClampNeg) = 0 from by decide, show ((8 : Int32).toNatClampNeg) = 8 from by decide]
  unfold va_cpy zUs
  rw [if_pos ⟨by omega, by omega⟩, show 0 + (i - 0) = i by omega]
def zWy (f : Nat → Int32) (n : Int) (W : Nat → Int32) (w : Nat) (r fk fp : Int) (W2 : Nat → Int32) : Prop := ∃ (R S : Nat → Int32) (l : Int) (a : Nat), (∀ i : Nat, i < 8 → R i = zUs i) ∧ zRun zBk f n 0 a ∧ zRe f n a 0 0 0 R fk fp l S ∧ ((fk ≠ 0 ∧ r = -1 ∧ ∀ j : Nat, j < 32 → W2 j = W j) ∨ (fk = 0 ∧ r = l ∧ ∀ j : Nat, j < 32 → W2 j = if 8 * w ≤ j ∧ j < 8 * w + 8 then S (j - 8 * w) else W j))
theorem zWy_u {f : Nat → Int32} {n : Int} {W V : Nat → Int32} {w : Nat} {r fk fp r2 fk2 fp2 : Int} {W2 V2 : Nat → Int32} (h : zWy f n W w r fk fp W2) (h2 : zWy f n V w r2 fk2 fp2 V2) : r = r2 ∧ fk = fk2 ∧ fp = fp2 ∧ ((∀ j : Nat, j < 32 → W j = V j) → ∀ j : Nat, j < 32 → W2 j = V2 j) := by
  obtain ⟨R, S, l, a, x1, x2, x3, x4⟩ := h
  obtain ⟨R', S', l', a', y1, y2, y3, y4⟩ := h2
  have e := zRun_u x2 y2
  subst e
  obtain ⟨g1, g2, g3⟩ := zRe_u x3 y3 (fun i hi => by rw [x1 i hi, y1 i hi])
  rcases x4 with ⟨c, d, u⟩ | ⟨c, d, u⟩
  · rcases y4 with ⟨c2, d2, u2⟩ | ⟨c2, d2, u2⟩
    · exact ⟨by omega, g1, g2, fun hW j hj => by rw [u j hj, u2 j hj, hW j hj]⟩
    · omega
  · rcases y4 with ⟨c2, d2, u2⟩ | ⟨c2, d2, u2⟩
    · omega
    · obtain ⟨g4, g5⟩ := g3 c
      refine ⟨by omega, g1, g2, fun hW j hj => ?_⟩
      rw [u j hj, u2 j hj]
      split
      · next q => exact g5 _ (by omega)
      · exact hW j hj
theorem zWy_c {S W : Nat → Int32} {w t : Int32} (ht : t.toInt = 8 * w.toInt) (hw : 0 ≤ w.toInt) (j : Nat) : va_cpy S W (0 : Int32).toNatClampNeg t.toNatClampNeg (8 : Int32).toNatClampNeg j = if 8 * w.toNatClampNeg ≤ j ∧ j < 8 * w.toNatClampNeg + 8 then S (j - 8 * w.toNatClampNeg) else W j := by
  rw [show ((0 : Int32).toNatClampNeg) = 0 from by decide, show ((8 : Int32).toNatClampNeg) = 8 from by decide, show t.toNatClampNeg = 8 * w.toNatClampNeg by (rw [z_cl, z_cl]; omega)]
  unfold va_cpy
  split
  · rw [Nat.zero_add]
  · rfl

set_option maxHeartbeats 8000000 in
set_option maxRecDepth 100000 in
theorem c_X6_read_R (l : Launch) (D : va_G) (ca : Nat → ClassId) (sa : Nat → Nat) (A : Nat → Prop) (rest : va_W) (r0 : Nat → Nat) (r1 : Nat → Nat) (fi0 : Nat → Int32) (fl0 : Nat → Int64) (fa0 : Nat → Nat → Int32) (fb0 : Nat → Nat → Int64) (hv0 : Ok_RDR fi0 fa0) (fi1 : Nat → Int32) (fl1 : Nat → Int64) (fa1 : Nat → Nat → Int32) (fb1 : Nat → Nat → Int64) (hv1 : Ok_TAPE fi1 fa1) : Met l yX6_read wsX6_read ({ frames := 6, cells := 0, slots := 0, locals := 135 }) (va_Pc [.ref (r0 0), .ref (r1 0)] (zPre D ca sa A (w_RDR ca r0 fi0 fl0 fa0 fb0 (w_TAPE ca r1 fi1 fl1 fa1 fb1 (rest))))) (va_Qi (fun (r : Int32) (u : zS) => Ok_RDR (zx [0, 1, 2, 3, 4, 5] fi0 u.1) (zx [0] fa0 u.2.2.1) ∧ (∃ (R : Nat → Int32) (l : Int) (a : Nat), (∀ i : Nat, i < 8 → R i = zUs i) ∧ zRun zBk (fa1 0) ((fi1 0)).toInt 0 a ∧ zRe (fa1 0) ((fi1 0)).toInt a 0 0 0 R ((u.1 0)).toInt ((u.1 1)).toInt l (u.2.2.1 0) ∧ ((¬ ((u.1 0)).toInt = 0 ∧ (r).toInt = -1) ∨ (((u.1 0)).toInt = 0 ∧ (r).toInt = l ∧ 0 ≤ (r).toInt)))) (fun u t => zPost D A (w_RDR ca r0 (zx [0, 1, 2, 3, 4, 5] fi0 u.1) (zx [] fl0 u.2.1) (zx [0] fa0 u.2.2.1) (zx [] fb0 u.2.2.2) (w_TAPE ca r1 fi1 fl1 fa1 fb1 (rest))) t) A) 0 0 A := by
  refine Met.ofW (cc := cX6_read) (maxL := 5) (ret := (some .int)) (by decide) rfl ?_
  intro p e s m args below meth c s₁ B hml hv9
  obtain ⟨rfl, hE, hP, hD⟩ := hv9
  have hx := B.exec
  have hb := B.bytes
  have hr := B.returns
  have hts := atoms_spec (ws := wsX6_read) B.pre
  have hown : s.vm.findClass RX6 = some m.cls := findClass_of_methodNamed B.named
  have hlocks := B.notSynchronized
  have hK := hE.1
  have hF : CallFix p m c cX6_read 5 s _ wsX6_read RX6 := ⟨hx, hb, hml, hown, hts⟩
  have hS : va_S A s.heap s.heap [] := va_S.rf
  have lk9 := hts (.fieldLink RX6 9 "BranchPlay$Reader" "rules" "[I") (by decide +kernel)
  have inX6 : ∀ w ∈ wsX60, w ∈ wsX6_read := by decide +kernel
  have lm25 := hts (.methodLink RX6 25 arraycopyName) (by decide +kernel)
  have lana := hts (.native arraycopyName) (by decide +kernel)
  have last := hts (.static arraycopyName) (by decide +kernel)
  have lain := hts (.initialized "java/lang/System") (by decide +kernel)
  have lk15 := hts (.fieldLink RX6 15 "BranchPlay$Reader" "faultKind" "I") (by decide +kernel)
  have lk19 := hts (.fieldLink RX6 19 "BranchPlay$Reader" "faultPlace" "I") (by decide +kernel)
  have lk31 := hts (.fieldLink RX6 31 "BranchPlay$Reader" "awaited" "I") (by decide +kernel)
  have lk34 := hts (.fieldLink RX6 34 "BranchPlay$Reader" "toldRules" "I") (by decide +kernel)
  have lk37 := hts (.fieldLink RX6 37 "BranchPlay$Reader" "lines" "I") (by decide +kernel)
  have lk46 := hts (.fieldLink RX6 46 "BranchPlay$Tape" "length" "I") (by decide +kernel)
  have inX7 : ∀ w ∈ wsX70, w ∈ wsX6_read := by decide +kernel
  obtain ⟨⟨hv0i3, hv0j3⟩, hv0x0⟩ := hv0
  obtain ⟨hv1i0, hv1j0⟩ := hv1
  generalize hHe : s.heap = H at hP
  have hS : va_S A s.heap H [] := by rw [← hHe]; exact hS
  have hP : va_P D vwCl (((r0 0), .inr (6, [.ref (r0 1), .int (fi0 0), .int (fi0 1), .int (fi0 2), .int (fi0 3), .int (fi0 4), .int (fi0 5)])) :: ((r0 1), .inl (ca 0, 8, .inl (fa0 0))) :: ((r1 0), .inr (7, [.ref (r1 1), .int (fi1 0)])) :: ((r1 1), .inl (ca 2, 600, .inl (fa1 0))) :: rest) H := hP
  have hD : va_D A (((r0 0), .inr (6, [.ref (r0 1), .int (fi0 0), .int (fi0 1), .int (fi0 2), .int (fi0 3), .int (fi0 4), .int (fi0 5)])) :: ((r0 1), .inl (ca 0, 8, .inl (fa0 0))) :: ((r1 0), .inr (7, [.ref (r1 1), .int (fi1 0)])) :: ((r1 1), .inl (ca 2, 600, .inl (fa1 0))) :: rest) := hD
  have hl := lv_entry ([.ref (r0 0), .ref (r1 0)]) (n := 5) (Nat.le_of_ble_eq_true rfl)
  rw [lg_entry_eq]
  generalize (lg_sl ([.ref (r0 0), .ref (r1 0)]) ++ List.replicate (5 - (lg_sl ([.ref (r0 0), .ref (r1 0)])).length) Slot.unset).toArray = ls at hl ⊢
  have hl : lv_has ls 5 [(0, .ref (r0 0)), (1, .ref (r1 0))] := hl
  generalize hQ9 : MQ below _ _ s 0 0 A = Q9
  refine va_getsN hx hb hE.2.2.1.1.1 hS hown (va_Nw.use rfl (hE.2.1 (.fieldLinkNest RX6 22 "BranchPlay" "USUAL" "[I" RX8) (by decide +kernel))) (fun _ h9 => h9) dX6_read_0 ?_
  refine lv_iconst (v := 0) hx hb dX6_read_3 (by decide) ?_
  refine lv_aload_n hx hb dX6_read_4 rfl (lv_at hl 0 rfl) ?_
  refine va_get (D := D) (ci := 6) (v := .ref (r0 1)) (C := RX6) (T := TX6) (N := 7) hx hb hts inX6 hown hK hP 0 rfl rfl 0 (by decide) lk9 (fun _ h9 => h9) rfl dX6_read_5 ?_
  refine lv_iconst (v := 0) hx hb dX6_read_8 (by decide) ?_
  refine lv_bipush (v := 8) hx hb dX6_read_9 (by decide) ?_
  have hn1 : ¬ (0 : Int32) < 0 := by decide
  have hn2 : ¬ (0 : Int32) < 0 := by decide
  have hn3 : ¬ (8 : Int32) < 0 := by decide
  have h44 : (0 : Int32).toNatClampNeg + (8 : Int32).toNatClampNeg ≤ 8 := by rw [show ((0 : Int32).toNatClampNeg) = 0 from by decide, show ((8 : Int32).toNatClampNeg) = 8 from by decide]; omega
  have h55 : (0 : Int32).toNatClampNeg + (8 : Int32).toNatClampNeg ≤ 8 := by rw [show ((0 : Int32).toNatClampNeg) = 0 from by decide, show ((8 : Int32).toNatClampNeg) = 8 from by decide]; omega
  refine z_copyT hx hb (hml.trans hl.1.symm) hown lm25 lana last lain hK hP hD hS hE.2.2.1.1.2 1 0 rfl rfl hn1 hn2 hn3 h44 h55 (Nat.le_of_ble_eq_true rfl) (Nat.le_of_ble_eq_true rfl) dX6_read_11 (fun H locs hP hD hS => ?_)
  generalize eg6 : va_cpy (fun j => ([20, 4, 2, 3, 0, 1, -1, 1] : List Int32).getD j 0) (fa0 0) (0 : Int32).toNatClampNeg (0 : Int32).toNatClampNeg (8 : Int32).toNatClampNeg = g6 at hP hD
  have hP : va_P D vwCl (((r0 0), .inr (6, [.ref (r0 1), .int (fi0 0), .int (fi0 1), .int (fi0 2), .int (fi0 3), .int (fi0 4), .int (fi0 5)])) :: ((r0 1), .inl (ca 0, 8, .inl g6)) :: ((r1 0), .inr (7, [.ref (r1 1), .int (fi1 0)])) :: ((r1 1), .inl (ca 2, 600, .inl (fa1 0))) :: rest) H := hP
  have hD : va_D A (((r0 0), .inr (6, [.ref (r0 1), .int (fi0 0), .int (fi0 1), .int (fi0 2), .int (fi0 3), .int (fi0 4), .int (fi0 5)])) :: ((r0 1), .inl (ca 0, 8, .inl g6)) :: ((r1 0), .inr (7, [.ref (r1 1), .int (fi1 0)])) :: ((r1 1), .inl (ca 2, 600, .inl (fa1 0))) :: rest) := hD
  refine lv_aload_n hx hb dX6_read_14 rfl (lv_at hl 0 rfl) ?_
  refine lv_iconst (v := 0) hx hb dX6_read_15 (by decide) ?_
  refine lv_topi (fun t7 et7 => ?_)
  have ht7 : t7.toInt = 0 := by rw [et7]; decide
  refine va_put (D := D) (ci := 6) (v := .int t7) (ty := .int) (C := RX6) (T := TX6) (N := 7) hx hb hts inX6 tyX6 tyX6_ok nmX6 hown hK hP hD hS 0 rfl rfl 1 (by decide) lk15 (fun _ h9 => h9) rfl (by decide +kernel) rfl rfl (Nat.le_of_ble_eq_true rfl) dX6_read_16 (fun H locs hP hD hS => ?_)
  have hP : va_P D vwCl (((r0 0), .inr (6, [.ref (r0 1), .int t7, .int (fi0 1), .int (fi0 2), .int (fi0 3), .int (fi0 4), .int (fi0 5)])) :: ((r0 1), .inl (ca 0, 8, .inl g6)) :: ((r1 0), .inr (7, [.ref (r1 1), .int (fi1 0)])) :: ((r1 1), .inl (ca 2, 600, .inl (fa1 0))) :: rest) H := hP
  have hD : va_D A (((r0 0), .inr (6, [.ref (r0 1), .int t7, .int (fi0 1), .int (fi0 2), .int (fi0 3), .int (fi0 4), .int (fi0 5)])) :: ((r0 1), .inl (ca 0, 8, .inl g6)) :: ((r1 0), .inr (7, [.ref (r1 1), .int (fi1 0)])) :: ((r1 1), .inl (ca 2, 600, .inl (fa1 0))) :: rest) := hD
  refine lv_aload_n hx hb dX6_read_19 rfl (lv_at hl 0 rfl) ?_
  refine lv_iconst (v := (-1)) hx hb dX6_read_20 (by decide) ?_
  refine lv_topi (fun t8 et8 => ?_)
  have ht8 : t8.toInt = (-1) := by rw [et8]; decide
  refine va_put (D := D) (ci := 6) (v := .int t8) (ty := .int) (C := RX6) (T := TX6) (N := 7) hx hb hts inX6 tyX6 tyX6_ok nmX6 hown hK hP hD hS 0 rfl rfl 2 (by decide) lk19 (fun _ h9 => h9) rfl (by decide +kernel) rfl rfl (Nat.le_of_ble_eq_true rfl) dX6_read_21 (fun H locs hP hD hS => ?_)
  have hP : va_P D vwCl (((r0 0), .inr (6, [.ref (r0 1), .int t7, .int t8, .int (fi0 2), .int (fi0 3), .int (fi0 4), .int (fi0 5)])) :: ((r0 1), .inl (ca 0, 8, .inl g6)) :: ((r1 0), .inr (7, [.ref (r1 1), .int (fi1 0)])) :: ((r1 1), .inl (ca 2, 600, .inl (fa1 0))) :: rest) H := hP
  have hD : va_D A (((r0 0), .inr (6, [.ref (r0 1), .int t7, .int t8, .int (fi0 2), .int (fi0 3), .int (fi0 4), .int (fi0 5)])) :: ((r0 1), .inl (ca 0, 8, .inl g6)) :: ((r1 0), .inr (7, [.ref (r1 1), .int (fi1 0)])) :: ((r1 1), .inl (ca 2, 600, .inl (fa1 0))) :: rest) := hD
  refine lv_aload_n hx hb dX6_read_24 rfl (lv_at hl 0 rfl) ?_
  refine lv_iconst (v := 0) hx hb dX6_read_25 (by decide) ?_
  refine lv_topi (fun t9 et9 => ?_)
  have ht9 : t9.toInt = 0 := by rw [et9]; decide
  refine va_put (D := D) (ci := 6) (v := .int t9) (ty := .int) (C := RX6) (T := TX6) (N := 7) hx hb hts inX6 tyX6 tyX6_ok nmX6 hown hK hP hD hS 0 rfl rfl 3 (by decide) lk31 (fun _ h9 => h9) rfl (by decide +kernel) rfl rfl (Nat.le_of_ble_eq_true rfl) dX6_read_26 (fun H locs hP hD hS => ?_)
  have hP : va_P D vwCl (((r0 0), .inr (6, [.ref (r0 1), .int t7, .int t8, .int t9, .int (fi0 3), .int (fi0 4), .int (fi0 5)])) :: ((r0 1), .inl (ca 0, 8, .inl g6)) :: ((r1 0), .inr (7, [.ref (r1 1), .int (fi1 0)])) :: ((r1 1), .inl (ca 2, 600, .inl (fa1 0))) :: rest) H := hP
  have hD : va_D A (((r0 0), .inr (6, [.ref (r0 1), .int t7, .int t8, .int t9, .int (fi0 3), .int (fi0 4), .int (fi0 5)])) :: ((r0 1), .inl (ca 0, 8, .inl g6)) :: ((r1 0), .inr (7, [.ref (r1 1), .int (fi1 0)])) :: ((r1 1), .inl (ca 2, 600, .inl (fa1 0))) :: rest) := hD
  refine lv_aload_n hx hb dX6_read_29 rfl (lv_at hl 0 rfl) ?_
  refine lv_iconst (v := 0) hx hb dX6_read_30 (by decide) ?_
  refine lv_topi (fun t10 et10 => ?_)
  have ht10 : t10.toInt = 0 := by rw [et10]; decide
  refine va_put (D := D) (ci := 6) (v := .int t10) (ty := .int) (C := RX6) (T := TX6) (N := 7) hx hb hts inX6 tyX6 tyX6_ok nmX6 hown hK hP hD hS 0 rfl rfl 5 (by decide) lk34 (fun _ h9 => h9) rfl (by decide +kernel) rfl rfl (Nat.le_of_ble_eq_true rfl) dX6_read_31 (fun H locs hP hD hS => ?_)
  have hP : va_P D vwCl (((r0 0), .inr (6, [.ref (r0 1), .int t7, .int t8, .int t9, .int (fi0 3), .int t10, .int (fi0 5)])) :: ((r0 1), .inl (ca 0, 8, .inl g6)) :: ((r1 0), .inr (7, [.ref (r1 1), .int (fi1 0)])) :: ((r1 1), .inl (ca 2, 600, .inl (fa1 0))) :: rest) H := hP
  have hD : va_D A (((r0 0), .inr (6, [.ref (r0 1), .int t7, .int t8, .int t9, .int (fi0 3), .int t10, .int (fi0 5)])) :: ((r0 1), .inl (ca 0, 8, .inl g6)) :: ((r1 0), .inr (7, [.ref (r1 1), .int (fi1 0)])) :: ((r1 1), .inl (ca 2, 600, .inl (fa1 0))) :: rest) := hD
  refine lv_aload_n hx hb dX6_read_34 rfl (lv_at hl 0 rfl) ?_
  refine lv_iconst (v := 0) hx hb dX6_read_35 (by decide) ?_
  refine lv_topi (fun t11 et11 => ?_)
  have ht11 : t11.toInt = 0 := by rw [et11]; decide
  refine va_put (D := D) (ci := 6) (v := .int t11) (ty := .int) (C := RX6) (T := TX6) (N := 7) hx hb hts inX6 tyX6 tyX6_ok nmX6 hown hK hP hD hS 0 rfl rfl 6 (by decide) lk37 (fun _ h9 => h9) rfl (by decide +kernel) rfl rfl (Nat.le_of_ble_eq_true rfl) dX6_read_36 (fun H locs hP hD hS => ?_)
  have hP : va_P D vwCl (((r0 0), .inr (6, [.ref (r0 1), .int t7, .int t8, .int t9, .int (fi0 3), .int t10, .int t11])) :: ((r0 1), .inl (ca 0, 8, .inl g6)) :: ((r1 0), .inr (7, [.ref (r1 1), .int (fi1 0)])) :: ((r1 1), .inl (ca 2, 600, .inl (fa1 0))) :: rest) H := hP
  have hD : va_D A (((r0 0), .inr (6, [.ref (r0 1), .int t7, .int t8, .int t9, .int (fi0 3), .int t10, .int t11])) :: ((r0 1), .inl (ca 0, 8, .inl g6)) :: ((r1 0), .inr (7, [.ref (r1 1), .int (fi1 0)])) :: ((r1 1), .inl (ca 2, 600, .inl (fa1 0))) :: rest) := hD
  refine lv_aload_n hx hb dX6_read_39 rfl (lv_at hl 1 rfl) ?_
  refine lv_iconst (v := 0) hx hb dX6_read_40 (by decide) ?_
  have ho12 : (0 ≤ (fi1 0).toInt ∧ (fi1 0).toInt ≤ 600) := ⟨by omega, by omega⟩
  have hp13 : 0 ≤ (0 : Int32).toInt ∧ (0 : Int32).toInt ≤ 600 := by (simp only [show ((0 : Int32).toInt) = 0 from by decide]) <;> omega
  have hP9 := va_P.part (pl := rest) (X := [((r0 0), .inr (6, [.ref (r0 1), .int t7, .int t8, .int t9, .int (fi0 3), .int t10, .int t11])), ((r0 1), .inl (ca 0, 8, .inl g6)), ((r1 0), .inr (7, [.ref (r1 1), .int (fi1 0)])), ((r1 1), .inl (ca 2, 600, .inl (fa1 0)))]) (cx := [((r1 0), .inr (7, [.ref (r1 1), .int (fi1 0)])), ((r1 1), .inl (ca 2, 600, .inl (fa1 0))), ((r0 0), .inr (6, [.ref (r0 1), .int t7, .int t8, .int t9, .int (fi0 3), .int t10, .int t11])), ((r0 1), .inl (ca 0, 8, .inl g6))]) hP [2, 3, 0, 1] rfl
  have hD9 := va_D.part (pl := rest) (X := [((r0 0), .inr (6, [.ref (r0 1), .int t7, .int t8, .int t9, .int (fi0 3), .int t10, .int t11])), ((r0 1), .inl (ca 0, 8, .inl g6)), ((r1 0), .inr (7, [.ref (r1 1), .int (fi1 0)])), ((r1 1), .inl (ca 2, 600, .inl (fa1 0)))]) (cx := [((r1 0), .inr (7, [.ref (r1 1), .int (fi1 0)])), ((r1 1), .inl (ca 2, 600, .inl (fa1 0))), ((r0 0), .inr (6, [.ref (r0 1), .int t7, .int t8, .int t9, .int (fi0 3), .int t10, .int t11])), ((r0 1), .inl (ca 0, 8, .inl g6))]) hD [2, 3, 0, 1] (by decide) rfl
  refine z_iV (As := [.int 0]) (rest := []) hF (c_X7_pastBlanks_R l D ca sa A (((r0 0), .inr (6, [.ref (r0 1), .int t7, .int t8, .int t9, .int (fi0 3), .int t10, .int t11])) :: ((r0 1), .inl (ca 0, 8, .inl g6)) :: rest) (zl 0 [(r1 0), (r1 1)]) (zl 0 [(fi1 0)]) (zl 0 []) (zl (fun _ => 0) [(fa1 0)]) (zl (fun _ => 0) []) ho12 0 hp13) (cwV 1 hts gX6_read_X7_pastBlanks rfl rfl rfl (by decide +kernel) ⟨Nat.le_of_ble_eq_true rfl, Nat.le_of_ble_eq_true rfl⟩) hE hP9 hD9 hS 7 0 rfl rfl rfl hl.1 rfl (Nat.le_of_ble_eq_true rfl) dX6_read_41 ⟨Nat.zero_le _, Nat.zero_le _⟩ (fun t15 u14 H locs hw16 hP hD hS => ?_)
  replace hw16 : ((0 : Int32).toInt ≤ t15.toInt ∧ t15.toInt ≤ 600) ∧ (zRun zBk (fa1 0) ((fi1 0)).toInt (0 : Int32).toNatClampNeg (t15).toNatClampNeg) := hw16
  obtain ⟨hq17, hq18⟩ := hw16
  have hk19 : (0 : Int32).toInt = 0 := by decide
  have hP := va_P.part (pl := rest) (X := [((r1 0), .inr (7, [.ref (r1 1), .int (fi1 0)])), ((r1 1), .inl (ca 2, 600, .inl (fa1 0))), ((r0 0), .inr (6, [.ref (r0 1), .int t7, .int t8, .int t9, .int (fi0 3), .int t10, .int t11])), ((r0 1), .inl (ca 0, 8, .inl g6))]) (cx := [((r0 0), .inr (6, [.ref (r0 1), .int t7, .int t8, .int t9, .int (fi0 3), .int t10, .int t11])), ((r0 1), .inl (ca 0, 8, .inl g6)), ((r1 0), .inr (7, [.ref (r1 1), .int (fi1 0)])), ((r1 1), .inl (ca 2, 600, .inl (fa1 0)))]) hP [2, 3, 0, 1] rfl
  have hD := va_D.part (pl := rest) (X := [((r1 0), .inr (7, [.ref (r1 1), .int (fi1 0)])), ((r1 1), .inl (ca 2, 600, .inl (fa1 0))), ((r0 0), .inr (6, [.ref (r0 1), .int t7, .int t8, .int t9, .int (fi0 3), .int t10, .int t11])), ((r0 1), .inl (ca 0, 8, .inl g6))]) (cx := [((r0 0), .inr (6, [.ref (r0 1), .int t7, .int t8, .int t9, .int (fi0 3), .int t10, .int t11])), ((r0 1), .inl (ca 0, 8, .inl g6)), ((r1 0), .inr (7, [.ref (r1 1), .int (fi1 0)])), ((r1 1), .inl (ca 2, 600, .inl (fa1 0)))]) hD [2, 3, 0, 1] (by decide) rfl
  have hP : va_P D vwCl (((r0 0), .inr (6, [.ref (r0 1), .int t7, .int t8, .int t9, .int (fi0 3), .int t10, .int t11])) :: ((r0 1), .inl (ca 0, 8, .inl g6)) :: ((r1 0), .inr (7, [.ref (r1 1), .int (fi1 0)])) :: ((r1 1), .inl (ca 2, 600, .inl (fa1 0))) :: rest) H := hP
  have hD : va_D A (((r0 0), .inr (6, [.ref (r0 1), .int t7, .int t8, .int t9, .int (fi0 3), .int t10, .int t11])) :: ((r0 1), .inl (ca 0, 8, .inl g6)) :: ((r1 0), .inr (7, [.ref (r1 1), .int (fi1 0)])) :: ((r1 1), .inl (ca 2, 600, .inl (fa1 0))) :: rest) := hD
  refine lv_istore_n (lv' := [(2, .int t15), (0, .ref (r0 0)), (1, .ref (r1 0))]) hx hb dX6_read_44 rfl hl (by decide) rfl (fun ls hl => ?_)
  refine lv_iconst (v := 0) hx hb dX6_read_45 (by decide) ?_
  refine lv_topi (fun t20 et20 => ?_)
  have ht20 : t20.toInt = 0 := by rw [et20]; decide
  refine lv_istore_n (lv' := [(3, .int t20), (2, .int t15), (0, .ref (r0 0)), (1, .ref (r1 0))]) hx hb dX6_read_46 rfl hl (by decide) rfl (fun ls hl => ?_)
  have J47_21 : ∀ (n21 : Nat) (x2_21 : Int32) (x3_21 : Int32) (gi0_21 : Nat → Int32) (gl0_21 : Nat → Int64) (ga0_21 : Nat → Nat → Int32) (gb0_21 : Nat → Nat → Int64) (H : Heap) (locs : List Loc) (hP : va_P D vwCl (((r0 0), .inr (6, [.ref (r0 1), .int (gi0_21 0), .int (gi0_21 1), .int (gi0_21 2), .int (gi0_21 3), .int (gi0_21 4), .int (gi0_21 5)])) :: ((r0 1), .inl (ca 0, 8, .inl (ga0_21 0))) :: ((r1 0), .inr (7, [.ref (r1 1), .int (fi1 0)])) :: ((r1 1), .inl (ca 2, 600, .inl (fa1 0))) :: rest) H) (hD : va_D A (((r0 0), .inr (6, [.ref (r0 1), .int (gi0_21 0), .int (gi0_21 1), .int (gi0_21 2), .int (gi0_21 3), .int (gi0_21 4), .int (gi0_21 5)])) :: ((r0 1), .inl (ca 0, 8, .inl (ga0_21 0))) :: ((r1 0), .inr (7, [.ref (r1 1), .int (fi1 0)])) :: ((r1 1), .inl (ca 2, 600, .inl (fa1 0))) :: rest)) (hS : va_S A s.heap H locs) (ls : Array Slot) (hl : lv_has ls 5 [(0, .ref (r0 0)), (1, .ref (r1 0)), (2, .int x2_21), (3, .int x3_21)]) (hg0_21 : (0 ≤ (gi0_21 3).toInt ∧ (gi0_21 3).toInt ≤ 7) ∧ ((gi0_21 2).toInt = 1 → (gi0_21 3).toInt ≤ 6)) (hRV_21 : zVv (fa1 0) (fi1 0).toInt t15.toNatClampNeg g6 (gi0_21 0).toInt (gi0_21 1).toInt x2_21.toNatClampNeg (zMd (gi0_21 2) (gi0_21 3)) (gi0_21 4) (gi0_21 5).toInt (ga0_21 0)) (hf21_0 : 0 ≤ x3_21.toInt ∧ x3_21.toInt ≤ 600 ∧ x3_21.toInt ≤ x2_21.toInt ∧ x2_21.toInt ≤ 600) (hf21_1 : 0 ≤ (gi0_21 2).toInt ∧ (gi0_21 2).toInt ≤ 3) (hf21_2 : 0 ≤ (gi0_21 5).toInt ∧ (gi0_21 5).toInt ≤ x3_21.toInt), (601 - x3_21.toInt).toNat < n21 → W p l e (headSpec wsX6_read ({ frames := 6, cells := 0, slots := 0, locals := 135 })).room s m ([.ref (r0 0), .ref (r1 0)] : List Value).toArray below meth c H locs 0 0 Q9 (F0 m 47 ls []) := by
    intro n21
    induction n21 with
    | zero => intro x2_21 x3_21 gi0_21 gl0_21 ga0_21 gb0_21 H locs hP hD hS ls hl hg0_21 hRV_21 hf21_0 hf21_1 hf21_2 hn9; exact absurd hn9 (Nat.not_lt_zero _)
    | succ n21 ih21 =>
      intro x2_21 x3_21 gi0_21 gl0_21 ga0_21 gb0_21 H locs hP hD hS ls hl hg0_21 hRV_21 hf21_0 hf21_1 hf21_2 hn9
      obtain ⟨⟨hg0_21i3, hg0_21j3⟩, hg0_21x0⟩ := hg0_21
      refine lv_iload_n hx hb dX6_read_47 rfl (lv_at hl 3 rfl) ?_
      refine lv_sipush (v := 600) hx hb dX6_read_48 (by decide) ?_
      have J97_22 : ∀ (ls : Array Slot) (hl : lv_has ls 5 [(0, .ref (r0 0)), (1, .ref (r1 0))]) (hRX_22 : (gi0_21 0).toInt ≠ 0 ∨ (fi1 0).toInt ≤ x2_21.toInt), W p l e (headSpec wsX6_read ({ frames := 6, cells := 0, slots := 0, locals := 135 })).room s m ([.ref (r0 0), .ref (r1 0)] : List Value).toArray below meth c H locs 0 0 Q9 (F0 m 97 ls []) := by
        intro ls hl hRX_22
        refine lv_aload_n hx hb dX6_read_97 rfl (lv_at hl 0 rfl) ?_
        refine va_get (D := D) (ci := 6) (v := .int (gi0_21 0)) (C := RX6) (T := TX6) (N := 7) hx hb hts inX6 hown hK hP 0 rfl rfl 1 (by decide) lk15 (fun _ h9 => h9) rfl dX6_read_98 ?_
        have J112_23 : ∀ (gi0_23 : Nat → Int32) (gl0_23 : Nat → Int64) (ga0_23 : Nat → Nat → Int32) (gb0_23 : Nat → Nat → Int64) (H : Heap) (locs : List Loc) (hP : va_P D vwCl (((r0 0), .inr (6, [.ref (r0 1), .int (gi0_23 0), .int (gi0_23 1), .int (gi0_23 2), .int (gi0_23 3), .int (gi0_23 4), .int (gi0_23 5)])) :: ((r0 1), .inl (ca 0, 8, .inl (ga0_23 0))) :: ((r1 0), .inr (7, [.ref (r1 1), .int (fi1 0)])) :: ((r1 1), .inl (ca 2, 600, .inl (fa1 0))) :: rest) H) (hD : va_D A (((r0 0), .inr (6, [.ref (r0 1), .int (gi0_23 0), .int (gi0_23 1), .int (gi0_23 2), .int (gi0_23 3), .int (gi0_23 4), .int (gi0_23 5)])) :: ((r0 1), .inl (ca 0, 8, .inl (ga0_23 0))) :: ((r1 0), .inr (7, [.ref (r1 1), .int (fi1 0)])) :: ((r1 1), .inl (ca 2, 600, .inl (fa1 0))) :: rest)) (hS : va_S A s.heap H locs) (ls : Array Slot) (hl : lv_has ls 5 [(0, .ref (r0 0))]) (hg0_23 : (0 ≤ (gi0_23 3).toInt ∧ (gi0_23 3).toInt ≤ 7) ∧ ((gi0_23 2).toInt = 1 → (gi0_23 3).toInt ≤ 6)) (hRZ_23 : zRe (fa1 0) (fi1 0).toInt t15.toNatClampNeg 0 0 0 g6 (gi0_23 0).toInt (gi0_23 1).toInt (gi0_23 5).toInt (ga0_23 0)) (hf23_0 : 0 ≤ (gi0_23 5).toInt), W p l e (headSpec wsX6_read ({ frames := 6, cells := 0, slots := 0, locals := 135 })).room s m ([.ref (r0 0), .ref (r1 0)] : List Value).toArray below meth c H locs 0 0 Q9 (F0 m 112 ls []) := by
          intro gi0_23 gl0_23 ga0_23 gb0_23 H locs hP hD hS ls hl hg0_23 hRZ_23 hf23_0
          obtain ⟨⟨hg0_23i3, hg0_23j3⟩, hg0_23x0⟩ := hg0_23
          refine lv_aload_n hx hb dX6_read_112 rfl (lv_at hl 0 rfl) ?_
          refine va_get (D := D) (ci := 6) (v := .int (gi0_23 0)) (C := RX6) (T := TX6) (N := 7) hx hb hts inX6 hown hK hP 0 rfl rfl 1 (by decide) lk15 (fun _ h9 => h9) rfl dX6_read_113 ?_
          refine lv_if_ne (tgt := 126) hx hb dX6_read_116 (by decide) (fun c24 => ?_) (fun c24 => ?_)
          ·
            have c24 := z_ne (i := (gi0_23 0).toInt) (j := 0) rfl (by decide) c24
            refine lv_iconst (v := (-1)) hx hb dX6_read_126 (by decide) ?_
            rw [← hQ9]
            refine lv_topi (fun t25 et25 => ?_)
            have ht25 : t25.toInt = (-1) := by rw [et25]; decide
            have ho26 : (0 ≤ (gi0_23 3).toInt ∧ (gi0_23 3).toInt ≤ 7) ∧ ((gi0_23 2).toInt = 1 → (gi0_23 3).toInt ≤ 6) := ⟨⟨by omega, by omega⟩, by omega⟩
            have hq27 : ∃ (R : Nat → Int32) (l : Int) (a : Nat), (∀ i : Nat, i < 8 → R i = zUs i) ∧ zRun zBk (fa1 0) ((fi1 0)).toInt 0 a ∧ zRe (fa1 0) ((fi1 0)).toInt a 0 0 0 R ((gi0_23 0)).toInt ((gi0_23 1)).toInt l (ga0_23 0) ∧ ((¬ ((gi0_23 0)).toInt = 0 ∧ (t25).toInt = -1) ∨ (((gi0_23 0)).toInt = 0 ∧ (t25).toInt = l ∧ 0 ≤ (t25).toInt)) := ⟨g6, _, t15.toNatClampNeg, fun i hi => by rw [← eg6]; exact zUs_c _ i hi, by have q9 := hq18; rw [show ((0 : Int32).toNatClampNeg) = 0 from by decide] at q9; exact q9, hRZ_23, Or.inl ⟨by omega, by omega⟩⟩
            exact W.iret (v := t25) hx hb hr (fun t ht hW => ⟨⟨t25, ((zl 0 [(gi0_23 0), (gi0_23 1), (gi0_23 2), (gi0_23 3), (gi0_23 4), (gi0_23 5)]), (zl 0 []), (zl (fun _ => 0) [(ga0_23 0)]), (zl (fun _ => 0) [])), rfl, ⟨ho26, hq27⟩, ⟨by rw [ht]; exact hP, hD⟩⟩, hS.F ht⟩) hS.2.2 dX6_read_127
          ·
            have c24 := z_eq (i := (gi0_23 0).toInt) (j := 0) rfl (by decide) c24
            refine lv_aload_n hx hb dX6_read_119 rfl (lv_at hl 0 rfl) ?_
            refine va_get (D := D) (ci := 6) (v := .int (gi0_23 5)) (C := RX6) (T := TX6) (N := 7) hx hb hts inX6 hown hK hP 0 rfl rfl 6 (by decide) lk37 (fun _ h9 => h9) rfl dX6_read_120 ?_
            refine lv_goto (tgt := 127) hx hb dX6_read_123 (by decide) ?_
            rw [← hQ9]
            have ho28 : (0 ≤ (gi0_23 3).toInt ∧ (gi0_23 3).toInt ≤ 7) ∧ ((gi0_23 2).toInt = 1 → (gi0_23 3).toInt ≤ 6) := ⟨⟨by omega, by omega⟩, by omega⟩
            have hq29 : ∃ (R : Nat → Int32) (l : Int) (a : Nat), (∀ i : Nat, i < 8 → R i = zUs i) ∧ zRun zBk (fa1 0) ((fi1 0)).toInt 0 a ∧ zRe (fa1 0) ((fi1 0)).toInt a 0 0 0 R ((gi0_23 0)).toInt ((gi0_23 1)).toInt l (ga0_23 0) ∧ ((¬ ((gi0_23 0)).toInt = 0 ∧ ((gi0_23 5)).toInt = -1) ∨ (((gi0_23 0)).toInt = 0 ∧ ((gi0_23 5)).toInt = l ∧ 0 ≤ ((gi0_23 5)).toInt)) := ⟨g6, _, t15.toNatClampNeg, fun i hi => by rw [← eg6]; exact zUs_c _ i hi, by have q9 := hq18; rw [show ((0 : Int32).toNatClampNeg) = 0 from by decide] at q9; exact q9, hRZ_23, Or.inr ⟨by omega, rfl, by omega⟩⟩
            exact W.iret (v := (gi0_23 5)) hx hb hr (fun t ht hW => ⟨⟨(gi0_23 5), ((zl 0 [(gi0_23 0), (gi0_23 1), (gi0_23 2), (gi0_23 3), (gi0_23 4), (gi0_23 5)]), (zl 0 []), (zl (fun _ => 0) [(ga0_23 0)]), (zl (fun _ => 0) [])), rfl, ⟨ho28, hq29⟩, ⟨by rw [ht]; exact hP, hD⟩⟩, hS.F ht⟩) hS.2.2 dX6_read_127
        refine lv_if_ne (tgt := 112) hx hb dX6_read_101 (by decide) (fun c30 => ?_) (fun c30 => ?_)
        ·
          have c30 := z_ne (i := (gi0_21 0).toInt) (j := 0) rfl (by decide) c30
          have ho31 : (0 ≤ (gi0_21 3).toInt ∧ (gi0_21 3).toInt ≤ 7) ∧ ((gi0_21 2).toInt = 1 → (gi0_21 3).toInt ≤ 6) := ⟨⟨by omega, by omega⟩, by omega⟩
          have hr32 : zRe (fa1 0) (fi1 0).toInt t15.toNatClampNeg 0 0 0 g6 (gi0_21 0).toInt (gi0_21 1).toInt (gi0_21 5).toInt (ga0_21 0) := (hRV_21.elim (fun q => absurd q.1 (by omega)) (fun q => q.2 _ _))
          have hj33 : 0 ≤ (gi0_21 5).toInt := by omega
          exact J112_23 (zl 0 [(gi0_21 0), (gi0_21 1), (gi0_21 2), (gi0_21 3), (gi0_21 4), (gi0_21 5)]) (zl 0 []) (zl (fun _ => 0) [(ga0_21 0)]) (zl (fun _ => 0) []) _ _ hP hD hS ls (lv_sub hl [0] rfl) ho31 hr32 hj33
        ·
          have c30 := z_eq (i := (gi0_21 0).toInt) (j := 0) rfl (by decide) c30
          refine lv_aload_n hx hb dX6_read_104 rfl (lv_at hl 0 rfl) ?_
          refine lv_aload_n hx hb dX6_read_105 rfl (lv_at hl 1 rfl) ?_
          refine va_get (D := D) (ci := 7) (v := .int (fi1 0)) (C := RX7) (T := TX7) (N := 2) hx hb hts inX7 hown hK hP 2 rfl rfl 1 (by decide) lk46 (fun _ h9 => h9) rfl dX6_read_106 ?_
          have ho34 : (0 ≤ (gi0_21 3).toInt ∧ (gi0_21 3).toInt ≤ 7) ∧ ((gi0_21 2).toInt = 1 → (gi0_21 3).toInt ≤ 6) := ⟨⟨by omega, by omega⟩, by omega⟩
          refine z_vV (As := [.int (fi1 0)]) (rest := []) hF (c_X6_takeEnd_R l D ca sa A (((r1 0), .inr (7, [.ref (r1 1), .int (fi1 0)])) :: ((r1 1), .inl (ca 2, 600, .inl (fa1 0))) :: rest) (zl 0 [(r0 0), (r0 1)]) (zl 0 [(gi0_21 0), (gi0_21 1), (gi0_21 2), (gi0_21 3), (gi0_21 4), (gi0_21 5)]) (zl 0 []) (zl (fun _ => 0) [(ga0_21 0)]) (zl (fun _ => 0) []) ho34 (fi1 0)) (cwV 1 hts gX6_read_X6_takeEnd rfl rfl rfl (by decide +kernel) ⟨Nat.le_of_ble_eq_true rfl, Nat.le_of_ble_eq_true rfl⟩) hE hP hD hS 6 0 rfl rfl rfl hl.1 rfl (Nat.le_of_ble_eq_true rfl) dX6_read_109 ⟨Nat.zero_le _, Nat.zero_le _⟩ (fun u35 H locs hw37 hP hD hS => ?_)
          obtain ⟨im38, lm38, am38, bm38⟩ := u35
          replace hw37 : ((0 ≤ (gi0_21 3).toInt ∧ (gi0_21 3).toInt ≤ 7) ∧ ((gi0_21 2).toInt = 1 → (gi0_21 3).toInt ≤ 6)) ∧ ((¬ ((gi0_21 2)).toInt = 0 ∧ ((im38 0)).toInt = 1 ∧ (im38 1) = (fi1 0)) ∨ (((gi0_21 2)).toInt = 0 ∧ ((ga0_21 0) 0).toInt ≤ ((ga0_21 0) 1).toInt ∧ ((im38 0)).toInt = 4 ∧ (im38 1) = (fi1 0)) ∨ (((gi0_21 2)).toInt = 0 ∧ ((ga0_21 0) 1).toInt < ((ga0_21 0) 0).toInt ∧ (im38 0) = (gi0_21 0) ∧ (im38 1) = (gi0_21 1))) := hw37
          obtain ⟨⟨-, -⟩, hq39⟩ := hw37
          have hP : va_P D vwCl (((r0 0), .inr (6, [.ref (r0 1), .int (im38 0), .int (im38 1), .int (gi0_21 2), .int (gi0_21 3), .int (gi0_21 4), .int (gi0_21 5)])) :: ((r0 1), .inl (ca 0, 8, .inl (ga0_21 0))) :: ((r1 0), .inr (7, [.ref (r1 1), .int (fi1 0)])) :: ((r1 1), .inl (ca 2, 600, .inl (fa1 0))) :: rest) H := hP
          have hD : va_D A (((r0 0), .inr (6, [.ref (r0 1), .int (im38 0), .int (im38 1), .int (gi0_21 2), .int (gi0_21 3), .int (gi0_21 4), .int (gi0_21 5)])) :: ((r0 1), .inl (ca 0, 8, .inl (ga0_21 0))) :: ((r1 0), .inr (7, [.ref (r1 1), .int (fi1 0)])) :: ((r1 1), .inl (ca 2, 600, .inl (fa1 0))) :: rest) := hD
          have ho40 : (0 ≤ (gi0_21 3).toInt ∧ (gi0_21 3).toInt ≤ 7) ∧ ((gi0_21 2).toInt = 1 → (gi0_21 3).toInt ≤ 6) := ⟨⟨by omega, by omega⟩, by omega⟩
          have hr41 : zRe (fa1 0) (fi1 0).toInt t15.toNatClampNeg 0 0 0 g6 (im38 0).toInt (im38 1).toInt (gi0_21 5).toInt (ga0_21 0) := zVv_e hRV_21 (by omega) (by rw [z_cl]; omega) rfl (by omega) hq39
          have hj42 : 0 ≤ (gi0_21 5).toInt := by omega
          exact J112_23 (zl 0 [(im38 0), (im38 1), (gi0_21 2), (gi0_21 3), (gi0_21 4), (gi0_21 5)]) (zl 0 []) (zl (fun _ => 0) [(ga0_21 0)]) (zl (fun _ => 0) []) _ _ hP hD hS ls (lv_sub hl [0] rfl) ho40 hr41 hj42
      refine lv_icmp_ge (tgt := 97) hx hb dX6_read_51 (by decide) (fun c43 => ?_) (fun c43 => ?_)
      ·
        have c43 := z_le (i := 600) (j := x3_21.toInt) (by decide) rfl c43
        have hr44 : (gi0_21 0).toInt ≠ 0 ∨ (fi1 0).toInt ≤ x2_21.toInt := by omega
        exact J97_22 ls (lv_sub hl [0, 1] rfl) hr44
      ·
        have c43 := z_nle (i := 600) (j := x3_21.toInt) (by decide) rfl c43
        refine lv_iload_n hx hb dX6_read_54 rfl (lv_at hl 2 rfl) ?_
        refine lv_aload_n hx hb dX6_read_55 rfl (lv_at hl 1 rfl) ?_
        refine va_get (D := D) (ci := 7) (v := .int (fi1 0)) (C := RX7) (T := TX7) (N := 2) hx hb hts inX7 hown hK hP 2 rfl rfl 1 (by decide) lk46 (fun _ h9 => h9) rfl dX6_read_56 ?_
        refine lv_icmp_ge (tgt := 97) hx hb dX6_read_59 (by decide) (fun c45 => ?_) (fun c45 => ?_)
        ·
          have c45 := z_le (i := (fi1 0).toInt) (j := x2_21.toInt) rfl rfl c45
          have hr46 : (gi0_21 0).toInt ≠ 0 ∨ (fi1 0).toInt ≤ x2_21.toInt := by omega
          exact J97_22 ls (lv_sub hl [0, 1] rfl) hr46
        ·
          have c45 := z_nle (i := (fi1 0).toInt) (j := x2_21.toInt) rfl rfl c45
          refine lv_aload_n hx hb dX6_read_62 rfl (lv_at hl 0 rfl) ?_
          refine va_get (D := D) (ci := 6) (v := .int (gi0_21 0)) (C := RX6) (T := TX6) (N := 7) hx hb hts inX6 hown hK hP 0 rfl rfl 1 (by decide) lk15 (fun _ h9 => h9) rfl dX6_read_63 ?_
          refine lv_if_ne (tgt := 97) hx hb dX6_read_66 (by decide) (fun c47 => ?_) (fun c47 => ?_)
          ·
            have c47 := z_ne (i := (gi0_21 0).toInt) (j := 0) rfl (by decide) c47
            have hr48 : (gi0_21 0).toInt ≠ 0 ∨ (fi1 0).toInt ≤ x2_21.toInt := by omega
            exact J97_22 ls (lv_sub hl [0, 1] rfl) hr48
          ·
            have c47 := z_eq (i := (gi0_21 0).toInt) (j := 0) rfl (by decide) c47
            refine lv_aload_n hx hb dX6_read_69 rfl (lv_at hl 1 rfl) ?_
            refine lv_iload_n hx hb dX6_read_70 rfl (lv_at hl 2 rfl) ?_
            have ho49 : (0 ≤ (fi1 0).toInt ∧ (fi1 0).toInt ≤ 600) := ⟨by omega, by omega⟩
            have hp50 : 0 ≤ x2_21.toInt ∧ x2_21.toInt ≤ 599 := by omega
            have hP9 := va_P.part (pl := rest) (X := [((r0 0), .inr (6, [.ref (r0 1), .int (gi0_21 0), .int (gi0_21 1), .int (gi0_21 2), .int (gi0_21 3), .int (gi0_21 4), .int (gi0_21 5)])), ((r0 1), .inl (ca 0, 8, .inl (ga0_21 0))), ((r1 0), .inr (7, [.ref (r1 1), .int (fi1 0)])), ((r1 1), .inl (ca 2, 600, .inl (fa1 0)))]) (cx := [((r1 0), .inr (7, [.ref (r1 1), .int (fi1 0)])), ((r1 1), .inl (ca 2, 600, .inl (fa1 0))), ((r0 0), .inr (6, [.ref (r0 1), .int (gi0_21 0), .int (gi0_21 1), .int (gi0_21 2), .int (gi0_21 3), .int (gi0_21 4), .int (gi0_21 5)])), ((r0 1), .inl (ca 0, 8, .inl (ga0_21 0)))]) hP [2, 3, 0, 1] rfl
            have hD9 := va_D.part (pl := rest) (X := [((r0 0), .inr (6, [.ref (r0 1), .int (gi0_21 0), .int (gi0_21 1), .int (gi0_21 2), .int (gi0_21 3), .int (gi0_21 4), .int (gi0_21 5)])), ((r0 1), .inl (ca 0, 8, .inl (ga0_21 0))), ((r1 0), .inr (7, [.ref (r1 1), .int (fi1 0)])), ((r1 1), .inl (ca 2, 600, .inl (fa1 0)))]) (cx := [((r1 0), .inr (7, [.ref (r1 1), .int (fi1 0)])), ((r1 1), .inl (ca 2, 600, .inl (fa1 0))), ((r0 0), .inr (6, [.ref (r0 1), .int (gi0_21 0), .int (gi0_21 1), .int (gi0_21 2), .int (gi0_21 3), .int (gi0_21 4), .int (gi0_21 5)])), ((r0 1), .inl (ca 0, 8, .inl (ga0_21 0)))]) hD [2, 3, 0, 1] (by decide) rfl
            refine z_iV (As := [.int x2_21]) (rest := []) hF (c_X7_pastToken_R l D ca sa A (((r0 0), .inr (6, [.ref (r0 1), .int (gi0_21 0), .int (gi0_21 1), .int (gi0_21 2), .int (gi0_21 3), .int (gi0_21 4), .int (gi0_21 5)])) :: ((r0 1), .inl (ca 0, 8, .inl (ga0_21 0))) :: rest) (zl 0 [(r1 0), (r1 1)]) (zl 0 [(fi1 0)]) (zl 0 []) (zl (fun _ => 0) [(fa1 0)]) (zl (fun _ => 0) []) ho49 x2_21 hp50) (cwV 1 hts gX6_read_X7_pastToken rfl rfl rfl (by decide +kernel) ⟨Nat.le_of_ble_eq_true rfl, Nat.le_of_ble_eq_true rfl⟩) hE hP9 hD9 hS 7 0 rfl rfl rfl hl.1 rfl (Nat.le_of_ble_eq_true rfl) dX6_read_71 ⟨Nat.zero_le _, Nat.zero_le _⟩ (fun t52 u51 H locs hw53 hP hD hS => ?_)
            replace hw53 : (x2_21.toInt < t52.toInt ∧ t52.toInt ≤ 600) ∧ (zTk (fa1 0) ((fi1 0)).toInt x2_21.toNatClampNeg (t52).toNatClampNeg) := hw53
            obtain ⟨hq54, hq55⟩ := hw53
            have hP := va_P.part (pl := rest) (X := [((r1 0), .inr (7, [.ref (r1 1), .int (fi1 0)])), ((r1 1), .inl (ca 2, 600, .inl (fa1 0))), ((r0 0), .inr (6, [.ref (r0 1), .int (gi0_21 0), .int (gi0_21 1), .int (gi0_21 2), .int (gi0_21 3), .int (gi0_21 4), .int (gi0_21 5)])), ((r0 1), .inl (ca 0, 8, .inl (ga0_21 0)))]) (cx := [((r0 0), .inr (6, [.ref (r0 1), .int (gi0_21 0), .int (gi0_21 1), .int (gi0_21 2), .int (gi0_21 3), .int (gi0_21 4), .int (gi0_21 5)])), ((r0 1), .inl (ca 0, 8, .inl (ga0_21 0))), ((r1 0), .inr (7, [.ref (r1 1), .int (fi1 0)])), ((r1 1), .inl (ca 2, 600, .inl (fa1 0)))]) hP [2, 3, 0, 1] rfl
            have hD := va_D.part (pl := rest) (X := [((r1 0), .inr (7, [.ref (r1 1), .int (fi1 0)])), ((r1 1), .inl (ca 2, 600, .inl (fa1 0))), ((r0 0), .inr (6, [.ref (r0 1), .int (gi0_21 0), .int (gi0_21 1), .int (gi0_21 2), .int (gi0_21 3), .int (gi0_21 4), .int (gi0_21 5)])), ((r0 1), .inl (ca 0, 8, .inl (ga0_21 0)))]) (cx := [((r0 0), .inr (6, [.ref (r0 1), .int (gi0_21 0), .int (gi0_21 1), .int (gi0_21 2), .int (gi0_21 3), .int (gi0_21 4), .int (gi0_21 5)])), ((r0 1), .inl (ca 0, 8, .inl (ga0_21 0))), ((r1 0), .inr (7, [.ref (r1 1), .int (fi1 0)])), ((r1 1), .inl (ca 2, 600, .inl (fa1 0)))]) hD [2, 3, 0, 1] (by decide) rfl
            have hP : va_P D vwCl (((r0 0), .inr (6, [.ref (r0 1), .int (gi0_21 0), .int (gi0_21 1), .int (gi0_21 2), .int (gi0_21 3), .int (gi0_21 4), .int (gi0_21 5)])) :: ((r0 1), .inl (ca 0, 8, .inl (ga0_21 0))) :: ((r1 0), .inr (7, [.ref (r1 1), .int (fi1 0)])) :: ((r1 1), .inl (ca 2, 600, .inl (fa1 0))) :: rest) H := hP
            have hD : va_D A (((r0 0), .inr (6, [.ref (r0 1), .int (gi0_21 0), .int (gi0_21 1), .int (gi0_21 2), .int (gi0_21 3), .int (gi0_21 4), .int (gi0_21 5)])) :: ((r0 1), .inl (ca 0, 8, .inl (ga0_21 0))) :: ((r1 0), .inr (7, [.ref (r1 1), .int (fi1 0)])) :: ((r1 1), .inl (ca 2, 600, .inl (fa1 0))) :: rest) := hD
            refine lv_istore (lv' := [(4, .int t52), (0, .ref (r0 0)), (1, .ref (r1 0)), (2, .int x2_21), (3, .int x3_21)]) hx hb dX6_read_74 hl (by decide) rfl (fun ls hl => ?_)
            refine lv_aload_n hx hb dX6_read_76 rfl (lv_at hl 1 rfl) ?_
            refine lv_aload_n hx hb dX6_read_77 rfl (lv_at hl 2 rfl) ?_
            refine lv_iload_n hx hb dX6_read_78 rfl (lv_at hl 3 rfl) ?_
            refine lv_iload hx hb dX6_read_79 (lv_at hl 0 rfl) ?_
            have ho56 : (0 ≤ (gi0_21 3).toInt ∧ (gi0_21 3).toInt ≤ 7) ∧ ((gi0_21 2).toInt = 1 → (gi0_21 3).toInt ≤ 6) := ⟨⟨by omega, by omega⟩, by omega⟩
            have ho57 : (0 ≤ (fi1 0).toInt ∧ (fi1 0).toInt ≤ 600) := ⟨by omega, by omega⟩
            have hp58 : 0 ≤ x2_21.toInt ∧ x2_21.toInt ≤ 599 := by omega
            have hp59 : t52.toInt ≤ 600 := by omega
            have hp60 : x2_21.toInt < t52.toInt := by omega
            have hp61 : zTk (fa1 0) (fi1 0).toInt x2_21.toNatClampNeg t52.toNatClampNeg := hq55
            have hp62 : 0 ≤ (gi0_21 5).toInt ∧ (gi0_21 5).toInt ≤ 600 := by omega
            have hp63 : (gi0_21 0).toInt = 0 := by omega
            have hp64 : 0 ≤ (gi0_21 2).toInt ∧ (gi0_21 2).toInt ≤ 3 := by omega
            refine z_vV (As := [.ref (r1 0), .int x2_21, .int t52]) (rest := []) hF (c_X6_takeToken_R l D ca sa A rest (zl 0 [(r0 0), (r0 1)]) (zl 0 [(r1 0), (r1 1)]) (zl 0 [(gi0_21 0), (gi0_21 1), (gi0_21 2), (gi0_21 3), (gi0_21 4), (gi0_21 5)]) (zl 0 []) (zl (fun _ => 0) [(ga0_21 0)]) (zl (fun _ => 0) []) ho56 (zl 0 [(fi1 0)]) (zl 0 []) (zl (fun _ => 0) [(fa1 0)]) (zl (fun _ => 0) []) ho57 x2_21 t52 hp58 hp59 hp60 hp61 hp62 hp63 hp64) (cwV 3 hts gX6_read_X6_takeToken rfl rfl rfl (by decide +kernel) ⟨Nat.le_of_ble_eq_true rfl, Nat.le_of_ble_eq_true rfl⟩) hE hP hD hS 6 0 rfl rfl rfl hl.1 rfl (Nat.le_of_ble_eq_true rfl) dX6_read_81 ⟨Nat.zero_le _, Nat.zero_le _⟩ (fun u65 H locs hw67 hP hD hS => ?_)
            obtain ⟨im68, lm68, am68, bm68⟩ := u65
            replace hw67 : ((0 ≤ (im68 3).toInt ∧ (im68 3).toInt ≤ 7) ∧ ((im68 2).toInt = 1 → (im68 3).toInt ≤ 6)) ∧ (zTP (fa1 0) x2_21.toNatClampNeg t52.toNatClampNeg x2_21 (gi0_21 0) (gi0_21 1) (gi0_21 2) (gi0_21 3) (gi0_21 4) (gi0_21 5) (ga0_21 0) (im68 0) (im68 1) (im68 2) (im68 3) (im68 4) (im68 5) (am68 0)) := hw67
            obtain ⟨⟨⟨hm68i3, hm68j3⟩, hm68x0⟩, hq69⟩ := hw67
            have hP : va_P D vwCl (((r0 0), .inr (6, [.ref (r0 1), .int (im68 0), .int (im68 1), .int (im68 2), .int (im68 3), .int (im68 4), .int (im68 5)])) :: ((r0 1), .inl (ca 0, 8, .inl (am68 0))) :: ((r1 0), .inr (7, [.ref (r1 1), .int (fi1 0)])) :: ((r1 1), .inl (ca 2, 600, .inl (fa1 0))) :: rest) H := hP
            have hD : va_D A (((r0 0), .inr (6, [.ref (r0 1), .int (im68 0), .int (im68 1), .int (im68 2), .int (im68 3), .int (im68 4), .int (im68 5)])) :: ((r0 1), .inl (ca 0, 8, .inl (am68 0))) :: ((r1 0), .inr (7, [.ref (r1 1), .int (fi1 0)])) :: ((r1 1), .inl (ca 2, 600, .inl (fa1 0))) :: rest) := hD
            have hb2 : 0 ≤ (im68 2).toInt ∧ (im68 2).toInt ≤ 3 := hq69.2.2.2.1
            have hb5 : 0 ≤ (im68 5).toInt ∧ (im68 5).toInt ≤ (gi0_21 5).toInt + 1 := hq69.2.2.2.2
            refine lv_aload_n hx hb dX6_read_84 rfl (lv_at hl 2 rfl) ?_
            refine lv_iload hx hb dX6_read_85 (lv_at hl 0 rfl) ?_
            have ho70 : (0 ≤ (fi1 0).toInt ∧ (fi1 0).toInt ≤ 600) := ⟨by omega, by omega⟩
            have hp71 : 0 ≤ t52.toInt ∧ t52.toInt ≤ 600 := by omega
            have hP9 := va_P.part (pl := rest) (X := [((r0 0), .inr (6, [.ref (r0 1), .int (im68 0), .int (im68 1), .int (im68 2), .int (im68 3), .int (im68 4), .int (im68 5)])), ((r0 1), .inl (ca 0, 8, .inl (am68 0))), ((r1 0), .inr (7, [.ref (r1 1), .int (fi1 0)])), ((r1 1), .inl (ca 2, 600, .inl (fa1 0)))]) (cx := [((r1 0), .inr (7, [.ref (r1 1), .int (fi1 0)])), ((r1 1), .inl (ca 2, 600, .inl (fa1 0))), ((r0 0), .inr (6, [.ref (r0 1), .int (im68 0), .int (im68 1), .int (im68 2), .int (im68 3), .int (im68 4), .int (im68 5)])), ((r0 1), .inl (ca 0, 8, .inl (am68 0)))]) hP [2, 3, 0, 1] rfl
            have hD9 := va_D.part (pl := rest) (X := [((r0 0), .inr (6, [.ref (r0 1), .int (im68 0), .int (im68 1), .int (im68 2), .int (im68 3), .int (im68 4), .int (im68 5)])), ((r0 1), .inl (ca 0, 8, .inl (am68 0))), ((r1 0), .inr (7, [.ref (r1 1), .int (fi1 0)])), ((r1 1), .inl (ca 2, 600, .inl (fa1 0)))]) (cx := [((r1 0), .inr (7, [.ref (r1 1), .int (fi1 0)])), ((r1 1), .inl (ca 2, 600, .inl (fa1 0))), ((r0 0), .inr (6, [.ref (r0 1), .int (im68 0), .int (im68 1), .int (im68 2), .int (im68 3), .int (im68 4), .int (im68 5)])), ((r0 1), .inl (ca 0, 8, .inl (am68 0)))]) hD [2, 3, 0, 1] (by decide) rfl
            refine z_iV (As := [.int t52]) (rest := []) hF (c_X7_pastBlanks_R l D ca sa A (((r0 0), .inr (6, [.ref (r0 1), .int (im68 0), .int (im68 1), .int (im68 2), .int (im68 3), .int (im68 4), .int (im68 5)])) :: ((r0 1), .inl (ca 0, 8, .inl (am68 0))) :: rest) (zl 0 [(r1 0), (r1 1)]) (zl 0 [(fi1 0)]) (zl 0 []) (zl (fun _ => 0) [(fa1 0)]) (zl (fun _ => 0) []) ho70 t52 hp71) (cwV 1 hts gX6_read_X7_pastBlanks rfl rfl rfl (by decide +kernel) ⟨Nat.le_of_ble_eq_true rfl, Nat.le_of_ble_eq_true rfl⟩) hE hP9 hD9 hS 7 0 rfl rfl rfl hl.1 rfl (Nat.le_of_ble_eq_true rfl) dX6_read_87 ⟨Nat.zero_le _, Nat.zero_le _⟩ (fun t73 u72 H locs hw74 hP hD hS => ?_)
            replace hw74 : (t52.toInt ≤ t73.toInt ∧ t73.toInt ≤ 600) ∧ (zRun zBk (fa1 0) ((fi1 0)).toInt t52.toNatClampNeg (t73).toNatClampNeg) := hw74
            obtain ⟨hq75, hq76⟩ := hw74
            have hP := va_P.part (pl := rest) (X := [((r1 0), .inr (7, [.ref (r1 1), .int (fi1 0)])), ((r1 1), .inl (ca 2, 600, .inl (fa1 0))), ((r0 0), .inr (6, [.ref (r0 1), .int (im68 0), .int (im68 1), .int (im68 2), .int (im68 3), .int (im68 4), .int (im68 5)])), ((r0 1), .inl (ca 0, 8, .inl (am68 0)))]) (cx := [((r0 0), .inr (6, [.ref (r0 1), .int (im68 0), .int (im68 1), .int (im68 2), .int (im68 3), .int (im68 4), .int (im68 5)])), ((r0 1), .inl (ca 0, 8, .inl (am68 0))), ((r1 0), .inr (7, [.ref (r1 1), .int (fi1 0)])), ((r1 1), .inl (ca 2, 600, .inl (fa1 0)))]) hP [2, 3, 0, 1] rfl
            have hD := va_D.part (pl := rest) (X := [((r1 0), .inr (7, [.ref (r1 1), .int (fi1 0)])), ((r1 1), .inl (ca 2, 600, .inl (fa1 0))), ((r0 0), .inr (6, [.ref (r0 1), .int (im68 0), .int (im68 1), .int (im68 2), .int (im68 3), .int (im68 4), .int (im68 5)])), ((r0 1), .inl (ca 0, 8, .inl (am68 0)))]) (cx := [((r0 0), .inr (6, [.ref (r0 1), .int (im68 0), .int (im68 1), .int (im68 2), .int (im68 3), .int (im68 4), .int (im68 5)])), ((r0 1), .inl (ca 0, 8, .inl (am68 0))), ((r1 0), .inr (7, [.ref (r1 1), .int (fi1 0)])), ((r1 1), .inl (ca 2, 600, .inl (fa1 0)))]) hD [2, 3, 0, 1] (by decide) rfl
            have hP : va_P D vwCl (((r0 0), .inr (6, [.ref (r0 1), .int (im68 0), .int (im68 1), .int (im68 2), .int (im68 3), .int (im68 4), .int (im68 5)])) :: ((r0 1), .inl (ca 0, 8, .inl (am68 0))) :: ((r1 0), .inr (7, [.ref (r1 1), .int (fi1 0)])) :: ((r1 1), .inl (ca 2, 600, .inl (fa1 0))) :: rest) H := hP
            have hD : va_D A (((r0 0), .inr (6, [.ref (r0 1), .int (im68 0), .int (im68 1), .int (im68 2), .int (im68 3), .int (im68 4), .int (im68 5)])) :: ((r0 1), .inl (ca 0, 8, .inl (am68 0))) :: ((r1 0), .inr (7, [.ref (r1 1), .int (fi1 0)])) :: ((r1 1), .inl (ca 2, 600, .inl (fa1 0))) :: rest) := hD
            refine lv_istore_n (lv' := [(2, .int t73), (4, .int t52), (0, .ref (r0 0)), (1, .ref (r1 0)), (3, .int x3_21)]) hx hb dX6_read_90 rfl hl (by decide) rfl (fun ls hl => ?_)
            obtain ⟨t77, et77⟩ : ∃ y : Int32, y = x3_21 + 1 := ⟨_, rfl⟩
            try have ht77 : t77.toInt = x3_21.toInt + 1 := z_add et77 rfl (by decide) (by omega -splitDisjunctions) (by omega -splitDisjunctions)
            refine lv_iinc (v := t77) (lv' := [(3, .int t77), (2, .int t73), (4, .int t52), (0, .ref (r0 0)), (1, .ref (r1 0))]) hx hb dX6_read_91 hl (k := 4) rfl (by rw [et77]; rfl) (by decide) rfl (fun ls hl => ?_)
            refine lv_goto (tgt := 47) hx hb dX6_read_94 (by decide) ?_
            have ho78 : (0 ≤ (im68 3).toInt ∧ (im68 3).toInt ≤ 7) ∧ ((im68 2).toInt = 1 → (im68 3).toInt ≤ 6) := ⟨⟨by omega, by omega⟩, by omega⟩
            have hr79 : zVv (fa1 0) (fi1 0).toInt t15.toNatClampNeg g6 (im68 0).toInt (im68 1).toInt t73.toNatClampNeg (zMd (im68 2) (im68 3)) (im68 4) (im68 5).toInt (am68 0) := zVv_s hRV_21 (by omega) (by rw [z_cl]; omega) hq55 hq76 (by rw [z_cl]; omega) hq69
            have hj80 : 0 ≤ t77.toInt ∧ t77.toInt ≤ 600 ∧ t77.toInt ≤ t73.toInt ∧ t73.toInt ≤ 600 := by omega
            have hj81 : 0 ≤ (im68 2).toInt ∧ (im68 2).toInt ≤ 3 := by omega
            have hj82 : 0 ≤ (im68 5).toInt ∧ (im68 5).toInt ≤ t77.toInt := by omega
            have hm83 : (601 - t77.toInt).toNat < n21 := by omega
            exact ih21 t73 t77 (zl 0 [(im68 0), (im68 1), (im68 2), (im68 3), (im68 4), (im68 5)]) (zl 0 []) (zl (fun _ => 0) [(am68 0)]) (zl (fun _ => 0) []) _ _ hP hD hS ls (lv_sub hl [3, 4, 1, 0] rfl) ho78 hr79 hj80 hj81 hj82 hm83
  have ho84 : (0 ≤ (fi0 3).toInt ∧ (fi0 3).toInt ≤ 7) ∧ (t9.toInt = 1 → (fi0 3).toInt ≤ 6) := ⟨⟨by omega, by omega⟩, by omega⟩
  have hr85 : zVv (fa1 0) (fi1 0).toInt t15.toNatClampNeg g6 t7.toInt t8.toInt t15.toNatClampNeg (zMd t9 (fi0 3)) t10 t11.toInt g6 := by rw [show t7.toInt = 0 by omega, show t8.toInt = -1 by omega, show zMd t9 (fi0 3) = 0 from by (rw [zMd_0 (by omega)]; omega), et10, show t11.toInt = 0 by omega]; exact zVv_0 _ _ _ _
  have hj86 : 0 ≤ t20.toInt ∧ t20.toInt ≤ 600 ∧ t20.toInt ≤ t15.toInt ∧ t15.toInt ≤ 600 := by omega
  have hj87 : 0 ≤ t9.toInt ∧ t9.toInt ≤ 3 := by omega
  have hj88 : 0 ≤ t11.toInt ∧ t11.toInt ≤ t20.toInt := by omega
  exact J47_21 ((601 - t20.toInt).toNat + 1) t15 t20 (zl 0 [t7, t8, t9, (fi0 3), t10, t11]) (zl 0 []) (zl (fun _ => 0) [g6]) (zl (fun _ => 0) []) _ _ hP hD hS ls (lv_sub hl [2, 3, 1, 0] rfl) ho84 hr85 hj86 hj87 hj88 (Nat.lt_succ_self _)

set_option maxHeartbeats 8000000 in
set_option maxRecDepth 100000 in
theorem c_X8_way_R (l : Launch) (D : va_G) (ca : Nat → ClassId) (sa : Nat → Nat) (A : Nat → Prop) (rest : va_W) (r0 : Nat → Nat) (r1 : Nat → Nat) (r2 : Nat → Nat) (r3 : Nat → Nat) (y3 : Nat) (y4 : Nat) (y5 : Nat) (y6 : Nat) (y7 : Nat) (fi0 : Nat → Int32) (fl0 : Nat → Int64) (fa0 : Nat → Nat → Int32) (fb0 : Nat → Nat → Int64) (hv0 : Ok_BP fi0 fa0) (fi1 : Nat → Int32) (fl1 : Nat → Int64) (fa1 : Nat → Nat → Int32) (fb1 : Nat → Nat → Int64) (hv1 : Ok_TAPE fi1 fa1) (fi2 : Nat → Int32) (fl2 : Nat → Int64) (fa2 : Nat → Nat → Int32) (fb2 : Nat → Nat → Int64) (hv2 : Ok_RDR fi2 fa2) (fi3 : Nat → Int32) (fl3 : Nat → Int64) (fa3 : Nat → Nat → Int32) (fb3 : Nat → Nat → Int64) (hv3 : Ok_WAYS fi3 fa3) (p1 : Int32) : Met l yX8_way wsX8_way ({ frames := 7, cells := 0, slots := 0, locals := 159 }) (va_Pc [.ref (r0 0), .int p1] (zPre D ca sa A (w_BP ca r0 (r1 0) (r2 0) (r3 0) y3 y4 y5 y6 y7 fi0 fl0 fa0 fb0 (w_TAPE ca r1 fi1 fl1 fa1 fb1 (w_RDR ca r2 fi2 fl2 fa2 fb2 (w_WAYS ca r3 fi3 fl3 fa3 fb3 (rest))))))) (va_Qi (fun (r : Int32) (u : zS × zS × zS × zS) => Ok_BP (zx [0] fi0 u.1.1) (zx [] fa0 u.1.2.2.1) ∧ Ok_TAPE (zx [0] fi1 u.2.1.1) (zx [] fa1 u.2.1.2.2.1) ∧ Ok_RDR (zx [0, 1, 2, 3, 4, 5] fi2 u.2.2.1.1) (zx [0] fa2 u.2.2.1.2.2.1) ∧ Ok_WAYS (zx [] fi3 u.2.2.2.1) (zx [0] fa3 u.2.2.2.2.2.1) ∧ ((u.2.1.1 0).toInt = 0) ∧ ((¬ (0 ≤ p1.toInt ∧ p1.toInt ≤ 3) ∧ (r).toInt = -2 ∧ (u.2.2.1.1 0) = (fi2 0) ∧ (u.2.2.1.1 1) = (fi2 1) ∧ (u.2.2.2.2.2.1 0) = (fa3 0) ∧ (u.1.1 0) = (fi0 0)) ∨ ((0 ≤ p1.toInt ∧ p1.toInt ≤ 3) ∧ zWy (fa1 0) ((fi1 0)).toInt (fa3 0) p1.toNatClampNeg (r).toInt ((u.2.2.1.1 0)).toInt ((u.2.2.1.1 1)).toInt (u.2.2.2.2.2.1 0) ∧ (((u.2.2.1.1 0)).toInt = 0 → ((u.1.1 0)).toInt = -1) ∧ (((u.2.2.1.1 0)).toInt ≠ 0 → (u.1.1 0) = (fi0 0))))) (fun u t => zPost D A (w_BP ca r0 (r1 0) (r2 0) (r3 0) y3 y4 y5 y6 y7 (zx [0] fi0 u.1.1) (zx [] fl0 u.1.2.1) (zx [] fa0 u.1.2.2.1) (zx [] fb0 u.1.2.2.2) (w_TAPE ca r1 (zx [0] fi1 u.2.1.1) (zx [] fl1 u.2.1.2.1) (zx [] fa1 u.2.1.2.2.1) (zx [] fb1 u.2.1.2.2.2) (w_RDR ca r2 (zx [0, 1, 2, 3, 4, 5] fi2 u.2.2.1.1) (zx [] fl2 u.2.2.1.2.1) (zx [0] fa2 u.2.2.1.2.2.1) (zx [] fb2 u.2.2.1.2.2.2) (w_WAYS ca r3 (zx [] fi3 u.2.2.2.1) (zx [] fl3 u.2.2.2.2.1) (zx [0] fa3 u.2.2.2.2.2.1) (zx [] fb3 u.2.2.2.2.2.2) (rest))))) t) A) 0 0 A := by
  refine Met.ofW (cc := cX8_way) (maxL := 3) (ret := (some .int)) (by decide) rfl ?_
  intro p e s m args below meth c s₁ B hml hv9
  obtain ⟨rfl, hE, hP, hD⟩ := hv9
  have hx := B.exec
  have hb := B.bytes
  have hr := B.returns
  have hts := atoms_spec (ws := wsX8_way) B.pre
  have hown : s.vm.findClass RX8 = some m.cls := findClass_of_methodNamed B.named
  have hlocks := B.notSynchronized
  have hK := hE.1
  have hF : CallFix p m c cX8_way 3 s _ wsX8_way RX8 := ⟨hx, hb, hml, hown, hts⟩
  have hS : va_S A s.heap s.heap [] := va_S.rf
  have lk19 := hts (.fieldLink RX8 19 "BranchPlay" "reader" "LBranchPlay$Reader;") (by decide +kernel)
  have inX8 : ∀ w ∈ wsX80, w ∈ wsX8_way := by decide +kernel
  have lk10 := hts (.fieldLink RX8 10 "BranchPlay" "tape" "LBranchPlay$Tape;") (by decide +kernel)
  have lk69 := hts (.fieldLink RX8 69 "BranchPlay$Tape" "length" "I") (by decide +kernel)
  have inX7 : ∀ w ∈ wsX70, w ∈ wsX8_way := by decide +kernel
  have lk84 := hts (.fieldLink RX8 84 "BranchPlay$Reader" "rules" "[I") (by decide +kernel)
  have inX6 : ∀ w ∈ wsX60, w ∈ wsX8_way := by decide +kernel
  have lk23 := hts (.fieldLink RX8 23 "BranchPlay" "ways" "[I") (by decide +kernel)
  have lm30 := hts (.methodLink RX8 30 arraycopyName) (by decide +kernel)
  have lana := hts (.native arraycopyName) (by decide +kernel)
  have last := hts (.static arraycopyName) (by decide +kernel)
  have lain := hts (.initialized "java/lang/System") (by decide +kernel)
  have lk65 := hts (.fieldLink RX8 65 "BranchPlay" "playedWay" "I") (by decide +kernel)
  obtain ⟨hv1i0, hv1j0⟩ := hv1
  obtain ⟨⟨hv2i3, hv2j3⟩, hv2x0⟩ := hv2
  generalize hHe : s.heap = H at hP
  have hS : va_S A s.heap H [] := by rw [← hHe]; exact hS
  have hP : va_P D vwCl (((r0 0), .inr (8, [.ref (r1 0), .ref (r2 0), .ref (r3 0), .ref y3, .ref y4, .ref y5, .ref y6, .ref y7, .int (fi0 0)])) :: ((r1 0), .inr (7, [.ref (r1 1), .int (fi1 0)])) :: ((r1 1), .inl (ca 2, 600, .inl (fa1 0))) :: ((r2 0), .inr (6, [.ref (r2 1), .int (fi2 0), .int (fi2 1), .int (fi2 2), .int (fi2 3), .int (fi2 4), .int (fi2 5)])) :: ((r2 1), .inl (ca 0, 8, .inl (fa2 0))) :: ((r3 0), .inl (ca 0, 32, .inl (fa3 0))) :: rest) H := hP
  have hD : va_D A (((r0 0), .inr (8, [.ref (r1 0), .ref (r2 0), .ref (r3 0), .ref y3, .ref y4, .ref y5, .ref y6, .ref y7, .int (fi0 0)])) :: ((r1 0), .inr (7, [.ref (r1 1), .int (fi1 0)])) :: ((r1 1), .inl (ca 2, 600, .inl (fa1 0))) :: ((r2 0), .inr (6, [.ref (r2 1), .int (fi2 0), .int (fi2 1), .int (fi2 2), .int (fi2 3), .int (fi2 4), .int (fi2 5)])) :: ((r2 1), .inl (ca 0, 8, .inl (fa2 0))) :: ((r3 0), .inl (ca 0, 32, .inl (fa3 0))) :: rest) := hD
  have hl := lv_entry ([.ref (r0 0), .int p1]) (n := 3) (Nat.le_of_ble_eq_true rfl)
  rw [lg_entry_eq]
  generalize (lg_sl ([.ref (r0 0), .int p1]) ++ List.replicate (3 - (lg_sl ([.ref (r0 0), .int p1])).length) Slot.unset).toArray = ls at hl ⊢
  have hl : lv_has ls 3 [(0, .ref (r0 0)), (1, .int p1)] := hl
  generalize hQ9 : MQ below _ _ s 0 0 A = Q9
  refine lv_iload_n hx hb dX8_way_0 rfl (lv_at hl 1 rfl) ?_
  refine z_iS (As := [.int p1]) (rest := []) hF (c_X8_isWay l D ca sa A _ p1) (va_cwS 1 hts gX8_way_X8_isWay rfl rfl rfl (by decide +kernel) ⟨Nat.le_of_ble_eq_true rfl, Nat.le_of_ble_eq_true rfl⟩) hE hP hD hS rfl hl.1 rfl (Nat.le_of_ble_eq_true rfl) dX8_way_1 ⟨Nat.zero_le _, Nat.zero_le _⟩ (fun t2 u1 H locs hw3 hP hD hS => ?_)
  replace hw3 : ((t2.toInt = 1 ∧ 0 ≤ p1.toInt ∧ p1.toInt ≤ 3) ∨ (t2.toInt = 0 ∧ (p1.toInt < 0 ∨ 3 < p1.toInt))) := hw3
  have hq4 := hw3
  clear hw3
  refine lv_if_ne (tgt := 18) hx hb dX8_way_4 (by decide) (fun c5 => ?_) (fun c5 => ?_)
  ·
    have c5 := z_ne (i := t2.toInt) (j := 0) rfl (by decide) c5
    have hnt6 : 0 ≤ p1.toInt ∧ p1.toInt ≤ 3 := by omega
    refine lv_aload_n hx hb dX8_way_18 rfl (lv_at hl 0 rfl) ?_
    refine va_get (D := D) (ci := 8) (v := .ref (r2 0)) (C := RX8) (T := TX8) (N := 9) hx hb hts inX8 hown hK hP 0 rfl rfl 1 (by decide) lk19 (fun _ h9 => h9) rfl dX8_way_19 ?_
    refine lv_aload_n hx hb dX8_way_22 rfl (lv_at hl 0 rfl) ?_
    refine va_get (D := D) (ci := 8) (v := .ref (r1 0)) (C := RX8) (T := TX8) (N := 9) hx hb hts inX8 hown hK hP 0 rfl rfl 0 (by decide) lk10 (fun _ h9 => h9) rfl dX8_way_23 ?_
    have ho7 : (0 ≤ (fi2 3).toInt ∧ (fi2 3).toInt ≤ 7) ∧ ((fi2 2).toInt = 1 → (fi2 3).toInt ≤ 6) := ⟨⟨by omega, by omega⟩, by omega⟩
    have ho8 : (0 ≤ (fi1 0).toInt ∧ (fi1 0).toInt ≤ 600) := ⟨by omega, by omega⟩
    have hP9 := va_P.part (pl := rest) (X := [((r0 0), .inr (8, [.ref (r1 0), .ref (r2 0), .ref (r3 0), .ref y3, .ref y4, .ref y5, .ref y6, .ref y7, .int (fi0 0)])), ((r1 0), .inr (7, [.ref (r1 1), .int (fi1 0)])), ((r1 1), .inl (ca 2, 600, .inl (fa1 0))), ((r2 0), .inr (6, [.ref (r2 1), .int (fi2 0), .int (fi2 1), .int (fi2 2), .int (fi2 3), .int (fi2 4), .int (fi2 5)])), ((r2 1), .inl (ca 0, 8, .inl (fa2 0))), ((r3 0), .inl (ca 0, 32, .inl (fa3 0)))]) (cx := [((r2 0), .inr (6, [.ref (r2 1), .int (fi2 0), .int (fi2 1), .int (fi2 2), .int (fi2 3), .int (fi2 4), .int (fi2 5)])), ((r2 1), .inl (ca 0, 8, .inl (fa2 0))), ((r1 0), .inr (7, [.ref (r1 1), .int (fi1 0)])), ((r1 1), .inl (ca 2, 600, .inl (fa1 0))), ((r0 0), .inr (8, [.ref (r1 0), .ref (r2 0), .ref (r3 0), .ref y3, .ref y4, .ref y5, .ref y6, .ref y7, .int (fi0 0)])), ((r3 0), .inl (ca 0, 32, .inl (fa3 0)))]) hP [3, 4, 1, 2, 0, 5] rfl
    have hD9 := va_D.part (pl := rest) (X := [((r0 0), .inr (8, [.ref (r1 0), .ref (r2 0), .ref (r3 0), .ref y3, .ref y4, .ref y5, .ref y6, .ref y7, .int (fi0 0)])), ((r1 0), .inr (7, [.ref (r1 1), .int (fi1 0)])), ((r1 1), .inl (ca 2, 600, .inl (fa1 0))), ((r2 0), .inr (6, [.ref (r2 1), .int (fi2 0), .int (fi2 1), .int (fi2 2), .int (fi2 3), .int (fi2 4), .int (fi2 5)])), ((r2 1), .inl (ca 0, 8, .inl (fa2 0))), ((r3 0), .inl (ca 0, 32, .inl (fa3 0)))]) (cx := [((r2 0), .inr (6, [.ref (r2 1), .int (fi2 0), .int (fi2 1), .int (fi2 2), .int (fi2 3), .int (fi2 4), .int (fi2 5)])), ((r2 1), .inl (ca 0, 8, .inl (fa2 0))), ((r1 0), .inr (7, [.ref (r1 1), .int (fi1 0)])), ((r1 1), .inl (ca 2, 600, .inl (fa1 0))), ((r0 0), .inr (8, [.ref (r1 0), .ref (r2 0), .ref (r3 0), .ref y3, .ref y4, .ref y5, .ref y6, .ref y7, .int (fi0 0)])), ((r3 0), .inl (ca 0, 32, .inl (fa3 0)))]) hD [3, 4, 1, 2, 0, 5] (by decide) rfl
    refine z_iV (As := [.ref (r1 0)]) (rest := []) hF (c_X6_read_R l D ca sa A (((r0 0), .inr (8, [.ref (r1 0), .ref (r2 0), .ref (r3 0), .ref y3, .ref y4, .ref y5, .ref y6, .ref y7, .int (fi0 0)])) :: ((r3 0), .inl (ca 0, 32, .inl (fa3 0))) :: rest) (zl 0 [(r2 0), (r2 1)]) (zl 0 [(r1 0), (r1 1)]) (zl 0 [(fi2 0), (fi2 1), (fi2 2), (fi2 3), (fi2 4), (fi2 5)]) (zl 0 []) (zl (fun _ => 0) [(fa2 0)]) (zl (fun _ => 0) []) ho7 (zl 0 [(fi1 0)]) (zl 0 []) (zl (fun _ => 0) [(fa1 0)]) (zl (fun _ => 0) []) ho8) (cwV 1 hts gX8_way_X6_read rfl rfl rfl (by decide +kernel) ⟨Nat.le_of_ble_eq_true rfl, Nat.le_of_ble_eq_true rfl⟩) hE hP9 hD9 hS 6 0 rfl rfl rfl hl.1 rfl (Nat.le_of_ble_eq_true rfl) dX8_way_26 ⟨Nat.zero_le _, Nat.zero_le _⟩ (fun t10 u9 H locs hw11 hP hD hS => ?_)
    obtain ⟨im12, lm12, am12, bm12⟩ := u9
    replace hw11 : ((0 ≤ (im12 3).toInt ∧ (im12 3).toInt ≤ 7) ∧ ((im12 2).toInt = 1 → (im12 3).toInt ≤ 6)) ∧ (∃ (R : Nat → Int32) (l : Int) (a : Nat), (∀ i : Nat, i < 8 → R i = zUs i) ∧ zRun zBk (fa1 0) ((fi1 0)).toInt 0 a ∧ zRe (fa1 0) ((fi1 0)).toInt a 0 0 0 R ((im12 0)).toInt ((im12 1)).toInt l (am12 0) ∧ ((¬ ((im12 0)).toInt = 0 ∧ (t10).toInt = -1) ∨ (((im12 0)).toInt = 0 ∧ (t10).toInt = l ∧ 0 ≤ (t10).toInt))) := hw11
    obtain ⟨⟨⟨hm12i3, hm12j3⟩, hm12x0⟩, hq13⟩ := hw11
    have hP := va_P.part (pl := rest) (X := [((r2 0), .inr (6, [.ref (r2 1), .int (im12 0), .int (im12 1), .int (im12 2), .int (im12 3), .int (im12 4), .int (im12 5)])), ((r2 1), .inl (ca 0, 8, .inl (am12 0))), ((r1 0), .inr (7, [.ref (r1 1), .int (fi1 0)])), ((r1 1), .inl (ca 2, 600, .inl (fa1 0))), ((r0 0), .inr (8, [.ref (r1 0), .ref (r2 0), .ref (r3 0), .ref y3, .ref y4, .ref y5, .ref y6, .ref y7, .int (fi0 0)])), ((r3 0), .inl (ca 0, 32, .inl (fa3 0)))]) (cx := [((r0 0), .inr (8, [.ref (r1 0), .ref (r2 0), .ref (r3 0), .ref y3, .ref y4, .ref y5, .ref y6, .ref y7, .int (fi0 0)])), ((r1 0), .inr (7, [.ref (r1 1), .int (fi1 0)])), ((r1 1), .inl (ca 2, 600, .inl (fa1 0))), ((r2 0), .inr (6, [.ref (r2 1), .int (im12 0), .int (im12 1), .int (im12 2), .int (im12 3), .int (im12 4), .int (im12 5)])), ((r2 1), .inl (ca 0, 8, .inl (am12 0))), ((r3 0), .inl (ca 0, 32, .inl (fa3 0)))]) hP [4, 2, 3, 0, 1, 5] rfl
    have hD := va_D.part (pl := rest) (X := [((r2 0), .inr (6, [.ref (r2 1), .int (im12 0), .int (im12 1), .int (im12 2), .int (im12 3), .int (im12 4), .int (im12 5)])), ((r2 1), .inl (ca 0, 8, .inl (am12 0))), ((r1 0), .inr (7, [.ref (r1 1), .int (fi1 0)])), ((r1 1), .inl (ca 2, 600, .inl (fa1 0))), ((r0 0), .inr (8, [.ref (r1 0), .ref (r2 0), .ref (r3 0), .ref y3, .ref y4, .ref y5, .ref y6, .ref y7, .int (fi0 0)])), ((r3 0), .inl (ca 0, 32, .inl (fa3 0)))]) (cx := [((r0 0), .inr (8, [.ref (r1 0), .ref (r2 0), .ref (r3 0), .ref y3, .ref y4, .ref y5, .ref y6, .ref y7, .int (fi0 0)])), ((r1 0), .inr (7, [.ref (r1 1), .int (fi1 0)])), ((r1 1), .inl (ca 2, 600, .inl (fa1 0))), ((r2 0), .inr (6, [.ref (r2 1), .int (im12 0), .int (im12 1), .int (im12 2), .int (im12 3), .int (im12 4), .int (im12 5)])), ((r2 1), .inl (ca 0, 8, .inl (am12 0))), ((r3 0), .inl (ca 0, 32, .inl (fa3 0)))]) hD [4, 2, 3, 0, 1, 5] (by decide) rfl
    have hP : va_P D vwCl (((r0 0), .inr (8, [.ref (r1 0), .ref (r2 0), .ref (r3 0), .ref y3, .ref y4, .ref y5, .ref y6, .ref y7, .int (fi0 0)])) :: ((r1 0), .inr (7, [.ref (r1 1), .int (fi1 0)])) :: ((r1 1), .inl (ca 2, 600, .inl (fa1 0))) :: ((r2 0), .inr (6, [.ref (r2 1), .int (im12 0), .int (im12 1), .int (im12 2), .int (im12 3), .int (im12 4), .int (im12 5)])) :: ((r2 1), .inl (ca 0, 8, .inl (am12 0))) :: ((r3 0), .inl (ca 0, 32, .inl (fa3 0))) :: rest) H := hP
    have hD : va_D A (((r0 0), .inr (8, [.ref (r1 0), .ref (r2 0), .ref (r3 0), .ref y3, .ref y4, .ref y5, .ref y6, .ref y7, .int (fi0 0)])) :: ((r1 0), .inr (7, [.ref (r1 1), .int (fi1 0)])) :: ((r1 1), .inl (ca 2, 600, .inl (fa1 0))) :: ((r2 0), .inr (6, [.ref (r2 1), .int (im12 0), .int (im12 1), .int (im12 2), .int (im12 3), .int (im12 4), .int (im12 5)])) :: ((r2 1), .inl (ca 0, 8, .inl (am12 0))) :: ((r3 0), .inl (ca 0, 32, .inl (fa3 0))) :: rest) := hD
    obtain ⟨yR, yl, ya, yy1, yy2, yy3, yy4⟩ := hq13
    refine lv_istore_n (lv' := [(2, .int t10), (0, .ref (r0 0)), (1, .int p1)]) hx hb dX8_way_29 rfl hl (by decide) rfl (fun ls hl => ?_)
    refine lv_aload_n hx hb dX8_way_30 rfl (lv_at hl 1 rfl) ?_
    refine va_get (D := D) (ci := 8) (v := .ref (r1 0)) (C := RX8) (T := TX8) (N := 9) hx hb hts inX8 hown hK hP 0 rfl rfl 0 (by decide) lk10 (fun _ h9 => h9) rfl dX8_way_31 ?_
    refine lv_iconst (v := 0) hx hb dX8_way_34 (by decide) ?_
    refine lv_topi (fun t14 et14 => ?_)
    have ht14 : t14.toInt = 0 := by rw [et14]; decide
    refine va_put (D := D) (ci := 7) (v := .int t14) (ty := .int) (C := RX7) (T := TX7) (N := 2) hx hb hts inX7 tyX7 tyX7_ok nmX7 hown hK hP hD hS 1 rfl rfl 1 (by decide) lk69 (fun _ h9 => h9) rfl (by decide +kernel) rfl rfl (Nat.le_of_ble_eq_true rfl) dX8_way_35 (fun H locs hP hD hS => ?_)
    have hP : va_P D vwCl (((r0 0), .inr (8, [.ref (r1 0), .ref (r2 0), .ref (r3 0), .ref y3, .ref y4, .ref y5, .ref y6, .ref y7, .int (fi0 0)])) :: ((r1 0), .inr (7, [.ref (r1 1), .int t14])) :: ((r1 1), .inl (ca 2, 600, .inl (fa1 0))) :: ((r2 0), .inr (6, [.ref (r2 1), .int (im12 0), .int (im12 1), .int (im12 2), .int (im12 3), .int (im12 4), .int (im12 5)])) :: ((r2 1), .inl (ca 0, 8, .inl (am12 0))) :: ((r3 0), .inl (ca 0, 32, .inl (fa3 0))) :: rest) H := hP
    have hD : va_D A (((r0 0), .inr (8, [.ref (r1 0), .ref (r2 0), .ref (r3 0), .ref y3, .ref y4, .ref y5, .ref y6, .ref y7, .int (fi0 0)])) :: ((r1 0), .inr (7, [.ref (r1 1), .int t14])) :: ((r1 1), .inl (ca 2, 600, .inl (fa1 0))) :: ((r2 0), .inr (6, [.ref (r2 1), .int (im12 0), .int (im12 1), .int (im12 2), .int (im12 3), .int (im12 4), .int (im12 5)])) :: ((r2 1), .inl (ca 0, 8, .inl (am12 0))) :: ((r3 0), .inl (ca 0, 32, .inl (fa3 0))) :: rest) := hD
    refine lv_iload_n hx hb dX8_way_38 rfl (lv_at hl 0 rfl) ?_
    refine lv_iconst (v := (-1)) hx hb dX8_way_39 (by decide) ?_
    refine lv_icmp_eq (tgt := 69) hx hb dX8_way_40 (by decide) (fun c15 => ?_) (fun c15 => ?_)
    ·
      have c15 := z_eq (i := t10.toInt) (j := (-1)) rfl (by decide) c15
      refine lv_iload_n hx hb dX8_way_69 rfl (lv_at hl 0 rfl) ?_
      rw [← hQ9]
      have ho16 : True := trivial
      have ho17 : (0 ≤ t14.toInt ∧ t14.toInt ≤ 600) := ⟨by omega, by omega⟩
      have ho18 : (0 ≤ (im12 3).toInt ∧ (im12 3).toInt ≤ 7) ∧ ((im12 2).toInt = 1 → (im12 3).toInt ≤ 6) := ⟨⟨by omega, by omega⟩, by omega⟩
      have ho19 : True := trivial
      have hq20 : t14.toInt = 0 := by omega
      have hq21 : (¬ (0 ≤ p1.toInt ∧ p1.toInt ≤ 3) ∧ (t10).toInt = -2 ∧ (im12 0) = (fi2 0) ∧ (im12 1) = (fi2 1) ∧ (fa3 0) = (fa3 0) ∧ (fi0 0) = (fi0 0)) ∨ ((0 ≤ p1.toInt ∧ p1.toInt ≤ 3) ∧ zWy (fa1 0) ((fi1 0)).toInt (fa3 0) p1.toNatClampNeg (t10).toInt ((im12 0)).toInt ((im12 1)).toInt (fa3 0) ∧ (((im12 0)).toInt = 0 → ((fi0 0)).toInt = -1) ∧ (((im12 0)).toInt ≠ 0 → (fi0 0) = (fi0 0))) := Or.inr ⟨by omega, ⟨yR, _, yl, ya, yy1, yy2, yy3, Or.inl ⟨by omega, by omega, fun _ _ => rfl⟩⟩, fun q9 => by omega, fun _ => rfl⟩
      exact W.iret (v := t10) hx hb hr (fun t ht hW => ⟨⟨t10, (((zl 0 [(fi0 0)]), (zl 0 []), (zl (fun _ => 0) []), (zl (fun _ => 0) [])), ((zl 0 [t14]), (zl 0 []), (zl (fun _ => 0) [(fa1 0)]), (zl (fun _ => 0) [])), ((zl 0 [(im12 0), (im12 1), (im12 2), (im12 3), (im12 4), (im12 5)]), (zl 0 []), (zl (fun _ => 0) [(am12 0)]), (zl (fun _ => 0) [])), ((zl 0 []), (zl 0 []), (zl (fun _ => 0) [(fa3 0)]), (zl (fun _ => 0) []))), rfl, ⟨ho16, ho17, ho18, ho19, hq20, hq21⟩, ⟨by rw [ht]; exact hP, hD⟩⟩, hS.F ht⟩) hS.2.2 dX8_way_70
    ·
      have c15 := z_ne (i := t10.toInt) (j := (-1)) rfl (by decide) c15
      refine lv_aload_n hx hb dX8_way_43 rfl (lv_at hl 1 rfl) ?_
      refine va_get (D := D) (ci := 8) (v := .ref (r2 0)) (C := RX8) (T := TX8) (N := 9) hx hb hts inX8 hown hK hP 0 rfl rfl 1 (by decide) lk19 (fun _ h9 => h9) rfl dX8_way_44 ?_
      refine va_get (D := D) (ci := 6) (v := .ref (r2 1)) (C := RX6) (T := TX6) (N := 7) hx hb hts inX6 hown hK hP 3 rfl rfl 0 (by decide) lk84 (fun _ h9 => h9) rfl dX8_way_47 ?_
      refine lv_iconst (v := 0) hx hb dX8_way_50 (by decide) ?_
      refine lv_aload_n hx hb dX8_way_51 rfl (lv_at hl 1 rfl) ?_
      refine va_get (D := D) (ci := 8) (v := .ref (r3 0)) (C := RX8) (T := TX8) (N := 9) hx hb hts inX8 hown hK hP 0 rfl rfl 2 (by decide) lk23 (fun _ h9 => h9) rfl dX8_way_52 ?_
      refine lv_iload_n hx hb dX8_way_55 rfl (lv_at hl 2 rfl) ?_
      refine lv_bipush (v := 8) hx hb dX8_way_56 (by decide) ?_
      refine lv_imul hx hb dX8_way_58 ?_
      refine lv_topi (fun t22 et22 => ?_)
      try have ht22 : t22.toInt = p1.toInt * 8 := z_mul et22 rfl (by decide) (by omega -splitDisjunctions) (by omega -splitDisjunctions)
      refine lv_bipush (v := 8) hx hb dX8_way_59 (by decide) ?_
      have hn23 : ¬ (0 : Int32) < 0 := by decide
      have hn24 : ¬ t22 < 0 := fun h9 => absurd (z_lt (i := t22.toInt) (j := 0) rfl (by decide) h9) (by omega)
      have hn25 : ¬ (8 : Int32) < 0 := by decide
      have h426 : (0 : Int32).toNatClampNeg + (8 : Int32).toNatClampNeg ≤ 8 := by rw [show ((0 : Int32).toNatClampNeg) = 0 from by decide, show ((8 : Int32).toNatClampNeg) = 8 from by decide]; omega
      have h527 : t22.toNatClampNeg + (8 : Int32).toNatClampNeg ≤ 32 := by rw [z_cl t22, show ((8 : Int32).toNatClampNeg) = 8 from by decide]; omega
      refine va_copyi hx hb (hml.trans hl.1.symm) hown lm30 lana last lain hK hP hD hS 4 5 0 0 rfl rfl rfl rfl rfl hn23 hn24 hn25 h426 h527 (fun _ _ => rfl) (Nat.le_of_ble_eq_true rfl) (Nat.le_of_ble_eq_true rfl) dX8_way_61 (fun H locs hP hD hS => ?_)
      generalize eg28 : va_cpy (am12 0) (fa3 0) (0 : Int32).toNatClampNeg t22.toNatClampNeg (8 : Int32).toNatClampNeg = g28 at hP hD
      have hP : va_P D vwCl (((r0 0), .inr (8, [.ref (r1 0), .ref (r2 0), .ref (r3 0), .ref y3, .ref y4, .ref y5, .ref y6, .ref y7, .int (fi0 0)])) :: ((r1 0), .inr (7, [.ref (r1 1), .int t14])) :: ((r1 1), .inl (ca 2, 600, .inl (fa1 0))) :: ((r2 0), .inr (6, [.ref (r2 1), .int (im12 0), .int (im12 1), .int (im12 2), .int (im12 3), .int (im12 4), .int (im12 5)])) :: ((r2 1), .inl (ca 0, 8, .inl (am12 0))) :: ((r3 0), .inl (ca 0, 32, .inl g28)) :: rest) H := hP
      have hD : va_D A (((r0 0), .inr (8, [.ref (r1 0), .ref (r2 0), .ref (r3 0), .ref y3, .ref y4, .ref y5, .ref y6, .ref y7, .int (fi0 0)])) :: ((r1 0), .inr (7, [.ref (r1 1), .int t14])) :: ((r1 1), .inl (ca 2, 600, .inl (fa1 0))) :: ((r2 0), .inr (6, [.ref (r2 1), .int (im12 0), .int (im12 1), .int (im12 2), .int (im12 3), .int (im12 4), .int (im12 5)])) :: ((r2 1), .inl (ca 0, 8, .inl (am12 0))) :: ((r3 0), .inl (ca 0, 32, .inl g28)) :: rest) := hD
      refine lv_aload_n hx hb dX8_way_64 rfl (lv_at hl 1 rfl) ?_
      refine lv_iconst (v := (-1)) hx hb dX8_way_65 (by decide) ?_
      refine lv_topi (fun t29 et29 => ?_)
      have ht29 : t29.toInt = (-1) := by rw [et29]; decide
      refine va_put (D := D) (ci := 8) (v := .int t29) (ty := .int) (C := RX8) (T := TX8) (N := 9) hx hb hts inX8 tyX8 tyX8_ok nmX8 hown hK hP hD hS 0 rfl rfl 8 (by decide) lk65 (fun _ h9 => h9) rfl (by decide +kernel) rfl rfl (Nat.le_of_ble_eq_true rfl) dX8_way_66 (fun H locs hP hD hS => ?_)
      have hP : va_P D vwCl (((r0 0), .inr (8, [.ref (r1 0), .ref (r2 0), .ref (r3 0), .ref y3, .ref y4, .ref y5, .ref y6, .ref y7, .int t29])) :: ((r1 0), .inr (7, [.ref (r1 1), .int t14])) :: ((r1 1), .inl (ca 2, 600, .inl (fa1 0))) :: ((r2 0), .inr (6, [.ref (r2 1), .int (im12 0), .int (im12 1), .int (im12 2), .int (im12 3), .int (im12 4), .int (im12 5)])) :: ((r2 1), .inl (ca 0, 8, .inl (am12 0))) :: ((r3 0), .inl (ca 0, 32, .inl g28)) :: rest) H := hP
      have hD : va_D A (((r0 0), .inr (8, [.ref (r1 0), .ref (r2 0), .ref (r3 0), .ref y3, .ref y4, .ref y5, .ref y6, .ref y7, .int t29])) :: ((r1 0), .inr (7, [.ref (r1 1), .int t14])) :: ((r1 1), .inl (ca 2, 600, .inl (fa1 0))) :: ((r2 0), .inr (6, [.ref (r2 1), .int (im12 0), .int (im12 1), .int (im12 2), .int (im12 3), .int (im12 4), .int (im12 5)])) :: ((r2 1), .inl (ca 0, 8, .inl (am12 0))) :: ((r3 0), .inl (ca 0, 32, .inl g28)) :: rest) := hD
      refine lv_iload_n hx hb dX8_way_69 rfl (lv_at hl 0 rfl) ?_
      rw [← hQ9]
      have ho30 : True := trivial
      have ho31 : (0 ≤ t14.toInt ∧ t14.toInt ≤ 600) := ⟨by omega, by omega⟩
      have ho32 : (0 ≤ (im12 3).toInt ∧ (im12 3).toInt ≤ 7) ∧ ((im12 2).toInt = 1 → (im12 3).toInt ≤ 6) := ⟨⟨by omega, by omega⟩, by omega⟩
      have ho33 : True := trivial
      have hq34 : t14.toInt = 0 := by omega
      have hq35 : (¬ (0 ≤ p1.toInt ∧ p1.toInt ≤ 3) ∧ (t10).toInt = -2 ∧ (im12 0) = (fi2 0) ∧ (im12 1) = (fi2 1) ∧ g28 = (fa3 0) ∧ t29 = (fi0 0)) ∨ ((0 ≤ p1.toInt ∧ p1.toInt ≤ 3) ∧ zWy (fa1 0) ((fi1 0)).toInt (fa3 0) p1.toNatClampNeg (t10).toInt ((im12 0)).toInt ((im12 1)).toInt g28 ∧ (((im12 0)).toInt = 0 → (t29).toInt = -1) ∧ (((im12 0)).toInt ≠ 0 → t29 = (fi0 0))) := Or.inr ⟨by omega, ⟨yR, _, yl, ya, yy1, yy2, yy3, Or.inr ⟨by omega, by omega, fun j hj => by rw [← eg28]; exact zWy_c (by omega) (by omega) j⟩⟩, fun _ => by omega, fun q9 => by omega⟩
      exact W.iret (v := t10) hx hb hr (fun t ht hW => ⟨⟨t10, (((zl 0 [t29]), (zl 0 []), (zl (fun _ => 0) []), (zl (fun _ => 0) [])), ((zl 0 [t14]), (zl 0 []), (zl (fun _ => 0) [(fa1 0)]), (zl (fun _ => 0) [])), ((zl 0 [(im12 0), (im12 1), (im12 2), (im12 3), (im12 4), (im12 5)]), (zl 0 []), (zl (fun _ => 0) [(am12 0)]), (zl (fun _ => 0) [])), ((zl 0 []), (zl 0 []), (zl (fun _ => 0) [g28]), (zl (fun _ => 0) []))), rfl, ⟨ho30, ho31, ho32, ho33, hq34, hq35⟩, ⟨by rw [ht]; exact hP, hD⟩⟩, hS.F ht⟩) hS.2.2 dX8_way_70
  ·
    have c5 := z_eq (i := t2.toInt) (j := 0) rfl (by decide) c5
    refine lv_aload_n hx hb dX8_way_7 rfl (lv_at hl 0 rfl) ?_
    refine va_get (D := D) (ci := 8) (v := .ref (r1 0)) (C := RX8) (T := TX8) (N := 9) hx hb hts inX8 hown hK hP 0 rfl rfl 0 (by decide) lk10 (fun _ h9 => h9) rfl dX8_way_8 ?_
    refine lv_iconst (v := 0) hx hb dX8_way_11 (by decide) ?_
    refine lv_topi (fun t36 et36 => ?_)
    have ht36 : t36.toInt = 0 := by rw [et36]; decide
    refine va_put (D := D) (ci := 7) (v := .int t36) (ty := .int) (C := RX7) (T := TX7) (N := 2) hx hb hts inX7 tyX7 tyX7_ok nmX7 hown hK hP hD hS 1 rfl rfl 1 (by decide) lk69 (fun _ h9 => h9) rfl (by decide +kernel) rfl rfl (Nat.le_of_ble_eq_true rfl) dX8_way_12 (fun H locs hP hD hS => ?_)
    have hP : va_P D vwCl (((r0 0), .inr (8, [.ref (r1 0), .ref (r2 0), .ref (r3 0), .ref y3, .ref y4, .ref y5, .ref y6, .ref y7, .int (fi0 0)])) :: ((r1 0), .inr (7, [.ref (r1 1), .int t36])) :: ((r1 1), .inl (ca 2, 600, .inl (fa1 0))) :: ((r2 0), .inr (6, [.ref (r2 1), .int (fi2 0), .int (fi2 1), .int (fi2 2), .int (fi2 3), .int (fi2 4), .int (fi2 5)])) :: ((r2 1), .inl (ca 0, 8, .inl (fa2 0))) :: ((r3 0), .inl (ca 0, 32, .inl (fa3 0))) :: rest) H := hP
    have hD : va_D A (((r0 0), .inr (8, [.ref (r1 0), .ref (r2 0), .ref (r3 0), .ref y3, .ref y4, .ref y5, .ref y6, .ref y7, .int (fi0 0)])) :: ((r1 0), .inr (7, [.ref (r1 1), .int t36])) :: ((r1 1), .inl (ca 2, 600, .inl (fa1 0))) :: ((r2 0), .inr (6, [.ref (r2 1), .int (fi2 0), .int (fi2 1), .int (fi2 2), .int (fi2 3), .int (fi2 4), .int (fi2 5)])) :: ((r2 1), .inl (ca 0, 8, .inl (fa2 0))) :: ((r3 0), .inl (ca 0, 32, .inl (fa3 0))) :: rest) := hD
    refine lv_bipush (v := (-2)) hx hb dX8_way_15 (by decide) ?_
    rw [← hQ9]
    refine lv_topi (fun t37 et37 => ?_)
    have ht37 : t37.toInt = (-2) := by rw [et37]; decide
    have ho38 : True := trivial
    have ho39 : (0 ≤ t36.toInt ∧ t36.toInt ≤ 600) := ⟨by omega, by omega⟩
    have ho40 : (0 ≤ (fi2 3).toInt ∧ (fi2 3).toInt ≤ 7) ∧ ((fi2 2).toInt = 1 → (fi2 3).toInt ≤ 6) := ⟨⟨by omega, by omega⟩, by omega⟩
    have ho41 : True := trivial
    have hq42 : t36.toInt = 0 := by omega
    have hq43 : (¬ (0 ≤ p1.toInt ∧ p1.toInt ≤ 3) ∧ (t37).toInt = -2 ∧ (fi2 0) = (fi2 0) ∧ (fi2 1) = (fi2 1) ∧ (fa3 0) = (fa3 0) ∧ (fi0 0) = (fi0 0)) ∨ ((0 ≤ p1.toInt ∧ p1.toInt ≤ 3) ∧ zWy (fa1 0) ((fi1 0)).toInt (fa3 0) p1.toNatClampNeg (t37).toInt ((fi2 0)).toInt ((fi2 1)).toInt (fa3 0) ∧ (((fi2 0)).toInt = 0 → ((fi0 0)).toInt = -1) ∧ (((fi2 0)).toInt ≠ 0 → (fi0 0) = (fi0 0))) := Or.inl ⟨by omega, by omega, rfl, rfl, rfl, rfl⟩
    exact W.iret (v := t37) hx hb hr (fun t ht hW => ⟨⟨t37, (((zl 0 [(fi0 0)]), (zl 0 []), (zl (fun _ => 0) []), (zl (fun _ => 0) [])), ((zl 0 [t36]), (zl 0 []), (zl (fun _ => 0) [(fa1 0)]), (zl (fun _ => 0) [])), ((zl 0 [(fi2 0), (fi2 1), (fi2 2), (fi2 3), (fi2 4), (fi2 5)]), (zl 0 []), (zl (fun _ => 0) [(fa2 0)]), (zl (fun _ => 0) [])), ((zl 0 []), (zl 0 []), (zl (fun _ => 0) [(fa3 0)]), (zl (fun _ => 0) []))), rfl, ⟨ho38, ho39, ho40, ho41, hq42, hq43⟩, ⟨by rw [ht]; exact hP, hD⟩⟩, hS.F ht⟩) hS.2.2 dX8_way_17

set_option maxHeartbeats 8000000 in
set_option maxRecDepth 100000 in
theorem c_X7_append_R (l : Launch) (D : va_G) (ca : Nat → ClassId) (sa : Nat → Nat) (A : Nat → Prop) (rest : va_W) (r0 : Nat → Nat) (fi0 : Nat → Int32) (fl0 : Nat → Int64) (fa0 : Nat → Nat → Int32) (fb0 : Nat → Nat → Int64) (hv0 : Ok_TAPE fi0 fa0) (p1 : Int32) (hpre0 : (fi0 0).toInt ≤ 596) : Met l yX7_append wsX7_append ({ frames := 0, cells := 0, slots := 0, locals := 0 }) (va_Pc [.ref (r0 0), .int p1] (zPre D ca sa A (w_TAPE ca r0 fi0 fl0 fa0 fb0 (rest)))) (va_Qv (fun (u : zS) => Ok_TAPE (zx [0] fi0 u.1) (zx [0] fa0 u.2.2.1) ∧ ((u.1 0).toInt = (fi0 0).toInt + 4) ∧ ((u.2.2.1 0) = zAp (fa0 0) ((fi0 0)).toNatClampNeg p1 4)) (fun u t => zPost D A (w_TAPE ca r0 (zx [0] fi0 u.1) (zx [] fl0 u.2.1) (zx [0] fa0 u.2.2.1) (zx [] fb0 u.2.2.2) (rest)) t) A) 0 0 A := by
  refine Met.ofW (cc := cX7_append) (maxL := 3) (ret := none) (by decide) rfl ?_
  intro p e s m args below meth c s₁ B hml hv9
  obtain ⟨rfl, hE, hP, hD⟩ := hv9
  have hx := B.exec
  have hb := B.bytes
  have hr := B.returns
  have hts := atoms_spec (ws := wsX7_append) B.pre
  have hown : s.vm.findClass RX7 = some m.cls := findClass_of_methodNamed B.named
  have hlocks := B.notSynchronized
  have hK := hE.1
  have hF : CallFix p m c cX7_append 3 s _ wsX7_append RX7 := ⟨hx, hb, hml, hown, hts⟩
  have hS : va_S A s.heap s.heap [] := va_S.rf
  have lk15 := hts (.fieldLink RX7 15 "BranchPlay$Tape" "length" "I") (by decide +kernel)
  have inX7 : ∀ w ∈ wsX70, w ∈ wsX7_append := by decide +kernel
  have lk11 := hts (.fieldLink RX7 11 "BranchPlay$Tape" "bytes" "[B") (by decide +kernel)
  obtain ⟨hv0i0, hv0j0⟩ := hv0
  generalize hHe : s.heap = H at hP
  have hS : va_S A s.heap H [] := by rw [← hHe]; exact hS
  have hP : va_P D vwCl (((r0 0), .inr (7, [.ref (r0 1), .int (fi0 0)])) :: ((r0 1), .inl (ca 2, 600, .inl (fa0 0))) :: rest) H := hP
  have hD : va_D A (((r0 0), .inr (7, [.ref (r0 1), .int (fi0 0)])) :: ((r0 1), .inl (ca 2, 600, .inl (fa0 0))) :: rest) := hD
  have hl := lv_entry ([.ref (r0 0), .int p1]) (n := 3) (Nat.le_of_ble_eq_true rfl)
  rw [lg_entry_eq]
  generalize (lg_sl ([.ref (r0 0), .int p1]) ++ List.replicate (3 - (lg_sl ([.ref (r0 0), .int p1])).length) Slot.unset).toArray = ls at hl ⊢
  have hl : lv_has ls 3 [(0, .ref (r0 0)), (1, .int p1)] := hl
  generalize hQ9 : MQ below _ _ s 0 0 A = Q9
  refine lv_bipush (v := 24) hx hb dX7_append_0 (by decide) ?_
  refine lv_topi (fun t1 et1 => ?_)
  have ht1 : t1.toInt = 24 := by rw [et1]; decide
  refine lv_istore_n (lv' := [(2, .int t1), (0, .ref (r0 0)), (1, .int p1)]) hx hb dX7_append_2 rfl hl (by decide) rfl (fun ls hl => ?_)
  have J3_2 : ∀ (n2 : Nat) (x2_2 : Int32) (gi0_2 : Nat → Int32) (gl0_2 : Nat → Int64) (ga0_2 : Nat → Nat → Int32) (gb0_2 : Nat → Nat → Int64) (H : Heap) (locs : List Loc) (hP : va_P D vwCl (((r0 0), .inr (7, [.ref (r0 1), .int (gi0_2 0)])) :: ((r0 1), .inl (ca 2, 600, .inl (ga0_2 0))) :: rest) H) (hD : va_D A (((r0 0), .inr (7, [.ref (r0 1), .int (gi0_2 0)])) :: ((r0 1), .inl (ca 2, 600, .inl (ga0_2 0))) :: rest)) (hS : va_S A s.heap H locs) (ls : Array Slot) (hl : lv_has ls 3 [(0, .ref (r0 0)), (1, .int p1), (2, .int x2_2)]) (hg0_2 : (0 ≤ (gi0_2 0).toInt ∧ (gi0_2 0).toInt ≤ 600)) (hRV_2 : (ga0_2 0) = zAp (fa0 0) (fi0 0).toNatClampNeg p1 ((24 - x2_2.toInt).toNat / 8)) (hf2_0 : -8 ≤ x2_2.toInt ∧ x2_2.toInt ≤ 24 ∧ 8 * ((gi0_2 0).toInt - (fi0 0).toInt) = 24 - x2_2.toInt), (x2_2.toInt + 9).toNat < n2 → W p l e (headSpec wsX7_append ({ frames := 0, cells := 0, slots := 0, locals := 0 })).room s m ([.ref (r0 0), .int p1] : List Value).toArray below meth c H locs 0 0 Q9 (F0 m 3 ls []) := by
    intro n2
    induction n2 with
    | zero => intro x2_2 gi0_2 gl0_2 ga0_2 gb0_2 H locs hP hD hS ls hl hg0_2 hRV_2 hf2_0 hn9; exact absurd hn9 (Nat.not_lt_zero _)
    | succ n2 ih2 =>
      intro x2_2 gi0_2 gl0_2 ga0_2 gb0_2 H locs hP hD hS ls hl hg0_2 hRV_2 hf2_0 hn9
      obtain ⟨hg0_2i0, hg0_2j0⟩ := hg0_2
      refine lv_iload_n hx hb dX7_append_3 rfl (lv_at hl 2 rfl) ?_
      refine lv_if_lt (tgt := 46) hx hb dX7_append_4 (by decide) (fun c3 => ?_) (fun c3 => ?_)
      ·
        have c3 := z_lt (i := x2_2.toInt) (j := 0) rfl (by decide) c3
        rw [← hQ9]
        have ho4 : (0 ≤ (gi0_2 0).toInt ∧ (gi0_2 0).toInt ≤ 600) := ⟨by omega, by omega⟩
        have hq5 : (gi0_2 0).toInt = (fi0 0).toInt + 4 := by omega
        have hq6 : (ga0_2 0) = zAp (fa0 0) ((fi0 0)).toNatClampNeg p1 4 := by rw [hRV_2, show (24 - x2_2.toInt).toNat / 8 = 4 by omega]
        exact W.vret hx hb hr (fun t ht hW => ⟨⟨((zl 0 [(gi0_2 0)]), (zl 0 []), (zl (fun _ => 0) [(ga0_2 0)]), (zl (fun _ => 0) [])), rfl, ⟨ho4, hq5, hq6⟩, ⟨by rw [ht]; exact hP, hD⟩⟩, hS.F ht⟩) hS.2.2 dX7_append_46
      ·
        have c3 := z_nlt (i := x2_2.toInt) (j := 0) rfl (by decide) c3
        refine lv_aload_n hx hb dX7_append_7 rfl (lv_at hl 0 rfl) ?_
        refine va_get (D := D) (ci := 7) (v := .int (gi0_2 0)) (C := RX7) (T := TX7) (N := 2) hx hb hts inX7 hown hK hP 0 rfl rfl 1 (by decide) lk15 (fun _ h9 => h9) rfl dX7_append_8 ?_
        refine lv_sipush (v := 600) hx hb dX7_append_11 (by decide) ?_
        refine lv_icmp_ge (tgt := 46) hx hb dX7_append_14 (by decide) (fun c7 => ?_) (fun c7 => ?_)
        ·
          have c7 := z_le (i := 600) (j := (gi0_2 0).toInt) (by decide) rfl c7
          rw [← hQ9]
          have ho8 : (0 ≤ (gi0_2 0).toInt ∧ (gi0_2 0).toInt ≤ 600) := ⟨by omega, by omega⟩
          have hq9 : (gi0_2 0).toInt = (fi0 0).toInt + 4 := by omega
          have hq10 : (ga0_2 0) = zAp (fa0 0) ((fi0 0)).toNatClampNeg p1 4 := by rw [hRV_2, show (24 - x2_2.toInt).toNat / 8 = 4 by omega]
          exact W.vret hx hb hr (fun t ht hW => ⟨⟨((zl 0 [(gi0_2 0)]), (zl 0 []), (zl (fun _ => 0) [(ga0_2 0)]), (zl (fun _ => 0) [])), rfl, ⟨ho8, hq9, hq10⟩, ⟨by rw [ht]; exact hP, hD⟩⟩, hS.F ht⟩) hS.2.2 dX7_append_46
        ·
          have c7 := z_nle (i := 600) (j := (gi0_2 0).toInt) (by decide) rfl c7
          refine lv_aload_n hx hb dX7_append_17 rfl (lv_at hl 0 rfl) ?_
          refine va_get (D := D) (ci := 7) (v := .ref (r0 1)) (C := RX7) (T := TX7) (N := 2) hx hb hts inX7 hown hK hP 0 rfl rfl 0 (by decide) lk11 (fun _ h9 => h9) rfl dX7_append_18 ?_
          refine lv_aload_n hx hb dX7_append_21 rfl (lv_at hl 0 rfl) ?_
          refine va_get (D := D) (ci := 7) (v := .int (gi0_2 0)) (C := RX7) (T := TX7) (N := 2) hx hb hts inX7 hown hK hP 0 rfl rfl 1 (by decide) lk15 (fun _ h9 => h9) rfl dX7_append_22 ?_
          refine lv_iload_n hx hb dX7_append_25 rfl (lv_at hl 1 rfl) ?_
          refine lv_iload_n hx hb dX7_append_26 rfl (lv_at hl 2 rfl) ?_
          refine lv_iushr hx hb dX7_append_27 rfl ?_
          refine lv_topi (fun t11 et11 => ?_)
          refine lv_i2b hx hb dX7_append_28 rfl ?_
          refine lv_topi (fun t12 et12 => ?_)
          have hi13 : vp_in (gi0_2 0) 600 := z_in (i := (gi0_2 0).toInt) rfl (by omega) (by omega)
          refine va_bast hx hb hK hP hD hS 1 2 rfl rfl hi13 dX7_append_29 (fun H locs hP hD hS => ?_)
          generalize eg14 : upd (ga0_2 0) (gi0_2 0).toNatClampNeg (vp_nar .byte t12) = g14 at hP hD
          have hP : va_P D vwCl (((r0 0), .inr (7, [.ref (r0 1), .int (gi0_2 0)])) :: ((r0 1), .inl (ca 2, 600, .inl g14)) :: rest) H := hP
          have hD : va_D A (((r0 0), .inr (7, [.ref (r0 1), .int (gi0_2 0)])) :: ((r0 1), .inl (ca 2, 600, .inl g14)) :: rest) := hD
          refine lv_aload_n hx hb dX7_append_30 rfl (lv_at hl 0 rfl) ?_
          refine lv_dup hx hb dX7_append_31 rfl ?_
          refine va_get (D := D) (ci := 7) (v := .int (gi0_2 0)) (C := RX7) (T := TX7) (N := 2) hx hb hts inX7 hown hK hP 0 rfl rfl 1 (by decide) lk15 (fun _ h9 => h9) rfl dX7_append_32 ?_
          refine lv_iconst (v := 1) hx hb dX7_append_35 (by decide) ?_
          refine lv_iadd hx hb dX7_append_36 ?_
          refine lv_topi (fun t15 et15 => ?_)
          try have ht15 : t15.toInt = (gi0_2 0).toInt + 1 := z_add et15 rfl (by decide) (by omega -splitDisjunctions) (by omega -splitDisjunctions)
          refine va_put (D := D) (ci := 7) (v := .int t15) (ty := .int) (C := RX7) (T := TX7) (N := 2) hx hb hts inX7 tyX7 tyX7_ok nmX7 hown hK hP hD hS 0 rfl rfl 1 (by decide) lk15 (fun _ h9 => h9) rfl (by decide +kernel) rfl rfl (Nat.le_of_ble_eq_true rfl) dX7_append_37 (fun H locs hP hD hS => ?_)
          have hP : va_P D vwCl (((r0 0), .inr (7, [.ref (r0 1), .int t15])) :: ((r0 1), .inl (ca 2, 600, .inl g14)) :: rest) H := hP
          have hD : va_D A (((r0 0), .inr (7, [.ref (r0 1), .int t15])) :: ((r0 1), .inl (ca 2, 600, .inl g14)) :: rest) := hD
          obtain ⟨t16, et16⟩ : ∃ y : Int32, y = x2_2 + (-8) := ⟨_, rfl⟩
          try have ht16 : t16.toInt = x2_2.toInt + (-8) := z_add et16 rfl (by decide) (by omega -splitDisjunctions) (by omega -splitDisjunctions)
          refine lv_iinc (v := t16) (lv' := [(2, .int t16), (0, .ref (r0 0)), (1, .int p1)]) hx hb dX7_append_40 hl (k := 2) rfl (by rw [et16]; rfl) (by decide) rfl (fun ls hl => ?_)
          refine lv_goto (tgt := 3) hx hb dX7_append_43 (by decide) ?_
          have ho17 : (0 ≤ t15.toInt ∧ t15.toInt ≤ 600) := ⟨by omega, by omega⟩
          have hr18 : g14 = zAp (fa0 0) (fi0 0).toNatClampNeg p1 ((24 - t16.toInt).toNat / 8) := by rw [show (24 - t16.toInt).toNat / 8 = (24 - x2_2.toInt).toNat / 8 + 1 by omega, zAp_s, ← hRV_2, ← eg14, et12, et11, zNb, zBy_u p1 (by omega), show nI (24 - 8 * ((24 - x2_2.toInt).toNat / 8)) = x2_2 from Int32.toInt_inj.mp (by rw [nI_toInt (by omega)]; omega), show (gi0_2 0).toNatClampNeg = (fi0 0).toNatClampNeg + (24 - x2_2.toInt).toNat / 8 by (rw [z_cl, z_cl]; omega)]
          have hj19 : -8 ≤ t16.toInt ∧ t16.toInt ≤ 24 ∧ 8 * (t15.toInt - (fi0 0).toInt) = 24 - t16.toInt := by omega
          have hm20 : (t16.toInt + 9).toNat < n2 := by omega
          exact ih2 t16 (zl 0 [t15]) (zl 0 []) (zl (fun _ => 0) [g14]) (zl (fun _ => 0) []) _ _ hP hD hS ls (lv_sub hl [1, 2, 0] rfl) ho17 hr18 hj19 hm20
  have ho21 : (0 ≤ (fi0 0).toInt ∧ (fi0 0).toInt ≤ 600) := ⟨by omega, by omega⟩
  have hr22 : (fa0 0) = zAp (fa0 0) (fi0 0).toNatClampNeg p1 ((24 - t1.toInt).toNat / 8) := by rw [show (24 - t1.toInt).toNat / 8 = 0 by omega]; rfl
  have hj23 : -8 ≤ t1.toInt ∧ t1.toInt ≤ 24 ∧ 8 * ((fi0 0).toInt - (fi0 0).toInt) = 24 - t1.toInt := by omega
  exact J3_2 ((t1.toInt + 9).toNat + 1) t1 (zl 0 [(fi0 0)]) (zl 0 []) (zl (fun _ => 0) [(fa0 0)]) (zl (fun _ => 0) []) _ _ hP hD hS ls (lv_sub hl [1, 2, 0] rfl) ho21 hr22 hj23 (Nat.lt_succ_self _)

set_option maxHeartbeats 8000000 in
set_option maxRecDepth 100000 in
theorem c_X8_feed_R (l : Launch) (D : va_G) (ca : Nat → ClassId) (sa : Nat → Nat) (A : Nat → Prop) (rest : va_W) (r0 : Nat → Nat) (r1 : Nat → Nat) (y1 : Nat) (y2 : Nat) (y3 : Nat) (y4 : Nat) (y5 : Nat) (y6 : Nat) (y7 : Nat) (fi0 : Nat → Int32) (fl0 : Nat → Int64) (fa0 : Nat → Nat → Int32) (fb0 : Nat → Nat → Int64) (hv0 : Ok_BP fi0 fa0) (fi1 : Nat → Int32) (fl1 : Nat → Int64) (fa1 : Nat → Nat → Int32) (fb1 : Nat → Nat → Int64) (hv1 : Ok_TAPE fi1 fa1) (p1 : Int32) (p2 : Int32) (p3 : Int32) (p4 : Int32) (p5 : Int32) : Met l yX8_feed wsX8_feed ({ frames := 1, cells := 0, slots := 0, locals := 22 }) (va_Pc [.ref (r0 0), .int p1, .int p2, .int p3, .int p4, .int p5] (zPre D ca sa A (w_BP ca r0 (r1 0) y1 y2 y3 y4 y5 y6 y7 fi0 fl0 fa0 fb0 (w_TAPE ca r1 fi1 fl1 fa1 fb1 (rest))))) (va_Qi (fun (r : Int32) (u : zS) => Ok_TAPE (zx [0] fi1 u.1) (zx [0] fa1 u.2.2.1) ∧ (((fi1 0).toInt + 20 ≤ 600 ∧ r.toInt = (fi1 0).toInt + 20 ∧ (u.1 0).toInt = (fi1 0).toInt + 20) ∨ (600 < (fi1 0).toInt + 20 ∧ r.toInt = -3 ∧ (u.1 0).toInt = (fi1 0).toInt)) ∧ (((r).toInt = -3 ∧ (u.2.2.1 0) = (fa1 0)) ∨ (¬ (r).toInt = -3 ∧ (u.2.2.1 0) = zFd (fa1 0) ((fi1 0)).toNatClampNeg (zVs p1 p2 p3 p4 p5) 5))) (fun u t => zPost D A (w_BP ca r0 (r1 0) y1 y2 y3 y4 y5 y6 y7 fi0 fl0 fa0 fb0 (w_TAPE ca r1 (zx [0] fi1 u.1) (zx [] fl1 u.2.1) (zx [0] fa1 u.2.2.1) (zx [] fb1 u.2.2.2) (rest))) t) A) 0 0 A := by
  refine Met.ofW (cc := cX8_feed) (maxL := 6) (ret := (some .int)) (by decide) rfl ?_
  intro p e s m args below meth c s₁ B hml hv9
  obtain ⟨rfl, hE, hP, hD⟩ := hv9
  have hx := B.exec
  have hb := B.bytes
  have hr := B.returns
  have hts := atoms_spec (ws := wsX8_feed) B.pre
  have hown : s.vm.findClass RX8 = some m.cls := findClass_of_methodNamed B.named
  have hlocks := B.notSynchronized
  have hK := hE.1
  have hF : CallFix p m c cX8_feed 6 s _ wsX8_feed RX8 := ⟨hx, hb, hml, hown, hts⟩
  have hS : va_S A s.heap s.heap [] := va_S.rf
  have lk10 := hts (.fieldLink RX8 10 "BranchPlay" "tape" "LBranchPlay$Tape;") (by decide +kernel)
  have inX8 : ∀ w ∈ wsX80, w ∈ wsX8_feed := by decide +kernel
  have lk69 := hts (.fieldLink RX8 69 "BranchPlay$Tape" "length" "I") (by decide +kernel)
  have inX7 : ∀ w ∈ wsX70, w ∈ wsX8_feed := by decide +kernel
  obtain ⟨hv1i0, hv1j0⟩ := hv1
  generalize hHe : s.heap = H at hP
  have hS : va_S A s.heap H [] := by rw [← hHe]; exact hS
  have hP : va_P D vwCl (((r0 0), .inr (8, [.ref (r1 0), .ref y1, .ref y2, .ref y3, .ref y4, .ref y5, .ref y6, .ref y7, .int (fi0 0)])) :: ((r1 0), .inr (7, [.ref (r1 1), .int (fi1 0)])) :: ((r1 1), .inl (ca 2, 600, .inl (fa1 0))) :: rest) H := hP
  have hD : va_D A (((r0 0), .inr (8, [.ref (r1 0), .ref y1, .ref y2, .ref y3, .ref y4, .ref y5, .ref y6, .ref y7, .int (fi0 0)])) :: ((r1 0), .inr (7, [.ref (r1 1), .int (fi1 0)])) :: ((r1 1), .inl (ca 2, 600, .inl (fa1 0))) :: rest) := hD
  have hl := lv_entry ([.ref (r0 0), .int p1, .int p2, .int p3, .int p4, .int p5]) (n := 6) (Nat.le_of_ble_eq_true rfl)
  rw [lg_entry_eq]
  generalize (lg_sl ([.ref (r0 0), .int p1, .int p2, .int p3, .int p4, .int p5]) ++ List.replicate (6 - (lg_sl ([.ref (r0 0), .int p1, .int p2, .int p3, .int p4, .int p5])).length) Slot.unset).toArray = ls at hl ⊢
  have hl : lv_has ls 6 [(0, .ref (r0 0)), (1, .int p1), (2, .int p2), (3, .int p3), (4, .int p4), (5, .int p5)] := hl
  generalize hQ9 : MQ below _ _ s 0 0 A = Q9
  refine lv_aload_n hx hb dX8_feed_0 rfl (lv_at hl 0 rfl) ?_
  refine va_get (D := D) (ci := 8) (v := .ref (r1 0)) (C := RX8) (T := TX8) (N := 9) hx hb hts inX8 hown hK hP 0 rfl rfl 0 (by decide) lk10 (fun _ h9 => h9) rfl dX8_feed_1 ?_
  refine va_get (D := D) (ci := 7) (v := .int (fi1 0)) (C := RX7) (T := TX7) (N := 2) hx hb hts inX7 hown hK hP 1 rfl rfl 1 (by decide) lk69 (fun _ h9 => h9) rfl dX8_feed_4 ?_
  refine lv_bipush (v := 20) hx hb dX8_feed_7 (by decide) ?_
  refine lv_iadd hx hb dX8_feed_9 ?_
  refine lv_topi (fun t1 et1 => ?_)
  try have ht1 : t1.toInt = (fi1 0).toInt + 20 := z_add et1 rfl (by decide) (by omega -splitDisjunctions) (by omega -splitDisjunctions)
  refine lv_sipush (v := 600) hx hb dX8_feed_10 (by decide) ?_
  refine lv_icmp_le (tgt := 19) hx hb dX8_feed_13 (by decide) (fun c2 => ?_) (fun c2 => ?_)
  ·
    have c2 := z_le (i := t1.toInt) (j := 600) rfl (by decide) c2
    refine lv_aload_n hx hb dX8_feed_19 rfl (lv_at hl 0 rfl) ?_
    refine va_get (D := D) (ci := 8) (v := .ref (r1 0)) (C := RX8) (T := TX8) (N := 9) hx hb hts inX8 hown hK hP 0 rfl rfl 0 (by decide) lk10 (fun _ h9 => h9) rfl dX8_feed_20 ?_
    refine lv_iload_n hx hb dX8_feed_23 rfl (lv_at hl 1 rfl) ?_
    have ho3 : (0 ≤ (fi1 0).toInt ∧ (fi1 0).toInt ≤ 600) := ⟨by omega, by omega⟩
    have hp4 : (fi1 0).toInt ≤ 596 := by omega
    have hP9 := va_P.part (pl := rest) (X := [((r0 0), .inr (8, [.ref (r1 0), .ref y1, .ref y2, .ref y3, .ref y4, .ref y5, .ref y6, .ref y7, .int (fi0 0)])), ((r1 0), .inr (7, [.ref (r1 1), .int (fi1 0)])), ((r1 1), .inl (ca 2, 600, .inl (fa1 0)))]) (cx := [((r1 0), .inr (7, [.ref (r1 1), .int (fi1 0)])), ((r1 1), .inl (ca 2, 600, .inl (fa1 0))), ((r0 0), .inr (8, [.ref (r1 0), .ref y1, .ref y2, .ref y3, .ref y4, .ref y5, .ref y6, .ref y7, .int (fi0 0)]))]) hP [1, 2, 0] rfl
    have hD9 := va_D.part (pl := rest) (X := [((r0 0), .inr (8, [.ref (r1 0), .ref y1, .ref y2, .ref y3, .ref y4, .ref y5, .ref y6, .ref y7, .int (fi0 0)])), ((r1 0), .inr (7, [.ref (r1 1), .int (fi1 0)])), ((r1 1), .inl (ca 2, 600, .inl (fa1 0)))]) (cx := [((r1 0), .inr (7, [.ref (r1 1), .int (fi1 0)])), ((r1 1), .inl (ca 2, 600, .inl (fa1 0))), ((r0 0), .inr (8, [.ref (r1 0), .ref y1, .ref y2, .ref y3, .ref y4, .ref y5, .ref y6, .ref y7, .int (fi0 0)]))]) hD [1, 2, 0] (by decide) rfl
    refine z_vV (As := [.int p1]) (rest := []) hF (c_X7_append_R l D ca sa A (((r0 0), .inr (8, [.ref (r1 0), .ref y1, .ref y2, .ref y3, .ref y4, .ref y5, .ref y6, .ref y7, .int (fi0 0)])) :: rest) (zl 0 [(r1 0), (r1 1)]) (zl 0 [(fi1 0)]) (zl 0 []) (zl (fun _ => 0) [(fa1 0)]) (zl (fun _ => 0) []) ho3 p1 hp4) (cwV 1 hts gX8_feed_X7_append rfl rfl rfl (by decide +kernel) ⟨Nat.le_of_ble_eq_true rfl, Nat.le_of_ble_eq_true rfl⟩) hE hP9 hD9 hS 7 0 rfl rfl rfl hl.1 rfl (Nat.le_of_ble_eq_true rfl) dX8_feed_24 ⟨Nat.zero_le _, Nat.zero_le _⟩ (fun u5 H locs hw7 hP hD hS => ?_)
    obtain ⟨im8, lm8, am8, bm8⟩ := u5
    replace hw7 : ((0 ≤ (im8 0).toInt ∧ (im8 0).toInt ≤ 600)) ∧ ((im8 0).toInt = (fi1 0).toInt + 4) ∧ ((am8 0) = zAp (fa1 0) ((fi1 0)).toNatClampNeg p1 4) := hw7
    obtain ⟨⟨hm8i0, hm8j0⟩, hq9, hq10⟩ := hw7
    have hP := va_P.part (pl := rest) (X := [((r1 0), .inr (7, [.ref (r1 1), .int (im8 0)])), ((r1 1), .inl (ca 2, 600, .inl (am8 0))), ((r0 0), .inr (8, [.ref (r1 0), .ref y1, .ref y2, .ref y3, .ref y4, .ref y5, .ref y6, .ref y7, .int (fi0 0)]))]) (cx := [((r0 0), .inr (8, [.ref (r1 0), .ref y1, .ref y2, .ref y3, .ref y4, .ref y5, .ref y6, .ref y7, .int (fi0 0)])), ((r1 0), .inr (7, [.ref (r1 1), .int (im8 0)])), ((r1 1), .inl (ca 2, 600, .inl (am8 0)))]) hP [2, 0, 1] rfl
    have hD := va_D.part (pl := rest) (X := [((r1 0), .inr (7, [.ref (r1 1), .int (im8 0)])), ((r1 1), .inl (ca 2, 600, .inl (am8 0))), ((r0 0), .inr (8, [.ref (r1 0), .ref y1, .ref y2, .ref y3, .ref y4, .ref y5, .ref y6, .ref y7, .int (fi0 0)]))]) (cx := [((r0 0), .inr (8, [.ref (r1 0), .ref y1, .ref y2, .ref y3, .ref y4, .ref y5, .ref y6, .ref y7, .int (fi0 0)])), ((r1 0), .inr (7, [.ref (r1 1), .int (im8 0)])), ((r1 1), .inl (ca 2, 600, .inl (am8 0)))]) hD [2, 0, 1] (by decide) rfl
    have hP : va_P D vwCl (((r0 0), .inr (8, [.ref (r1 0), .ref y1, .ref y2, .ref y3, .ref y4, .ref y5, .ref y6, .ref y7, .int (fi0 0)])) :: ((r1 0), .inr (7, [.ref (r1 1), .int (im8 0)])) :: ((r1 1), .inl (ca 2, 600, .inl (am8 0))) :: rest) H := hP
    have hD : va_D A (((r0 0), .inr (8, [.ref (r1 0), .ref y1, .ref y2, .ref y3, .ref y4, .ref y5, .ref y6, .ref y7, .int (fi0 0)])) :: ((r1 0), .inr (7, [.ref (r1 1), .int (im8 0)])) :: ((r1 1), .inl (ca 2, 600, .inl (am8 0))) :: rest) := hD
    refine lv_aload_n hx hb dX8_feed_27 rfl (lv_at hl 0 rfl) ?_
    refine va_get (D := D) (ci := 8) (v := .ref (r1 0)) (C := RX8) (T := TX8) (N := 9) hx hb hts inX8 hown hK hP 0 rfl rfl 0 (by decide) lk10 (fun _ h9 => h9) rfl dX8_feed_28 ?_
    refine lv_iload_n hx hb dX8_feed_31 rfl (lv_at hl 2 rfl) ?_
    have ho11 : (0 ≤ (im8 0).toInt ∧ (im8 0).toInt ≤ 600) := ⟨by omega, by omega⟩
    have hp12 : (im8 0).toInt ≤ 596 := by omega
    have hP9 := va_P.part (pl := rest) (X := [((r0 0), .inr (8, [.ref (r1 0), .ref y1, .ref y2, .ref y3, .ref y4, .ref y5, .ref y6, .ref y7, .int (fi0 0)])), ((r1 0), .inr (7, [.ref (r1 1), .int (im8 0)])), ((r1 1), .inl (ca 2, 600, .inl (am8 0)))]) (cx := [((r1 0), .inr (7, [.ref (r1 1), .int (im8 0)])), ((r1 1), .inl (ca 2, 600, .inl (am8 0))), ((r0 0), .inr (8, [.ref (r1 0), .ref y1, .ref y2, .ref y3, .ref y4, .ref y5, .ref y6, .ref y7, .int (fi0 0)]))]) hP [1, 2, 0] rfl
    have hD9 := va_D.part (pl := rest) (X := [((r0 0), .inr (8, [.ref (r1 0), .ref y1, .ref y2, .ref y3, .ref y4, .ref y5, .ref y6, .ref y7, .int (fi0 0)])), ((r1 0), .inr (7, [.ref (r1 1), .int (im8 0)])), ((r1 1), .inl (ca 2, 600, .inl (am8 0)))]) (cx := [((r1 0), .inr (7, [.ref (r1 1), .int (im8 0)])), ((r1 1), .inl (ca 2, 600, .inl (am8 0))), ((r0 0), .inr (8, [.ref (r1 0), .ref y1, .ref y2, .ref y3, .ref y4, .ref y5, .ref y6, .ref y7, .int (fi0 0)]))]) hD [1, 2, 0] (by decide) rfl
    refine z_vV (As := [.int p2]) (rest := []) hF (c_X7_append_R l D ca sa A (((r0 0), .inr (8, [.ref (r1 0), .ref y1, .ref y2, .ref y3, .ref y4, .ref y5, .ref y6, .ref y7, .int (fi0 0)])) :: rest) (zl 0 [(r1 0), (r1 1)]) (zl 0 [(im8 0)]) (zl 0 []) (zl (fun _ => 0) [(am8 0)]) (zl (fun _ => 0) []) ho11 p2 hp12) (cwV 1 hts gX8_feed_X7_append rfl rfl rfl (by decide +kernel) ⟨Nat.le_of_ble_eq_true rfl, Nat.le_of_ble_eq_true rfl⟩) hE hP9 hD9 hS 7 0 rfl rfl rfl hl.1 rfl (Nat.le_of_ble_eq_true rfl) dX8_feed_32 ⟨Nat.zero_le _, Nat.zero_le _⟩ (fun u13 H locs hw15 hP hD hS => ?_)
    obtain ⟨im16, lm16, am16, bm16⟩ := u13
    replace hw15 : ((0 ≤ (im16 0).toInt ∧ (im16 0).toInt ≤ 600)) ∧ ((im16 0).toInt = (im8 0).toInt + 4) ∧ ((am16 0) = zAp (am8 0) ((im8 0)).toNatClampNeg p2 4) := hw15
    obtain ⟨⟨hm16i0, hm16j0⟩, hq17, hq18⟩ := hw15
    have hP := va_P.part (pl := rest) (X := [((r1 0), .inr (7, [.ref (r1 1), .int (im16 0)])), ((r1 1), .inl (ca 2, 600, .inl (am16 0))), ((r0 0), .inr (8, [.ref (r1 0), .ref y1, .ref y2, .ref y3, .ref y4, .ref y5, .ref y6, .ref y7, .int (fi0 0)]))]) (cx := [((r0 0), .inr (8, [.ref (r1 0), .ref y1, .ref y2, .ref y3, .ref y4, .ref y5, .ref y6, .ref y7, .int (fi0 0)])), ((r1 0), .inr (7, [.ref (r1 1), .int (im16 0)])), ((r1 1), .inl (ca 2, 600, .inl (am16 0)))]) hP [2, 0, 1] rfl
    have hD := va_D.part (pl := rest) (X := [((r1 0), .inr (7, [.ref (r1 1), .int (im16 0)])), ((r1 1), .inl (ca 2, 600, .inl (am16 0))), ((r0 0), .inr (8, [.ref (r1 0), .ref y1, .ref y2, .ref y3, .ref y4, .ref y5, .ref y6, .ref y7, .int (fi0 0)]))]) (cx := [((r0 0), .inr (8, [.ref (r1 0), .ref y1, .ref y2, .ref y3, .ref y4, .ref y5, .ref y6, .ref y7, .int (fi0 0)])), ((r1 0), .inr (7, [.ref (r1 1), .int (im16 0)])), ((r1 1), .inl (ca 2, 600, .inl (am16 0)))]) hD [2, 0, 1] (by decide) rfl
    have hP : va_P D vwCl (((r0 0), .inr (8, [.ref (r1 0), .ref y1, .ref y2, .ref y3, .ref y4, .ref y5, .ref y6, .ref y7, .int (fi0 0)])) :: ((r1 0), .inr (7, [.ref (r1 1), .int (im16 0)])) :: ((r1 1), .inl (ca 2, 600, .inl (am16 0))) :: rest) H := hP
    have hD : va_D A (((r0 0), .inr (8, [.ref (r1 0), .ref y1, .ref y2, .ref y3, .ref y4, .ref y5, .ref y6, .ref y7, .int (fi0 0)])) :: ((r1 0), .inr (7, [.ref (r1 1), .int (im16 0)])) :: ((r1 1), .inl (ca 2, 600, .inl (am16 0))) :: rest) := hD
    refine lv_aload_n hx hb dX8_feed_35 rfl (lv_at hl 0 rfl) ?_
    refine va_get (D := D) (ci := 8) (v := .ref (r1 0)) (C := RX8) (T := TX8) (N := 9) hx hb hts inX8 hown hK hP 0 rfl rfl 0 (by decide) lk10 (fun _ h9 => h9) rfl dX8_feed_36 ?_
    refine lv_iload_n hx hb dX8_feed_39 rfl (lv_at hl 3 rfl) ?_
    have ho19 : (0 ≤ (im16 0).toInt ∧ (im16 0).toInt ≤ 600) := ⟨by omega, by omega⟩
    have hp20 : (im16 0).toInt ≤ 596 := by omega
    have hP9 := va_P.part (pl := rest) (X := [((r0 0), .inr (8, [.ref (r1 0), .ref y1, .ref y2, .ref y3, .ref y4, .ref y5, .ref y6, .ref y7, .int (fi0 0)])), ((r1 0), .inr (7, [.ref (r1 1), .int (im16 0)])), ((r1 1), .inl (ca 2, 600, .inl (am16 0)))]) (cx := [((r1 0), .inr (7, [.ref (r1 1), .int (im16 0)])), ((r1 1), .inl (ca 2, 600, .inl (am16 0))), ((r0 0), .inr (8, [.ref (r1 0), .ref y1, .ref y2, .ref y3, .ref y4, .ref y5, .ref y6, .ref y7, .int (fi0 0)]))]) hP [1, 2, 0] rfl
    have hD9 := va_D.part (pl := rest) (X := [((r0 0), .inr (8, [.ref (r1 0), .ref y1, .ref y2, .ref y3, .ref y4, .ref y5, .ref y6, .ref y7, .int (fi0 0)])), ((r1 0), .inr (7, [.ref (r1 1), .int (im16 0)])), ((r1 1), .inl (ca 2, 600, .inl (am16 0)))]) (cx := [((r1 0), .inr (7, [.ref (r1 1), .int (im16 0)])), ((r1 1), .inl (ca 2, 600, .inl (am16 0))), ((r0 0), .inr (8, [.ref (r1 0), .ref y1, .ref y2, .ref y3, .ref y4, .ref y5, .ref y6, .ref y7, .int (fi0 0)]))]) hD [1, 2, 0] (by decide) rfl
    refine z_vV (As := [.int p3]) (rest := []) hF (c_X7_append_R l D ca sa A (((r0 0), .inr (8, [.ref (r1 0), .ref y1, .ref y2, .ref y3, .ref y4, .ref y5, .ref y6, .ref y7, .int (fi0 0)])) :: rest) (zl 0 [(r1 0), (r1 1)]) (zl 0 [(im16 0)]) (zl 0 []) (zl (fun _ => 0) [(am16 0)]) (zl (fun _ => 0) []) ho19 p3 hp20) (cwV 1 hts gX8_feed_X7_append rfl rfl rfl (by decide +kernel) ⟨Nat.le_of_ble_eq_true rfl, Nat.le_of_ble_eq_true rfl⟩) hE hP9 hD9 hS 7 0 rfl rfl rfl hl.1 rfl (Nat.le_of_ble_eq_true rfl) dX8_feed_40 ⟨Nat.zero_le _, Nat.zero_le _⟩ (fun u21 H locs hw23 hP hD hS => ?_)
    obtain ⟨im24, lm24, am24, bm24⟩ := u21
    replace hw23 : ((0 ≤ (im24 0).toInt ∧ (im24 0).toInt ≤ 600)) ∧ ((im24 0).toInt = (im16 0).toInt + 4) ∧ ((am24 0) = zAp (am16 0) ((im16 0)).toNatClampNeg p3 4) := hw23
    obtain ⟨⟨hm24i0, hm24j0⟩, hq25, hq26⟩ := hw23
    have hP := va_P.part (pl := rest) (X := [((r1 0), .inr (7, [.ref (r1 1), .int (im24 0)])), ((r1 1), .inl (ca 2, 600, .inl (am24 0))), ((r0 0), .inr (8, [.ref (r1 0), .ref y1, .ref y2, .ref y3, .ref y4, .ref y5, .ref y6, .ref y7, .int (fi0 0)]))]) (cx := [((r0 0), .inr (8, [.ref (r1 0), .ref y1, .ref y2, .ref y3, .ref y4, .ref y5, .ref y6, .ref y7, .int (fi0 0)])), ((r1 0), .inr (7, [.ref (r1 1), .int (im24 0)])), ((r1 1), .inl (ca 2, 600, .inl (am24 0)))]) hP [2, 0, 1] rfl
    have hD := va_D.part (pl := rest) (X := [((r1 0), .inr (7, [.ref (r1 1), .int (im24 0)])), ((r1 1), .inl (ca 2, 600, .inl (am24 0))), ((r0 0), .inr (8, [.ref (r1 0), .ref y1, .ref y2, .ref y3, .ref y4, .ref y5, .ref y6, .ref y7, .int (fi0 0)]))]) (cx := [((r0 0), .inr (8, [.ref (r1 0), .ref y1, .ref y2, .ref y3, .ref y4, .ref y5, .ref y6, .ref y7, .int (fi0 0)])), ((r1 0), .inr (7, [.ref (r1 1), .int (im24 0)])), ((r1 1), .inl (ca 2, 600, .inl (am24 0)))]) hD [2, 0, 1] (by decide) rfl
    have hP : va_P D vwCl (((r0 0), .inr (8, [.ref (r1 0), .ref y1, .ref y2, .ref y3, .ref y4, .ref y5, .ref y6, .ref y7, .int (fi0 0)])) :: ((r1 0), .inr (7, [.ref (r1 1), .int (im24 0)])) :: ((r1 1), .inl (ca 2, 600, .inl (am24 0))) :: rest) H := hP
    have hD : va_D A (((r0 0), .inr (8, [.ref (r1 0), .ref y1, .ref y2, .ref y3, .ref y4, .ref y5, .ref y6, .ref y7, .int (fi0 0)])) :: ((r1 0), .inr (7, [.ref (r1 1), .int (im24 0)])) :: ((r1 1), .inl (ca 2, 600, .inl (am24 0))) :: rest) := hD
    refine lv_aload_n hx hb dX8_feed_43 rfl (lv_at hl 0 rfl) ?_
    refine va_get (D := D) (ci := 8) (v := .ref (r1 0)) (C := RX8) (T := TX8) (N := 9) hx hb hts inX8 hown hK hP 0 rfl rfl 0 (by decide) lk10 (fun _ h9 => h9) rfl dX8_feed_44 ?_
    refine lv_iload hx hb dX8_feed_47 (lv_at hl 4 rfl) ?_
    have ho27 : (0 ≤ (im24 0).toInt ∧ (im24 0).toInt ≤ 600) := ⟨by omega, by omega⟩
    have hp28 : (im24 0).toInt ≤ 596 := by omega
    have hP9 := va_P.part (pl := rest) (X := [((r0 0), .inr (8, [.ref (r1 0), .ref y1, .ref y2, .ref y3, .ref y4, .ref y5, .ref y6, .ref y7, .int (fi0 0)])), ((r1 0), .inr (7, [.ref (r1 1), .int (im24 0)])), ((r1 1), .inl (ca 2, 600, .inl (am24 0)))]) (cx := [((r1 0), .inr (7, [.ref (r1 1), .int (im24 0)])), ((r1 1), .inl (ca 2, 600, .inl (am24 0))), ((r0 0), .inr (8, [.ref (r1 0), .ref y1, .ref y2, .ref y3, .ref y4, .ref y5, .ref y6, .ref y7, .int (fi0 0)]))]) hP [1, 2, 0] rfl
    have hD9 := va_D.part (pl := rest) (X := [((r0 0), .inr (8, [.ref (r1 0), .ref y1, .ref y2, .ref y3, .ref y4, .ref y5, .ref y6, .ref y7, .int (fi0 0)])), ((r1 0), .inr (7, [.ref (r1 1), .int (im24 0)])), ((r1 1), .inl (ca 2, 600, .inl (am24 0)))]) (cx := [((r1 0), .inr (7, [.ref (r1 1), .int (im24 0)])), ((r1 1), .inl (ca 2, 600, .inl (am24 0))), ((r0 0), .inr (8, [.ref (r1 0), .ref y1, .ref y2, .ref y3, .ref y4, .ref y5, .ref y6, .ref y7, .int (fi0 0)]))]) hD [1, 2, 0] (by decide) rfl
    refine z_vV (As := [.int p4]) (rest := []) hF (c_X7_append_R l D ca sa A (((r0 0), .inr (8, [.ref (r1 0), .ref y1, .ref y2, .ref y3, .ref y4, .ref y5, .ref y6, .ref y7, .int (fi0 0)])) :: rest) (zl 0 [(r1 0), (r1 1)]) (zl 0 [(im24 0)]) (zl 0 []) (zl (fun _ => 0) [(am24 0)]) (zl (fun _ => 0) []) ho27 p4 hp28) (cwV 1 hts gX8_feed_X7_append rfl rfl rfl (by decide +kernel) ⟨Nat.le_of_ble_eq_true rfl, Nat.le_of_ble_eq_true rfl⟩) hE hP9 hD9 hS 7 0 rfl rfl rfl hl.1 rfl (Nat.le_of_ble_eq_true rfl) dX8_feed_49 ⟨Nat.zero_le _, Nat.zero_le _⟩ (fun u29 H locs hw31 hP hD hS => ?_)
    obtain ⟨im32, lm32, am32, bm32⟩ := u29
    replace hw31 : ((0 ≤ (im32 0).toInt ∧ (im32 0).toInt ≤ 600)) ∧ ((im32 0).toInt = (im24 0).toInt + 4) ∧ ((am32 0) = zAp (am24 0) ((im24 0)).toNatClampNeg p4 4) := hw31
    obtain ⟨⟨hm32i0, hm32j0⟩, hq33, hq34⟩ := hw31
    have hP := va_P.part (pl := rest) (X := [((r1 0), .inr (7, [.ref (r1 1), .int (im32 0)])), ((r1 1), .inl (ca 2, 600, .inl (am32 0))), ((r0 0), .inr (8, [.ref (r1 0), .ref y1, .ref y2, .ref y3, .ref y4, .ref y5, .ref y6, .ref y7, .int (fi0 0)]))]) (cx := [((r0 0), .inr (8, [.ref (r1 0), .ref y1, .ref y2, .ref y3, .ref y4, .ref y5, .ref y6, .ref y7, .int (fi0 0)])), ((r1 0), .inr (7, [.ref (r1 1), .int (im32 0)])), ((r1 1), .inl (ca 2, 600, .inl (am32 0)))]) hP [2, 0, 1] rfl
    have hD := va_D.part (pl := rest) (X := [((r1 0), .inr (7, [.ref (r1 1), .int (im32 0)])), ((r1 1), .inl (ca 2, 600, .inl (am32 0))), ((r0 0), .inr (8, [.ref (r1 0), .ref y1, .ref y2, .ref y3, .ref y4, .ref y5, .ref y6, .ref y7, .int (fi0 0)]))]) (cx := [((r0 0), .inr (8, [.ref (r1 0), .ref y1, .ref y2, .ref y3, .ref y4, .ref y5, .ref y6, .ref y7, .int (fi0 0)])), ((r1 0), .inr (7, [.ref (r1 1), .int (im32 0)])), ((r1 1), .inl (ca 2, 600, .inl (am32 0)))]) hD [2, 0, 1] (by decide) rfl
    have hP : va_P D vwCl (((r0 0), .inr (8, [.ref (r1 0), .ref y1, .ref y2, .ref y3, .ref y4, .ref y5, .ref y6, .ref y7, .int (fi0 0)])) :: ((r1 0), .inr (7, [.ref (r1 1), .int (im32 0)])) :: ((r1 1), .inl (ca 2, 600, .inl (am32 0))) :: rest) H := hP
    have hD : va_D A (((r0 0), .inr (8, [.ref (r1 0), .ref y1, .ref y2, .ref y3, .ref y4, .ref y5, .ref y6, .ref y7, .int (fi0 0)])) :: ((r1 0), .inr (7, [.ref (r1 1), .int (im32 0)])) :: ((r1 1), .inl (ca 2, 600, .inl (am32 0))) :: rest) := hD
    refine lv_aload_n hx hb dX8_feed_52 rfl (lv_at hl 0 rfl) ?_
    refine va_get (D := D) (ci := 8) (v := .ref (r1 0)) (C := RX8) (T := TX8) (N := 9) hx hb hts inX8 hown hK hP 0 rfl rfl 0 (by decide) lk10 (fun _ h9 => h9) rfl dX8_feed_53 ?_
    refine lv_iload hx hb dX8_feed_56 (lv_at hl 5 rfl) ?_
    have ho35 : (0 ≤ (im32 0).toInt ∧ (im32 0).toInt ≤ 600) := ⟨by omega, by omega⟩
    have hp36 : (im32 0).toInt ≤ 596 := by omega
    have hP9 := va_P.part (pl := rest) (X := [((r0 0), .inr (8, [.ref (r1 0), .ref y1, .ref y2, .ref y3, .ref y4, .ref y5, .ref y6, .ref y7, .int (fi0 0)])), ((r1 0), .inr (7, [.ref (r1 1), .int (im32 0)])), ((r1 1), .inl (ca 2, 600, .inl (am32 0)))]) (cx := [((r1 0), .inr (7, [.ref (r1 1), .int (im32 0)])), ((r1 1), .inl (ca 2, 600, .inl (am32 0))), ((r0 0), .inr (8, [.ref (r1 0), .ref y1, .ref y2, .ref y3, .ref y4, .ref y5, .ref y6, .ref y7, .int (fi0 0)]))]) hP [1, 2, 0] rfl
    have hD9 := va_D.part (pl := rest) (X := [((r0 0), .inr (8, [.ref (r1 0), .ref y1, .ref y2, .ref y3, .ref y4, .ref y5, .ref y6, .ref y7, .int (fi0 0)])), ((r1 0), .inr (7, [.ref (r1 1), .int (im32 0)])), ((r1 1), .inl (ca 2, 600, .inl (am32 0)))]) (cx := [((r1 0), .inr (7, [.ref (r1 1), .int (im32 0)])), ((r1 1), .inl (ca 2, 600, .inl (am32 0))), ((r0 0), .inr (8, [.ref (r1 0), .ref y1, .ref y2, .ref y3, .ref y4, .ref y5, .ref y6, .ref y7, .int (fi0 0)]))]) hD [1, 2, 0] (by decide) rfl
    refine z_vV (As := [.int p5]) (rest := []) hF (c_X7_append_R l D ca sa A (((r0 0), .inr (8, [.ref (r1 0), .ref y1, .ref y2, .ref y3, .ref y4, .ref y5, .ref y6, .ref y7, .int (fi0 0)])) :: rest) (zl 0 [(r1 0), (r1 1)]) (zl 0 [(im32 0)]) (zl 0 []) (zl (fun _ => 0) [(am32 0)]) (zl (fun _ => 0) []) ho35 p5 hp36) (cwV 1 hts gX8_feed_X7_append rfl rfl rfl (by decide +kernel) ⟨Nat.le_of_ble_eq_true rfl, Nat.le_of_ble_eq_true rfl⟩) hE hP9 hD9 hS 7 0 rfl rfl rfl hl.1 rfl (Nat.le_of_ble_eq_true rfl) dX8_feed_58 ⟨Nat.zero_le _, Nat.zero_le _⟩ (fun u37 H locs hw39 hP hD hS => ?_)
    obtain ⟨im40, lm40, am40, bm40⟩ := u37
    replace hw39 : ((0 ≤ (im40 0).toInt ∧ (im40 0).toInt ≤ 600)) ∧ ((im40 0).toInt = (im32 0).toInt + 4) ∧ ((am40 0) = zAp (am32 0) ((im32 0)).toNatClampNeg p5 4) := hw39
    obtain ⟨⟨hm40i0, hm40j0⟩, hq41, hq42⟩ := hw39
    have hP := va_P.part (pl := rest) (X := [((r1 0), .inr (7, [.ref (r1 1), .int (im40 0)])), ((r1 1), .inl (ca 2, 600, .inl (am40 0))), ((r0 0), .inr (8, [.ref (r1 0), .ref y1, .ref y2, .ref y3, .ref y4, .ref y5, .ref y6, .ref y7, .int (fi0 0)]))]) (cx := [((r0 0), .inr (8, [.ref (r1 0), .ref y1, .ref y2, .ref y3, .ref y4, .ref y5, .ref y6, .ref y7, .int (fi0 0)])), ((r1 0), .inr (7, [.ref (r1 1), .int (im40 0)])), ((r1 1), .inl (ca 2, 600, .inl (am40 0)))]) hP [2, 0, 1] rfl
    have hD := va_D.part (pl := rest) (X := [((r1 0), .inr (7, [.ref (r1 1), .int (im40 0)])), ((r1 1), .inl (ca 2, 600, .inl (am40 0))), ((r0 0), .inr (8, [.ref (r1 0), .ref y1, .ref y2, .ref y3, .ref y4, .ref y5, .ref y6, .ref y7, .int (fi0 0)]))]) (cx := [((r0 0), .inr (8, [.ref (r1 0), .ref y1, .ref y2, .ref y3, .ref y4, .ref y5, .ref y6, .ref y7, .int (fi0 0)])), ((r1 0), .inr (7, [.ref (r1 1), .int (im40 0)])), ((r1 1), .inl (ca 2, 600, .inl (am40 0)))]) hD [2, 0, 1] (by decide) rfl
    have hP : va_P D vwCl (((r0 0), .inr (8, [.ref (r1 0), .ref y1, .ref y2, .ref y3, .ref y4, .ref y5, .ref y6, .ref y7, .int (fi0 0)])) :: ((r1 0), .inr (7, [.ref (r1 1), .int (im40 0)])) :: ((r1 1), .inl (ca 2, 600, .inl (am40 0))) :: rest) H := hP
    have hD : va_D A (((r0 0), .inr (8, [.ref (r1 0), .ref y1, .ref y2, .ref y3, .ref y4, .ref y5, .ref y6, .ref y7, .int (fi0 0)])) :: ((r1 0), .inr (7, [.ref (r1 1), .int (im40 0)])) :: ((r1 1), .inl (ca 2, 600, .inl (am40 0))) :: rest) := hD
    refine lv_aload_n hx hb dX8_feed_61 rfl (lv_at hl 0 rfl) ?_
    refine va_get (D := D) (ci := 8) (v := .ref (r1 0)) (C := RX8) (T := TX8) (N := 9) hx hb hts inX8 hown hK hP 0 rfl rfl 0 (by decide) lk10 (fun _ h9 => h9) rfl dX8_feed_62 ?_
    refine va_get (D := D) (ci := 7) (v := .int (im40 0)) (C := RX7) (T := TX7) (N := 2) hx hb hts inX7 hown hK hP 1 rfl rfl 1 (by decide) lk69 (fun _ h9 => h9) rfl dX8_feed_65 ?_
    rw [← hQ9]
    have ho43 : (0 ≤ (im40 0).toInt ∧ (im40 0).toInt ≤ 600) := ⟨by omega, by omega⟩
    have hq44 : ((fi1 0).toInt + 20 ≤ 600 ∧ (im40 0).toInt = (fi1 0).toInt + 20 ∧ (im40 0).toInt = (fi1 0).toInt + 20) ∨ (600 < (fi1 0).toInt + 20 ∧ (im40 0).toInt = -3 ∧ (im40 0).toInt = (fi1 0).toInt) := by omega
    have hq45 : (((im40 0)).toInt = -3 ∧ (am40 0) = (fa1 0)) ∨ (¬ ((im40 0)).toInt = -3 ∧ (am40 0) = zFd (fa1 0) ((fi1 0)).toNatClampNeg (zVs p1 p2 p3 p4 p5) 5) := Or.inr ⟨by omega, by rw [hq42, hq34, hq26, hq18, hq10, show (im8 0).toNatClampNeg = (fi1 0).toNatClampNeg + 4 * 1 by (rw [z_cl, z_cl]; omega), show (im16 0).toNatClampNeg = (fi1 0).toNatClampNeg + 4 * 2 by (rw [z_cl, z_cl]; omega), show (im24 0).toNatClampNeg = (fi1 0).toNatClampNeg + 4 * 3 by (rw [z_cl, z_cl]; omega), show (im32 0).toNatClampNeg = (fi1 0).toNatClampNeg + 4 * 4 by (rw [z_cl, z_cl]; omega)]; rfl⟩
    exact W.iret (v := (im40 0)) hx hb hr (fun t ht hW => ⟨⟨(im40 0), ((zl 0 [(im40 0)]), (zl 0 []), (zl (fun _ => 0) [(am40 0)]), (zl (fun _ => 0) [])), rfl, ⟨ho43, hq44, hq45⟩, ⟨by rw [ht]; exact hP, hD⟩⟩, hS.F ht⟩) hS.2.2 dX8_feed_68
  ·
    have c2 := z_nle (i := t1.toInt) (j := 600) rfl (by decide) c2
    refine lv_bipush (v := (-3)) hx hb dX8_feed_16 (by decide) ?_
    rw [← hQ9]
    refine lv_topi (fun t46 et46 => ?_)
    have ht46 : t46.toInt = (-3) := by rw [et46]; decide
    have ho47 : (0 ≤ (fi1 0).toInt ∧ (fi1 0).toInt ≤ 600) := ⟨by omega, by omega⟩
    have hq48 : ((fi1 0).toInt + 20 ≤ 600 ∧ t46.toInt = (fi1 0).toInt + 20 ∧ (fi1 0).toInt = (fi1 0).toInt + 20) ∨ (600 < (fi1 0).toInt + 20 ∧ t46.toInt = -3 ∧ (fi1 0).toInt = (fi1 0).toInt) := by omega
    have hq49 : ((t46).toInt = -3 ∧ (fa1 0) = (fa1 0)) ∨ (¬ (t46).toInt = -3 ∧ (fa1 0) = zFd (fa1 0) ((fi1 0)).toNatClampNeg (zVs p1 p2 p3 p4 p5) 5) := Or.inl ⟨by omega, rfl⟩
    exact W.iret (v := t46) hx hb hr (fun t ht hW => ⟨⟨t46, ((zl 0 [(fi1 0)]), (zl 0 []), (zl (fun _ => 0) [(fa1 0)]), (zl (fun _ => 0) [])), rfl, ⟨ho47, hq48, hq49⟩, ⟨by rw [ht]; exact hP, hD⟩⟩, hS.F ht⟩) hS.2.2 dX8_feed_18

set_option maxHeartbeats 8000000 in
set_option maxRecDepth 100000 in
theorem c_X8_end_R (l : Launch) (D : va_G) (ca : Nat → ClassId) (sa : Nat → Nat) (A : Nat → Prop) (rest : va_W) (r0 : Nat → Nat) (r1 : Nat → Nat) (y1 : Nat) (y2 : Nat) (y3 : Nat) (y4 : Nat) (y5 : Nat) (y6 : Nat) (y7 : Nat) (fi0 : Nat → Int32) (fl0 : Nat → Int64) (fa0 : Nat → Nat → Int32) (fb0 : Nat → Nat → Int64) (hv0 : Ok_BP fi0 fa0) (fi1 : Nat → Int32) (fl1 : Nat → Int64) (fa1 : Nat → Nat → Int32) (fb1 : Nat → Nat → Int64) (hv1 : Ok_TAPE fi1 fa1) (p1 : Int32) : Met l yX8_end wsX8_end ({ frames := 0, cells := 0, slots := 0, locals := 0 }) (va_Pc [.ref (r0 0), .int p1] (zPre D ca sa A (w_BP ca r0 (r1 0) y1 y2 y3 y4 y5 y6 y7 fi0 fl0 fa0 fb0 (w_TAPE ca r1 fi1 fl1 fa1 fb1 (rest))))) (va_Qi (fun (r : Int32) (u : zS) => Ok_TAPE (zx [0] fi1 u.1) (zx [] fa1 u.2.2.1) ∧ (((p1.toInt < 0 ∨ (fi1 0).toInt < p1.toInt) ∧ r.toInt = -1 ∧ (u.1 0).toInt = (fi1 0).toInt) ∨ (0 ≤ p1.toInt ∧ p1.toInt ≤ (fi1 0).toInt ∧ r.toInt = p1.toInt ∧ (u.1 0).toInt = p1.toInt))) (fun u t => zPost D A (w_BP ca r0 (r1 0) y1 y2 y3 y4 y5 y6 y7 fi0 fl0 fa0 fb0 (w_TAPE ca r1 (zx [0] fi1 u.1) (zx [] fl1 u.2.1) (zx [] fa1 u.2.2.1) (zx [] fb1 u.2.2.2) (rest))) t) A) 0 0 A := by
  refine Met.ofW (cc := cX8_end) (maxL := 2) (ret := (some .int)) (by decide) rfl ?_
  intro p e s m args below meth c s₁ B hml hv9
  obtain ⟨rfl, hE, hP, hD⟩ := hv9
  have hx := B.exec
  have hb := B.bytes
  have hr := B.returns
  have hts := atoms_spec (ws := wsX8_end) B.pre
  have hown : s.vm.findClass RX8 = some m.cls := findClass_of_methodNamed B.named
  have hlocks := B.notSynchronized
  have hK := hE.1
  have hF : CallFix p m c cX8_end 2 s _ wsX8_end RX8 := ⟨hx, hb, hml, hown, hts⟩
  have hS : va_S A s.heap s.heap [] := va_S.rf
  have lk10 := hts (.fieldLink RX8 10 "BranchPlay" "tape" "LBranchPlay$Tape;") (by decide +kernel)
  have inX8 : ∀ w ∈ wsX80, w ∈ wsX8_end := by decide +kernel
  have lk69 := hts (.fieldLink RX8 69 "BranchPlay$Tape" "length" "I") (by decide +kernel)
  have inX7 : ∀ w ∈ wsX70, w ∈ wsX8_end := by decide +kernel
  obtain ⟨hv1i0, hv1j0⟩ := hv1
  generalize hHe : s.heap = H at hP
  have hS : va_S A s.heap H [] := by rw [← hHe]; exact hS
  have hP : va_P D vwCl (((r0 0), .inr (8, [.ref (r1 0), .ref y1, .ref y2, .ref y3, .ref y4, .ref y5, .ref y6, .ref y7, .int (fi0 0)])) :: ((r1 0), .inr (7, [.ref (r1 1), .int (fi1 0)])) :: ((r1 1), .inl (ca 2, 600, .inl (fa1 0))) :: rest) H := hP
  have hD : va_D A (((r0 0), .inr (8, [.ref (r1 0), .ref y1, .ref y2, .ref y3, .ref y4, .ref y5, .ref y6, .ref y7, .int (fi0 0)])) :: ((r1 0), .inr (7, [.ref (r1 1), .int (fi1 0)])) :: ((r1 1), .inl (ca 2, 600, .inl (fa1 0))) :: rest) := hD
  have hl := lv_entry ([.ref (r0 0), .int p1]) (n := 2) (Nat.le_of_ble_eq_true rfl)
  rw [lg_entry_eq]
  generalize (lg_sl ([.ref (r0 0), .int p1]) ++ List.replicate (2 - (lg_sl ([.ref (r0 0), .int p1])).length) Slot.unset).toArray = ls at hl ⊢
  have hl : lv_has ls 2 [(0, .ref (r0 0)), (1, .int p1)] := hl
  generalize hQ9 : MQ below _ _ s 0 0 A = Q9
  refine lv_iload_n hx hb dX8_end_0 rfl (lv_at hl 1 rfl) ?_
  refine lv_if_lt (tgt := 15) hx hb dX8_end_1 (by decide) (fun c1 => ?_) (fun c1 => ?_)
  ·
    have c1 := z_lt (i := p1.toInt) (j := 0) rfl (by decide) c1
    refine lv_iconst (v := (-1)) hx hb dX8_end_15 (by decide) ?_
    rw [← hQ9]
    refine lv_topi (fun t2 et2 => ?_)
    have ht2 : t2.toInt = (-1) := by rw [et2]; decide
    have ho3 : (0 ≤ (fi1 0).toInt ∧ (fi1 0).toInt ≤ 600) := ⟨by omega, by omega⟩
    have hq4 : ((p1.toInt < 0 ∨ (fi1 0).toInt < p1.toInt) ∧ t2.toInt = -1 ∧ (fi1 0).toInt = (fi1 0).toInt) ∨ (0 ≤ p1.toInt ∧ p1.toInt ≤ (fi1 0).toInt ∧ t2.toInt = p1.toInt ∧ (fi1 0).toInt = p1.toInt) := by omega
    exact W.iret (v := t2) hx hb hr (fun t ht hW => ⟨⟨t2, ((zl 0 [(fi1 0)]), (zl 0 []), (zl (fun _ => 0) [(fa1 0)]), (zl (fun _ => 0) [])), rfl, ⟨ho3, hq4⟩, ⟨by rw [ht]; exact hP, hD⟩⟩, hS.F ht⟩) hS.2.2 dX8_end_16
  ·
    have c1 := z_nlt (i := p1.toInt) (j := 0) rfl (by decide) c1
    refine lv_iload_n hx hb dX8_end_4 rfl (lv_at hl 1 rfl) ?_
    refine lv_aload_n hx hb dX8_end_5 rfl (lv_at hl 0 rfl) ?_
    refine va_get (D := D) (ci := 8) (v := .ref (r1 0)) (C := RX8) (T := TX8) (N := 9) hx hb hts inX8 hown hK hP 0 rfl rfl 0 (by decide) lk10 (fun _ h9 => h9) rfl dX8_end_6 ?_
    refine va_get (D := D) (ci := 7) (v := .int (fi1 0)) (C := RX7) (T := TX7) (N := 2) hx hb hts inX7 hown hK hP 1 rfl rfl 1 (by decide) lk69 (fun _ h9 => h9) rfl dX8_end_9 ?_
    refine lv_icmp_le (tgt := 17) hx hb dX8_end_12 (by decide) (fun c5 => ?_) (fun c5 => ?_)
    ·
      have c5 := z_le (i := p1.toInt) (j := (fi1 0).toInt) rfl rfl c5
      refine lv_aload_n hx hb dX8_end_17 rfl (lv_at hl 0 rfl) ?_
      refine va_get (D := D) (ci := 8) (v := .ref (r1 0)) (C := RX8) (T := TX8) (N := 9) hx hb hts inX8 hown hK hP 0 rfl rfl 0 (by decide) lk10 (fun _ h9 => h9) rfl dX8_end_18 ?_
      refine lv_iload_n hx hb dX8_end_21 rfl (lv_at hl 1 rfl) ?_
      refine va_put (D := D) (ci := 7) (v := .int p1) (ty := .int) (C := RX7) (T := TX7) (N := 2) hx hb hts inX7 tyX7 tyX7_ok nmX7 hown hK hP hD hS 1 rfl rfl 1 (by decide) lk69 (fun _ h9 => h9) rfl (by decide +kernel) rfl rfl (Nat.le_of_ble_eq_true rfl) dX8_end_22 (fun H locs hP hD hS => ?_)
      have hP : va_P D vwCl (((r0 0), .inr (8, [.ref (r1 0), .ref y1, .ref y2, .ref y3, .ref y4, .ref y5, .ref y6, .ref y7, .int (fi0 0)])) :: ((r1 0), .inr (7, [.ref (r1 1), .int p1])) :: ((r1 1), .inl (ca 2, 600, .inl (fa1 0))) :: rest) H := hP
      have hD : va_D A (((r0 0), .inr (8, [.ref (r1 0), .ref y1, .ref y2, .ref y3, .ref y4, .ref y5, .ref y6, .ref y7, .int (fi0 0)])) :: ((r1 0), .inr (7, [.ref (r1 1), .int p1])) :: ((r1 1), .inl (ca 2, 600, .inl (fa1 0))) :: rest) := hD
      refine lv_iload_n hx hb dX8_end_25 rfl (lv_at hl 1 rfl) ?_
      rw [← hQ9]
      have ho6 : (0 ≤ p1.toInt ∧ p1.toInt ≤ 600) := ⟨by omega, by omega⟩
      have hq7 : ((p1.toInt < 0 ∨ (fi1 0).toInt < p1.toInt) ∧ p1.toInt = -1 ∧ p1.toInt = (fi1 0).toInt) ∨ (0 ≤ p1.toInt ∧ p1.toInt ≤ (fi1 0).toInt ∧ p1.toInt = p1.toInt ∧ p1.toInt = p1.toInt) := by omega
      exact W.iret (v := p1) hx hb hr (fun t ht hW => ⟨⟨p1, ((zl 0 [p1]), (zl 0 []), (zl (fun _ => 0) [(fa1 0)]), (zl (fun _ => 0) [])), rfl, ⟨ho6, hq7⟩, ⟨by rw [ht]; exact hP, hD⟩⟩, hS.F ht⟩) hS.2.2 dX8_end_26
    ·
      have c5 := z_nle (i := p1.toInt) (j := (fi1 0).toInt) rfl rfl c5
      refine lv_iconst (v := (-1)) hx hb dX8_end_15 (by decide) ?_
      rw [← hQ9]
      refine lv_topi (fun t8 et8 => ?_)
      have ht8 : t8.toInt = (-1) := by rw [et8]; decide
      have ho9 : (0 ≤ (fi1 0).toInt ∧ (fi1 0).toInt ≤ 600) := ⟨by omega, by omega⟩
      have hq10 : ((p1.toInt < 0 ∨ (fi1 0).toInt < p1.toInt) ∧ t8.toInt = -1 ∧ (fi1 0).toInt = (fi1 0).toInt) ∨ (0 ≤ p1.toInt ∧ p1.toInt ≤ (fi1 0).toInt ∧ t8.toInt = p1.toInt ∧ (fi1 0).toInt = p1.toInt) := by omega
      exact W.iret (v := t8) hx hb hr (fun t ht hW => ⟨⟨t8, ((zl 0 [(fi1 0)]), (zl 0 []), (zl (fun _ => 0) [(fa1 0)]), (zl (fun _ => 0) [])), rfl, ⟨ho9, hq10⟩, ⟨by rw [ht]; exact hP, hD⟩⟩, hS.F ht⟩) hS.2.2 dX8_end_16

set_option maxHeartbeats 8000000 in
set_option maxRecDepth 100000 in
theorem c_X8_fault_R (l : Launch) (D : va_G) (ca : Nat → ClassId) (sa : Nat → Nat) (A : Nat → Prop) (rest : va_W) (r0 : Nat → Nat) (r1 : Nat → Nat) (y0 : Nat) (y2 : Nat) (y3 : Nat) (y4 : Nat) (y5 : Nat) (y6 : Nat) (y7 : Nat) (fi0 : Nat → Int32) (fl0 : Nat → Int64) (fa0 : Nat → Nat → Int32) (fb0 : Nat → Nat → Int64) (hv0 : Ok_BP fi0 fa0) (fi1 : Nat → Int32) (fl1 : Nat → Int64) (fa1 : Nat → Nat → Int32) (fb1 : Nat → Nat → Int64) (hv1 : Ok_RDR fi1 fa1) (p1 : Int32) : Met l yX8_fault wsX8_fault ({ frames := 0, cells := 0, slots := 0, locals := 0 }) (va_Pc [.ref (r0 0), .int p1] (zPre D ca sa A (w_BP ca r0 y0 (r1 0) y2 y3 y4 y5 y6 y7 fi0 fl0 fa0 fb0 (w_RDR ca r1 fi1 fl1 fa1 fb1 (rest))))) (va_Qi (fun (r : Int32) (u : Unit) => ((p1.toInt = 0 ∧ r.toInt = (fi1 0).toInt) ∨ (p1.toInt = 1 ∧ r.toInt = (fi1 1).toInt) ∨ (¬ p1.toInt = 0 ∧ ¬ p1.toInt = 1 ∧ r.toInt = -1))) (fun u t => zPost D A (w_BP ca r0 y0 (r1 0) y2 y3 y4 y5 y6 y7 fi0 fl0 fa0 fb0 (w_RDR ca r1 fi1 fl1 fa1 fb1 (rest))) t) A) 0 0 A := by
  refine Met.ofW (cc := cX8_fault) (maxL := 2) (ret := (some .int)) (by decide) rfl ?_
  intro p e s m args below meth c s₁ B hml hv9
  obtain ⟨rfl, hE, hP, hD⟩ := hv9
  have hx := B.exec
  have hb := B.bytes
  have hr := B.returns
  have hts := atoms_spec (ws := wsX8_fault) B.pre
  have hown : s.vm.findClass RX8 = some m.cls := findClass_of_methodNamed B.named
  have hlocks := B.notSynchronized
  have hK := hE.1
  have hF : CallFix p m c cX8_fault 2 s _ wsX8_fault RX8 := ⟨hx, hb, hml, hown, hts⟩
  have hS : va_S A s.heap s.heap [] := va_S.rf
  have lk19 := hts (.fieldLink RX8 19 "BranchPlay" "reader" "LBranchPlay$Reader;") (by decide +kernel)
  have inX8 : ∀ w ∈ wsX80, w ∈ wsX8_fault := by decide +kernel
  have lk87 := hts (.fieldLink RX8 87 "BranchPlay$Reader" "faultKind" "I") (by decide +kernel)
  have inX6 : ∀ w ∈ wsX60, w ∈ wsX8_fault := by decide +kernel
  have lk90 := hts (.fieldLink RX8 90 "BranchPlay$Reader" "faultPlace" "I") (by decide +kernel)
  obtain ⟨⟨hv1i3, hv1j3⟩, hv1x0⟩ := hv1
  generalize hHe : s.heap = H at hP
  have hS : va_S A s.heap H [] := by rw [← hHe]; exact hS
  have hP : va_P D vwCl (((r0 0), .inr (8, [.ref y0, .ref (r1 0), .ref y2, .ref y3, .ref y4, .ref y5, .ref y6, .ref y7, .int (fi0 0)])) :: ((r1 0), .inr (6, [.ref (r1 1), .int (fi1 0), .int (fi1 1), .int (fi1 2), .int (fi1 3), .int (fi1 4), .int (fi1 5)])) :: ((r1 1), .inl (ca 0, 8, .inl (fa1 0))) :: rest) H := hP
  have hD : va_D A (((r0 0), .inr (8, [.ref y0, .ref (r1 0), .ref y2, .ref y3, .ref y4, .ref y5, .ref y6, .ref y7, .int (fi0 0)])) :: ((r1 0), .inr (6, [.ref (r1 1), .int (fi1 0), .int (fi1 1), .int (fi1 2), .int (fi1 3), .int (fi1 4), .int (fi1 5)])) :: ((r1 1), .inl (ca 0, 8, .inl (fa1 0))) :: rest) := hD
  have hl := lv_entry ([.ref (r0 0), .int p1]) (n := 2) (Nat.le_of_ble_eq_true rfl)
  rw [lg_entry_eq]
  generalize (lg_sl ([.ref (r0 0), .int p1]) ++ List.replicate (2 - (lg_sl ([.ref (r0 0), .int p1])).length) Slot.unset).toArray = ls at hl ⊢
  have hl : lv_has ls 2 [(0, .ref (r0 0)), (1, .int p1)] := hl
  generalize hQ9 : MQ below _ _ s 0 0 A = Q9
  refine lv_iload_n hx hb dX8_fault_0 rfl (lv_at hl 1 rfl) ?_
  by_cases c1 : p1.toInt = 0
  ·
    refine lv_lookup (tgt := 28) (off := 27) hx hb dX8_fault_1 (by decide) (by (rw [c1]) <;> rfl) (by decide) ?_
    refine lv_aload_n hx hb dX8_fault_28 rfl (lv_at hl 0 rfl) ?_
    refine va_get (D := D) (ci := 8) (v := .ref (r1 0)) (C := RX8) (T := TX8) (N := 9) hx hb hts inX8 hown hK hP 0 rfl rfl 1 (by decide) lk19 (fun _ h9 => h9) rfl dX8_fault_29 ?_
    refine va_get (D := D) (ci := 6) (v := .int (fi1 0)) (C := RX6) (T := TX6) (N := 7) hx hb hts inX6 hown hK hP 1 rfl rfl 1 (by decide) lk87 (fun _ h9 => h9) rfl dX8_fault_32 ?_
    rw [← hQ9]
    have hq2 : (p1.toInt = 0 ∧ (fi1 0).toInt = (fi1 0).toInt) ∨ (p1.toInt = 1 ∧ (fi1 0).toInt = (fi1 1).toInt) ∨ (¬ p1.toInt = 0 ∧ ¬ p1.toInt = 1 ∧ (fi1 0).toInt = -1) := by omega
    exact W.iret (v := (fi1 0)) hx hb hr (fun t ht hW => ⟨⟨(fi1 0), (), rfl, hq2, ⟨by rw [ht]; exact hP, hD⟩⟩, hS.F ht⟩) hS.2.2 dX8_fault_35
  by_cases c3 : p1.toInt = 1
  ·
    refine lv_lookup (tgt := 36) (off := 35) hx hb dX8_fault_1 (by decide) (by (rw [c3]) <;> rfl) (by decide) ?_
    refine lv_aload_n hx hb dX8_fault_36 rfl (lv_at hl 0 rfl) ?_
    refine va_get (D := D) (ci := 8) (v := .ref (r1 0)) (C := RX8) (T := TX8) (N := 9) hx hb hts inX8 hown hK hP 0 rfl rfl 1 (by decide) lk19 (fun _ h9 => h9) rfl dX8_fault_37 ?_
    refine va_get (D := D) (ci := 6) (v := .int (fi1 1)) (C := RX6) (T := TX6) (N := 7) hx hb hts inX6 hown hK hP 1 rfl rfl 2 (by decide) lk90 (fun _ h9 => h9) rfl dX8_fault_40 ?_
    rw [← hQ9]
    have hq4 : (p1.toInt = 0 ∧ (fi1 1).toInt = (fi1 0).toInt) ∨ (p1.toInt = 1 ∧ (fi1 1).toInt = (fi1 1).toInt) ∨ (¬ p1.toInt = 0 ∧ ¬ p1.toInt = 1 ∧ (fi1 1).toInt = -1) := by omega
    exact W.iret (v := (fi1 1)) hx hb hr (fun t ht hW => ⟨⟨(fi1 1), (), rfl, hq4, ⟨by rw [ht]; exact hP, hD⟩⟩, hS.F ht⟩) hS.2.2 dX8_fault_43
  refine lv_lookup (tgt := 44) (off := 43) hx hb dX8_fault_1 (by decide) (by show (if (0 : Int) = p1.toInt then (27 : Int) else if (1 : Int) = p1.toInt then (35 : Int) else (43 : Int)) = 43; rw [if_neg (by omega), if_neg (by omega)]) (by decide) ?_
  refine lv_iconst (v := (-1)) hx hb dX8_fault_44 (by decide) ?_
  rw [← hQ9]
  refine lv_topi (fun t5 et5 => ?_)
  have ht5 : t5.toInt = (-1) := by rw [et5]; decide
  have hq6 : (p1.toInt = 0 ∧ t5.toInt = (fi1 0).toInt) ∨ (p1.toInt = 1 ∧ t5.toInt = (fi1 1).toInt) ∨ (¬ p1.toInt = 0 ∧ ¬ p1.toInt = 1 ∧ t5.toInt = -1) := by omega
  exact W.iret (v := t5) hx hb hr (fun t ht hW => ⟨⟨t5, (), rfl, hq6, ⟨by rw [ht]; exact hP, hD⟩⟩, hS.F ht⟩) hS.2.2 dX8_fault_45

set_option maxHeartbeats 8000000 in
set_option maxRecDepth 100000 in
theorem c_X8_rule_R (l : Launch) (D : va_G) (ca : Nat → ClassId) (sa : Nat → Nat) (A : Nat → Prop) (rest : va_W) (r0 : Nat → Nat) (r1 : Nat → Nat) (y0 : Nat) (y1 : Nat) (y3 : Nat) (y4 : Nat) (y5 : Nat) (y6 : Nat) (y7 : Nat) (fi0 : Nat → Int32) (fl0 : Nat → Int64) (fa0 : Nat → Nat → Int32) (fb0 : Nat → Nat → Int64) (hv0 : Ok_BP fi0 fa0) (fi1 : Nat → Int32) (fl1 : Nat → Int64) (fa1 : Nat → Nat → Int32) (fb1 : Nat → Nat → Int64) (hv1 : Ok_WAYS fi1 fa1) (p1 : Int32) (p2 : Int32) : Met l yX8_rule wsX8_rule ({ frames := 1, cells := 0, slots := 0, locals := 20 }) (va_Pc [.ref (r0 0), .int p1, .int p2] (zPre D ca sa A (w_BP ca r0 y0 y1 (r1 0) y3 y4 y5 y6 y7 fi0 fl0 fa0 fb0 (w_WAYS ca r1 fi1 fl1 fa1 fb1 (rest))))) (va_Qi (fun (r : Int32) (u : Unit) => (((0 ≤ p1.toInt ∧ p1.toInt ≤ 3 ∧ 0 ≤ p2.toInt ∧ p2.toInt ≤ 7) ∧ r = (fa1 0) (8 * p1.toNatClampNeg + p2.toNatClampNeg)) ∨ (¬ (0 ≤ p1.toInt ∧ p1.toInt ≤ 3 ∧ 0 ≤ p2.toInt ∧ p2.toInt ≤ 7) ∧ (r).toInt = -9))) (fun u t => zPost D A (w_BP ca r0 y0 y1 (r1 0) y3 y4 y5 y6 y7 fi0 fl0 fa0 fb0 (w_WAYS ca r1 fi1 fl1 fa1 fb1 (rest))) t) A) 0 0 A := by
  refine Met.ofW (cc := cX8_rule) (maxL := 3) (ret := (some .int)) (by decide) rfl ?_
  intro p e s m args below meth c s₁ B hml hv9
  obtain ⟨rfl, hE, hP, hD⟩ := hv9
  have hx := B.exec
  have hb := B.bytes
  have hr := B.returns
  have hts := atoms_spec (ws := wsX8_rule) B.pre
  have hown : s.vm.findClass RX8 = some m.cls := findClass_of_methodNamed B.named
  have hlocks := B.notSynchronized
  have hK := hE.1
  have hF : CallFix p m c cX8_rule 3 s _ wsX8_rule RX8 := ⟨hx, hb, hml, hown, hts⟩
  have hS : va_S A s.heap s.heap [] := va_S.rf
  have lk23 := hts (.fieldLink RX8 23 "BranchPlay" "ways" "[I") (by decide +kernel)
  have inX8 : ∀ w ∈ wsX80, w ∈ wsX8_rule := by decide +kernel
  generalize hHe : s.heap = H at hP
  have hS : va_S A s.heap H [] := by rw [← hHe]; exact hS
  have hP : va_P D vwCl (((r0 0), .inr (8, [.ref y0, .ref y1, .ref (r1 0), .ref y3, .ref y4, .ref y5, .ref y6, .ref y7, .int (fi0 0)])) :: ((r1 0), .inl (ca 0, 32, .inl (fa1 0))) :: rest) H := hP
  have hD : va_D A (((r0 0), .inr (8, [.ref y0, .ref y1, .ref (r1 0), .ref y3, .ref y4, .ref y5, .ref y6, .ref y7, .int (fi0 0)])) :: ((r1 0), .inl (ca 0, 32, .inl (fa1 0))) :: rest) := hD
  have hl := lv_entry ([.ref (r0 0), .int p1, .int p2]) (n := 3) (Nat.le_of_ble_eq_true rfl)
  rw [lg_entry_eq]
  generalize (lg_sl ([.ref (r0 0), .int p1, .int p2]) ++ List.replicate (3 - (lg_sl ([.ref (r0 0), .int p1, .int p2])).length) Slot.unset).toArray = ls at hl ⊢
  have hl : lv_has ls 3 [(0, .ref (r0 0)), (1, .int p1), (2, .int p2)] := hl
  generalize hQ9 : MQ below _ _ s 0 0 A = Q9
  refine lv_iload_n hx hb dX8_rule_0 rfl (lv_at hl 1 rfl) ?_
  refine z_iS (As := [.int p1]) (rest := []) hF (c_X8_isWay l D ca sa A _ p1) (va_cwS 1 hts gX8_rule_X8_isWay rfl rfl rfl (by decide +kernel) ⟨Nat.le_of_ble_eq_true rfl, Nat.le_of_ble_eq_true rfl⟩) hE hP hD hS rfl hl.1 rfl (Nat.le_of_ble_eq_true rfl) dX8_rule_1 ⟨Nat.zero_le _, Nat.zero_le _⟩ (fun t2 u1 H locs hw3 hP hD hS => ?_)
  replace hw3 : ((t2.toInt = 1 ∧ 0 ≤ p1.toInt ∧ p1.toInt ≤ 3) ∨ (t2.toInt = 0 ∧ (p1.toInt < 0 ∨ 3 < p1.toInt))) := hw3
  have hq4 := hw3
  clear hw3
  refine lv_if_eq (tgt := 17) hx hb dX8_rule_4 (by decide) (fun c5 => ?_) (fun c5 => ?_)
  ·
    have c5 := z_eq (i := t2.toInt) (j := 0) rfl (by decide) c5
    refine lv_bipush (v := (-9)) hx hb dX8_rule_17 (by decide) ?_
    rw [← hQ9]
    refine lv_topi (fun t6 et6 => ?_)
    have ht6 : t6.toInt = (-9) := by rw [et6]; decide
    have hq7 : ((0 ≤ p1.toInt ∧ p1.toInt ≤ 3 ∧ 0 ≤ p2.toInt ∧ p2.toInt ≤ 7) ∧ t6 = (fa1 0) (8 * p1.toNatClampNeg + p2.toNatClampNeg)) ∨ (¬ (0 ≤ p1.toInt ∧ p1.toInt ≤ 3 ∧ 0 ≤ p2.toInt ∧ p2.toInt ≤ 7) ∧ (t6).toInt = -9) := Or.inr ⟨by omega, by omega⟩
    exact W.iret (v := t6) hx hb hr (fun t ht hW => ⟨⟨t6, (), rfl, hq7, ⟨by rw [ht]; exact hP, hD⟩⟩, hS.F ht⟩) hS.2.2 dX8_rule_19
  ·
    have c5 := z_ne (i := t2.toInt) (j := 0) rfl (by decide) c5
    refine lv_iload_n hx hb dX8_rule_7 rfl (lv_at hl 2 rfl) ?_
    refine lv_if_lt (tgt := 17) hx hb dX8_rule_8 (by decide) (fun c8 => ?_) (fun c8 => ?_)
    ·
      have c8 := z_lt (i := p2.toInt) (j := 0) rfl (by decide) c8
      refine lv_bipush (v := (-9)) hx hb dX8_rule_17 (by decide) ?_
      rw [← hQ9]
      refine lv_topi (fun t9 et9 => ?_)
      have ht9 : t9.toInt = (-9) := by rw [et9]; decide
      have hq10 : ((0 ≤ p1.toInt ∧ p1.toInt ≤ 3 ∧ 0 ≤ p2.toInt ∧ p2.toInt ≤ 7) ∧ t9 = (fa1 0) (8 * p1.toNatClampNeg + p2.toNatClampNeg)) ∨ (¬ (0 ≤ p1.toInt ∧ p1.toInt ≤ 3 ∧ 0 ≤ p2.toInt ∧ p2.toInt ≤ 7) ∧ (t9).toInt = -9) := Or.inr ⟨by omega, by omega⟩
      exact W.iret (v := t9) hx hb hr (fun t ht hW => ⟨⟨t9, (), rfl, hq10, ⟨by rw [ht]; exact hP, hD⟩⟩, hS.F ht⟩) hS.2.2 dX8_rule_19
    ·
      have c8 := z_nlt (i := p2.toInt) (j := 0) rfl (by decide) c8
      refine lv_iload_n hx hb dX8_rule_11 rfl (lv_at hl 2 rfl) ?_
      refine lv_bipush (v := 8) hx hb dX8_rule_12 (by decide) ?_
      refine lv_icmp_lt (tgt := 20) hx hb dX8_rule_14 (by decide) (fun c11 => ?_) (fun c11 => ?_)
      ·
        have c11 := z_lt (i := p2.toInt) (j := 8) rfl (by decide) c11
        refine lv_aload_n hx hb dX8_rule_20 rfl (lv_at hl 0 rfl) ?_
        refine va_get (D := D) (ci := 8) (v := .ref (r1 0)) (C := RX8) (T := TX8) (N := 9) hx hb hts inX8 hown hK hP 0 rfl rfl 2 (by decide) lk23 (fun _ h9 => h9) rfl dX8_rule_21 ?_
        refine lv_iload_n hx hb dX8_rule_24 rfl (lv_at hl 1 rfl) ?_
        refine lv_bipush (v := 8) hx hb dX8_rule_25 (by decide) ?_
        have hnt12 : 0 ≤ p1.toInt ∧ p1.toInt ≤ 3 := by omega
        have hnt13 : 0 ≤ p2.toInt ∧ p2.toInt ≤ 7 := by omega
        refine lv_imul hx hb dX8_rule_27 ?_
        refine lv_topi (fun t14 et14 => ?_)
        try have ht14 : t14.toInt = p1.toInt * 8 := z_mul et14 rfl (by decide) (by omega -splitDisjunctions) (by omega -splitDisjunctions)
        refine lv_iload_n hx hb dX8_rule_28 rfl (lv_at hl 2 rfl) ?_
        refine lv_iadd hx hb dX8_rule_29 ?_
        refine lv_topi (fun t15 et15 => ?_)
        try have ht15 : t15.toInt = t14.toInt + p2.toInt := z_add et15 rfl rfl (by omega -splitDisjunctions) (by omega -splitDisjunctions)
        have hi16 : vp_in t15 32 := z_in (i := t15.toInt) rfl (by omega) (by omega)
        refine va_iald hx hb hK hP 1 0 rfl rfl hi16 dX8_rule_30 ?_
        refine lv_topi (fun t17 et17 => ?_)
        rw [← hQ9]
        have hq18 : ((0 ≤ p1.toInt ∧ p1.toInt ≤ 3 ∧ 0 ≤ p2.toInt ∧ p2.toInt ≤ 7) ∧ t17 = (fa1 0) (8 * p1.toNatClampNeg + p2.toNatClampNeg)) ∨ (¬ (0 ≤ p1.toInt ∧ p1.toInt ≤ 3 ∧ 0 ≤ p2.toInt ∧ p2.toInt ≤ 7) ∧ (t17).toInt = -9) := Or.inl ⟨by omega, by rw [et17, show t15.toNatClampNeg = 8 * p1.toNatClampNeg + p2.toNatClampNeg from by (rw [z_cl, z_cl, z_cl]; omega)]⟩
        exact W.iret (v := t17) hx hb hr (fun t ht hW => ⟨⟨t17, (), rfl, hq18, ⟨by rw [ht]; exact hP, hD⟩⟩, hS.F ht⟩) hS.2.2 dX8_rule_31
      ·
        have c11 := z_nlt (i := p2.toInt) (j := 8) rfl (by decide) c11
        refine lv_bipush (v := (-9)) hx hb dX8_rule_17 (by decide) ?_
        rw [← hQ9]
        refine lv_topi (fun t19 et19 => ?_)
        have ht19 : t19.toInt = (-9) := by rw [et19]; decide
        have hq20 : ((0 ≤ p1.toInt ∧ p1.toInt ≤ 3 ∧ 0 ≤ p2.toInt ∧ p2.toInt ≤ 7) ∧ t19 = (fa1 0) (8 * p1.toNatClampNeg + p2.toNatClampNeg)) ∨ (¬ (0 ≤ p1.toInt ∧ p1.toInt ≤ 3 ∧ 0 ≤ p2.toInt ∧ p2.toInt ≤ 7) ∧ (t19).toInt = -9) := Or.inr ⟨by omega, by omega⟩
        exact W.iret (v := t19) hx hb hr (fun t ht hW => ⟨⟨t19, (), rfl, hq20, ⟨by rw [ht]; exact hP, hD⟩⟩, hS.F ht⟩) hS.2.2 dX8_rule_19

set_option maxHeartbeats 8000000 in
set_option maxRecDepth 100000 in
theorem c_X8_count_R (l : Launch) (D : va_G) (ca : Nat → ClassId) (sa : Nat → Nat) (A : Nat → Prop) (rest : va_W) (r0 : Nat → Nat) (r1 : Nat → Nat) (r2 : Nat → Nat) (y1 : Nat) (y2 : Nat) (y4 : Nat) (y5 : Nat) (y6 : Nat) (y7 : Nat) (fi0 : Nat → Int32) (fl0 : Nat → Int64) (fa0 : Nat → Nat → Int32) (fb0 : Nat → Nat → Int64) (hv0 : Ok_BP fi0 fa0) (fi1 : Nat → Int32) (fl1 : Nat → Int64) (fa1 : Nat → Nat → Int32) (fb1 : Nat → Nat → Int64) (hv1 : Ok_CHG fi1 fa1) (fi2 : Nat → Int32) (fl2 : Nat → Int64) (fa2 : Nat → Nat → Int32) (fb2 : Nat → Nat → Int64) (hv2 : Ok_TAPE fi2 fa2) (p1 : Int32) : Met l yX8_count wsX8_count ({ frames := 0, cells := 0, slots := 0, locals := 0 }) (va_Pc [.ref (r0 0), .int p1] (zPre D ca sa A (w_BP ca r0 (r2 0) y1 y2 (r1 0) y4 y5 y6 y7 fi0 fl0 fa0 fb0 (w_CHG ca r1 fi1 fl1 fa1 fb1 (w_TAPE ca r2 fi2 fl2 fa2 fb2 (rest)))))) (va_Qi (fun (r : Int32) (u : Unit) => ((p1.toInt = 0 ∧ r.toInt = (fi1 0).toInt) ∨ (p1.toInt = 1 ∧ r.toInt = (fi2 0).toInt) ∨ (p1.toInt = 2 ∧ r.toInt = (fi0 0).toInt) ∨ (p1.toInt ≠ 0 ∧ p1.toInt ≠ 1 ∧ p1.toInt ≠ 2 ∧ r.toInt = -1))) (fun u t => zPost D A (w_BP ca r0 (r2 0) y1 y2 (r1 0) y4 y5 y6 y7 fi0 fl0 fa0 fb0 (w_CHG ca r1 fi1 fl1 fa1 fb1 (w_TAPE ca r2 fi2 fl2 fa2 fb2 (rest)))) t) A) 0 0 A := by
  refine Met.ofW (cc := cX8_count) (maxL := 2) (ret := (some .int)) (by decide) rfl ?_
  intro p e s m args below meth c s₁ B hml hv9
  obtain ⟨rfl, hE, hP, hD⟩ := hv9
  have hx := B.exec
  have hb := B.bytes
  have hr := B.returns
  have hts := atoms_spec (ws := wsX8_count) B.pre
  have hown : s.vm.findClass RX8 = some m.cls := findClass_of_methodNamed B.named
  have hlocks := B.notSynchronized
  have hK := hE.1
  have hF : CallFix p m c cX8_count 2 s _ wsX8_count RX8 := ⟨hx, hb, hml, hown, hts⟩
  have hS : va_S A s.heap s.heap [] := va_S.rf
  have lk39 := hts (.fieldLink RX8 39 "BranchPlay" "changes" "LBranchPlay$Changes;") (by decide +kernel)
  have inX8 : ∀ w ∈ wsX80, w ∈ wsX8_count := by decide +kernel
  have lk191 := hts (.fieldLink RX8 191 "BranchPlay$Changes" "count" "I") (by decide +kernel)
  have inX1 : ∀ w ∈ wsX10, w ∈ wsX8_count := by decide +kernel
  have lk10 := hts (.fieldLink RX8 10 "BranchPlay" "tape" "LBranchPlay$Tape;") (by decide +kernel)
  have lk69 := hts (.fieldLink RX8 69 "BranchPlay$Tape" "length" "I") (by decide +kernel)
  have inX7 : ∀ w ∈ wsX70, w ∈ wsX8_count := by decide +kernel
  have lk65 := hts (.fieldLink RX8 65 "BranchPlay" "playedWay" "I") (by decide +kernel)
  obtain ⟨⟨hv1i0, hv1j0⟩, hv1a6⟩ := hv1
  obtain ⟨hv2i0, hv2j0⟩ := hv2
  generalize hHe : s.heap = H at hP
  have hS : va_S A s.heap H [] := by rw [← hHe]; exact hS
  have hP : va_P D vwCl (((r0 0), .inr (8, [.ref (r2 0), .ref y1, .ref y2, .ref (r1 0), .ref y4, .ref y5, .ref y6, .ref y7, .int (fi0 0)])) :: ((r1 0), .inr (1, [.int (fi1 0), .ref (r1 1), .ref (r1 2), .ref (r1 3), .ref (r1 4), .ref (r1 5), .ref (r1 6), .ref (r1 7), .ref (r1 8), .ref (r1 9), .long (fl1 0), .ref (r1 10)])) :: ((r1 1), .inl (ca 0, 60, .inl (fa1 0))) :: ((r1 2), .inl (ca 0, 60, .inl (fa1 1))) :: ((r1 3), .inl (ca 0, 60, .inl (fa1 2))) :: ((r1 4), .inl (ca 0, 60, .inl (fa1 3))) :: ((r1 5), .inl (ca 0, 60, .inl (fa1 4))) :: ((r1 6), .inl (ca 0, 60, .inl (fa1 5))) :: ((r1 7), .inl (ca 0, 60, .inl (fa1 6))) :: ((r1 8), .inl (ca 0, 180, .inl (fa1 7))) :: ((r1 9), .inl (ca 1, 60, .inr (.inl (fb1 0)))) :: ((r1 10), .inr (0, [.ref (r1 11)])) :: ((r1 11), .inl (ca 1, 400, .inr (.inl (fb1 1)))) :: ((r2 0), .inr (7, [.ref (r2 1), .int (fi2 0)])) :: ((r2 1), .inl (ca 2, 600, .inl (fa2 0))) :: rest) H := hP
  have hD : va_D A (((r0 0), .inr (8, [.ref (r2 0), .ref y1, .ref y2, .ref (r1 0), .ref y4, .ref y5, .ref y6, .ref y7, .int (fi0 0)])) :: ((r1 0), .inr (1, [.int (fi1 0), .ref (r1 1), .ref (r1 2), .ref (r1 3), .ref (r1 4), .ref (r1 5), .ref (r1 6), .ref (r1 7), .ref (r1 8), .ref (r1 9), .long (fl1 0), .ref (r1 10)])) :: ((r1 1), .inl (ca 0, 60, .inl (fa1 0))) :: ((r1 2), .inl (ca 0, 60, .inl (fa1 1))) :: ((r1 3), .inl (ca 0, 60, .inl (fa1 2))) :: ((r1 4), .inl (ca 0, 60, .inl (fa1 3))) :: ((r1 5), .inl (ca 0, 60, .inl (fa1 4))) :: ((r1 6), .inl (ca 0, 60, .inl (fa1 5))) :: ((r1 7), .inl (ca 0, 60, .inl (fa1 6))) :: ((r1 8), .inl (ca 0, 180, .inl (fa1 7))) :: ((r1 9), .inl (ca 1, 60, .inr (.inl (fb1 0)))) :: ((r1 10), .inr (0, [.ref (r1 11)])) :: ((r1 11), .inl (ca 1, 400, .inr (.inl (fb1 1)))) :: ((r2 0), .inr (7, [.ref (r2 1), .int (fi2 0)])) :: ((r2 1), .inl (ca 2, 600, .inl (fa2 0))) :: rest) := hD
  have hl := lv_entry ([.ref (r0 0), .int p1]) (n := 2) (Nat.le_of_ble_eq_true rfl)
  rw [lg_entry_eq]
  generalize (lg_sl ([.ref (r0 0), .int p1]) ++ List.replicate (2 - (lg_sl ([.ref (r0 0), .int p1])).length) Slot.unset).toArray = ls at hl ⊢
  have hl : lv_has ls 2 [(0, .ref (r0 0)), (1, .int p1)] := hl
  generalize hQ9 : MQ below _ _ s 0 0 A = Q9
  refine lv_iload_n hx hb dX8_count_0 rfl (lv_at hl 1 rfl) ?_
  by_cases c1 : p1.toInt = 0
  ·
    refine lv_tableIn (tgt := 28) hx hb dX8_count_1 (by omega) (by omega) (by rw [c1]; rfl) (by decide) ?_
    refine lv_aload_n hx hb dX8_count_28 rfl (lv_at hl 0 rfl) ?_
    refine va_get (D := D) (ci := 8) (v := .ref (r1 0)) (C := RX8) (T := TX8) (N := 9) hx hb hts inX8 hown hK hP 0 rfl rfl 3 (by decide) lk39 (fun _ h9 => h9) rfl dX8_count_29 ?_
    refine va_get (D := D) (ci := 1) (v := .int (fi1 0)) (C := RX1) (T := TX1) (N := 12) hx hb hts inX1 hown hK hP 1 rfl rfl 0 (by decide) lk191 (fun _ h9 => h9) rfl dX8_count_32 ?_
    rw [← hQ9]
    have hq2 : (p1.toInt = 0 ∧ (fi1 0).toInt = (fi1 0).toInt) ∨ (p1.toInt = 1 ∧ (fi1 0).toInt = (fi2 0).toInt) ∨ (p1.toInt = 2 ∧ (fi1 0).toInt = (fi0 0).toInt) ∨ (p1.toInt ≠ 0 ∧ p1.toInt ≠ 1 ∧ p1.toInt ≠ 2 ∧ (fi1 0).toInt = -1) := by omega
    exact W.iret (v := (fi1 0)) hx hb hr (fun t ht hW => ⟨⟨(fi1 0), (), rfl, hq2, ⟨by rw [ht]; exact hP, hD⟩⟩, hS.F ht⟩) hS.2.2 dX8_count_35
  by_cases c3 : p1.toInt = 1
  ·
    refine lv_tableIn (tgt := 36) hx hb dX8_count_1 (by omega) (by omega) (by rw [c3]; rfl) (by decide) ?_
    refine lv_aload_n hx hb dX8_count_36 rfl (lv_at hl 0 rfl) ?_
    refine va_get (D := D) (ci := 8) (v := .ref (r2 0)) (C := RX8) (T := TX8) (N := 9) hx hb hts inX8 hown hK hP 0 rfl rfl 0 (by decide) lk10 (fun _ h9 => h9) rfl dX8_count_37 ?_
    refine va_get (D := D) (ci := 7) (v := .int (fi2 0)) (C := RX7) (T := TX7) (N := 2) hx hb hts inX7 hown hK hP 13 rfl rfl 1 (by decide) lk69 (fun _ h9 => h9) rfl dX8_count_40 ?_
    rw [← hQ9]
    have hq4 : (p1.toInt = 0 ∧ (fi2 0).toInt = (fi1 0).toInt) ∨ (p1.toInt = 1 ∧ (fi2 0).toInt = (fi2 0).toInt) ∨ (p1.toInt = 2 ∧ (fi2 0).toInt = (fi0 0).toInt) ∨ (p1.toInt ≠ 0 ∧ p1.toInt ≠ 1 ∧ p1.toInt ≠ 2 ∧ (fi2 0).toInt = -1) := by omega
    exact W.iret (v := (fi2 0)) hx hb hr (fun t ht hW => ⟨⟨(fi2 0), (), rfl, hq4, ⟨by rw [ht]; exact hP, hD⟩⟩, hS.F ht⟩) hS.2.2 dX8_count_43
  by_cases c5 : p1.toInt = 2
  ·
    refine lv_tableIn (tgt := 44) hx hb dX8_count_1 (by omega) (by omega) (by rw [c5]; rfl) (by decide) ?_
    refine lv_aload_n hx hb dX8_count_44 rfl (lv_at hl 0 rfl) ?_
    refine va_get (D := D) (ci := 8) (v := .int (fi0 0)) (C := RX8) (T := TX8) (N := 9) hx hb hts inX8 hown hK hP 0 rfl rfl 8 (by decide) lk65 (fun _ h9 => h9) rfl dX8_count_45 ?_
    rw [← hQ9]
    have hq6 : (p1.toInt = 0 ∧ (fi0 0).toInt = (fi1 0).toInt) ∨ (p1.toInt = 1 ∧ (fi0 0).toInt = (fi2 0).toInt) ∨ (p1.toInt = 2 ∧ (fi0 0).toInt = (fi0 0).toInt) ∨ (p1.toInt ≠ 0 ∧ p1.toInt ≠ 1 ∧ p1.toInt ≠ 2 ∧ (fi0 0).toInt = -1) := by omega
    exact W.iret (v := (fi0 0)) hx hb hr (fun t ht hW => ⟨⟨(fi0 0), (), rfl, hq6, ⟨by rw [ht]; exact hP, hD⟩⟩, hS.F ht⟩) hS.2.2 dX8_count_48
  refine lv_tableOut (tgt := 49) hx hb dX8_count_1 (by omega) (by decide) ?_
  refine lv_iconst (v := (-1)) hx hb dX8_count_49 (by decide) ?_
  rw [← hQ9]
  refine lv_topi (fun t7 et7 => ?_)
  have ht7 : t7.toInt = (-1) := by rw [et7]; decide
  have hq8 : (p1.toInt = 0 ∧ t7.toInt = (fi1 0).toInt) ∨ (p1.toInt = 1 ∧ t7.toInt = (fi2 0).toInt) ∨ (p1.toInt = 2 ∧ t7.toInt = (fi0 0).toInt) ∨ (p1.toInt ≠ 0 ∧ p1.toInt ≠ 1 ∧ p1.toInt ≠ 2 ∧ t7.toInt = -1) := by omega
  exact W.iret (v := t7) hx hb hr (fun t ht hW => ⟨⟨t7, (), rfl, hq8, ⟨by rw [ht]; exact hP, hD⟩⟩, hS.F ht⟩) hS.2.2 dX8_count_50
