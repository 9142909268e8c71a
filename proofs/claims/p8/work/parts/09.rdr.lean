set_option maxHeartbeats 8000000 in
set_option maxRecDepth 100000 in
theorem c_X7_wordAt (l : Launch) (D : va_G) (ca : Nat → ClassId) (sa : Nat → Nat) (A : Nat → Prop) (rest : va_W) (r0 : Nat → Nat) (fi0 : Nat → Int32) (fl0 : Nat → Int64) (fa0 : Nat → Nat → Int32) (fb0 : Nat → Nat → Int64) (hv0 : Ok_TAPE fi0 fa0) (p1 : Int32) (p2 : Int32) (hpre0 : 0 ≤ p1.toInt ∧ p1.toInt ≤ 599) (hpre1 : p2.toInt ≤ 600) : Met l yX7_wordAt wsX7_wordAt ({ frames := 4, cells := 0, slots := 0, locals := 85 }) (va_Pc [.ref (r0 0), .int p1, .int p2] (zPre D ca sa A (w_TAPE ca r0 fi0 fl0 fa0 fb0 (rest)))) (va_Qi (fun (r : Int32) (u : Unit) => True) (fun u t => zPost D A (w_TAPE ca r0 fi0 fl0 fa0 fb0 (rest)) t) A) 0 0 A := by
  refine Met.ofW (cc := cX7_wordAt) (maxL := 8) (ret := (some .int)) (by decide) rfl ?_
  intro p e s m args below meth c s₁ B hml hv9
  obtain ⟨rfl, hE, hP, hD⟩ := hv9
  have hx := B.exec
  have hb := B.bytes
  have hr := B.returns
  have hts := atoms_spec (ws := wsX7_wordAt) B.pre
  have hown : s.vm.findClass RX7 = some m.cls := findClass_of_methodNamed B.named
  have hlocks := B.notSynchronized
  have hK := hE.1
  have hF : CallFix p m c cX7_wordAt 8 s _ wsX7_wordAt RX7 := ⟨hx, hb, hml, hown, hts⟩
  have hS : va_S A s.heap s.heap [] := va_S.rf
  have lk11 := hts (.fieldLink RX7 11 "BranchPlay$Tape" "bytes" "[B") (by decide +kernel)
  have inX7 : ∀ w ∈ wsX70, w ∈ wsX7_wordAt := by decide +kernel
  obtain ⟨hv0i0, hv0j0⟩ := hv0
  generalize hHe : s.heap = H at hP
  have hS : va_S A s.heap H [] := by rw [← hHe]; exact hS
  have hP : va_P D vwCl (((r0 0), .inr (7, [.ref (r0 1), .int (fi0 0)])) :: ((r0 1), .inl (ca 2, 600, .inl (fa0 0))) :: rest) H := hP
  have hD : va_D A (((r0 0), .inr (7, [.ref (r0 1), .int (fi0 0)])) :: ((r0 1), .inl (ca 2, 600, .inl (fa0 0))) :: rest) := hD
  have hl := lv_entry ([.ref (r0 0), .int p1, .int p2]) (n := 8) (Nat.le_of_ble_eq_true rfl)
  rw [lg_entry_eq]
  generalize (lg_sl ([.ref (r0 0), .int p1, .int p2]) ++ List.replicate (8 - (lg_sl ([.ref (r0 0), .int p1, .int p2])).length) Slot.unset).toArray = ls at hl ⊢
  have hl : lv_has ls 8 [(0, .ref (r0 0)), (1, .int p1), (2, .int p2)] := hl
  generalize hQ9 : MQ below _ _ s 0 0 A = Q9
  refine lv_iconst (v := 0) hx hb dX7_wordAt_0 (by decide) ?_
  refine lv_topi (fun t1 et1 => ?_)
  have ht1 : t1.toInt = 0 := by rw [et1]; decide
  refine lv_istore_n (lv' := [(3, .int t1), (0, .ref (r0 0)), (1, .int p1), (2, .int p2)]) hx hb dX7_wordAt_1 rfl hl (by decide) rfl (fun ls hl => ?_)
  refine lv_iload_n hx hb dX7_wordAt_2 rfl (lv_at hl 2 rfl) ?_
  refine lv_istore (lv' := [(4, .int p1), (3, .int t1), (0, .ref (r0 0)), (1, .int p1), (2, .int p2)]) hx hb dX7_wordAt_3 hl (by decide) rfl (fun ls hl => ?_)
  refine lv_iconst (v := 1) hx hb dX7_wordAt_5 (by decide) ?_
  refine lv_topi (fun t2 et2 => ?_)
  have ht2 : t2.toInt = 1 := by rw [et2]; decide
  refine lv_istore (lv' := [(5, .int t2), (4, .int p1), (3, .int t1), (0, .ref (r0 0)), (1, .int p1), (2, .int p2)]) hx hb dX7_wordAt_6 hl (by decide) rfl (fun ls hl => ?_)
  refine lv_iconst (v := 0) hx hb dX7_wordAt_8 (by decide) ?_
  refine lv_topi (fun t3 et3 => ?_)
  have ht3 : t3.toInt = 0 := by rw [et3]; decide
  refine lv_istore (lv' := [(6, .int t3), (5, .int t2), (4, .int p1), (3, .int t1), (0, .ref (r0 0)), (1, .int p1), (2, .int p2)]) hx hb dX7_wordAt_9 hl (by decide) rfl (fun ls hl => ?_)
  have J11_4 : ∀ (n4 : Nat) (x3_4 : Int32) (x4_4 : Int32) (x5_4 : Int32) (x6_4 : Int32) (H : Heap) (locs : List Loc) (hP : va_P D vwCl (((r0 0), .inr (7, [.ref (r0 1), .int (fi0 0)])) :: ((r0 1), .inl (ca 2, 600, .inl (fa0 0))) :: rest) H) (hD : va_D A (((r0 0), .inr (7, [.ref (r0 1), .int (fi0 0)])) :: ((r0 1), .inl (ca 2, 600, .inl (fa0 0))) :: rest)) (hS : va_S A s.heap H locs) (ls : Array Slot) (hl : lv_has ls 8 [(0, .ref (r0 0)), (1, .int p1), (2, .int p2), (3, .int x3_4), (4, .int x4_4), (5, .int x5_4), (6, .int x6_4)]) (hf4_0 : 0 ≤ x6_4.toInt ∧ x6_4.toInt ≤ 61 ∧ 0 ≤ x4_4.toInt ∧ x4_4.toInt ≤ 600 + x6_4.toInt), (62 - x6_4.toInt).toNat < n4 → W p l e (headSpec wsX7_wordAt ({ frames := 4, cells := 0, slots := 0, locals := 85 })).room s m ([.ref (r0 0), .int p1, .int p2] : List Value).toArray below meth c H locs 0 0 Q9 (F0 m 11 ls []) := by
    intro n4
    induction n4 with
    | zero => intro x3_4 x4_4 x5_4 x6_4 H locs hP hD hS ls hl hf4_0 hn9; exact absurd hn9 (Nat.not_lt_zero _)
    | succ n4 ih4 =>
      intro x3_4 x4_4 x5_4 x6_4 H locs hP hD hS ls hl hf4_0 hn9
      refine lv_iload hx hb dX7_wordAt_11 (lv_at hl 6 rfl) ?_
      refine va_ldcS hx hb hown hE.2.2.1.2.2.2.2.1.1.1 dX7_wordAt_13 ?_
      refine z_iR (As := []) (rest := [.int x6_4]) hF (c_J0_length_8abf5 l D ca sa A _) (cwV 0 hts gX7_wordAt_J0_length_8abf5 rfl rfl rfl (by decide +kernel) ⟨Nat.le_of_ble_eq_true rfl, Nat.le_of_ble_eq_true rfl⟩) hE hP hD hS (vk_recv (i := 0) hE.2.2.1.2.2.2.2.1.2 (by decide) hS) rfl hl.1 rfl (Nat.le_of_ble_eq_true rfl) dX7_wordAt_15 ⟨Nat.zero_le _, Nat.zero_le _⟩ (fun t6 u5 H locs hw7 hP hD hS => ?_)
      have hw7 : (t6.toInt = 61) := hw7
      obtain hq8 := hw7
      refine lv_icmp_ge (tgt := 101) hx hb dX7_wordAt_18 (by decide) (fun c9 => ?_) (fun c9 => ?_)
      ·
        have c9 := z_le (i := t6.toInt) (j := x6_4.toInt) rfl rfl c9
        refine lv_iconst (v := (-1)) hx hb dX7_wordAt_101 (by decide) ?_
        subst hQ9
        refine lv_topi (fun t10 et10 => ?_)
        have ht10 : t10.toInt = (-1) := by rw [et10]; decide
        exact W.iret (v := t10) hx hb hr (fun t ht hW => ⟨⟨t10, (), rfl, trivial, ⟨by rw [ht]; exact hP, hD⟩⟩, hS.F ht⟩) hS.2.2 dX7_wordAt_102
      ·
        have c9 := z_nle (i := t6.toInt) (j := x6_4.toInt) rfl rfl c9
        refine va_ldcS hx hb hown hE.2.2.1.2.2.2.2.1.1.1 dX7_wordAt_21 ?_
        refine lv_iload hx hb dX7_wordAt_23 (lv_at hl 6 rfl) ?_
        have hp11 : 0 ≤ x6_4.toInt ∧ x6_4.toInt ≤ 60 := by omega
        refine z_iR (As := [.int x6_4]) (rest := []) hF (c_J0_charAt_5068e l D ca sa A _ x6_4 hp11) (cwV 1 hts gX7_wordAt_J0_charAt_5068e rfl rfl rfl (by decide +kernel) ⟨Nat.le_of_ble_eq_true rfl, Nat.le_of_ble_eq_true rfl⟩) hE hP hD hS (vk_recv (i := 0) hE.2.2.1.2.2.2.2.1.2 (by decide) hS) rfl hl.1 rfl (Nat.le_of_ble_eq_true rfl) dX7_wordAt_25 ⟨Nat.zero_le _, Nat.zero_le _⟩ (fun t13 u12 H locs hw14 hP hD hS => ?_)
        have hw14 : (t13 = zWb.getD x6_4.toNatClampNeg 0 ∧ narrow .char (.int t13) = .int t13) := hw14
        obtain hq15 := hw14
        refine lv_istore (lv' := [(7, .int t13), (0, .ref (r0 0)), (1, .int p1), (2, .int p2), (3, .int x3_4), (4, .int x4_4), (5, .int x5_4), (6, .int x6_4)]) hx hb dX7_wordAt_28 hl (by decide) rfl (fun ls hl => ?_)
        refine lv_iload hx hb dX7_wordAt_30 (lv_at hl 0 rfl) ?_
        refine lv_bipush (v := 32) hx hb dX7_wordAt_32 (by decide) ?_
        have J95_16 : ∀ (x3_16 : Int32) (x4_16 : Int32) (x5_16 : Int32) (ls : Array Slot) (hl : lv_has ls 8 [(0, .ref (r0 0)), (1, .int p1), (2, .int p2), (3, .int x3_16), (4, .int x4_16), (5, .int x5_16), (6, .int x6_4)]) (hf16_0 : 0 ≤ x4_16.toInt ∧ x4_16.toInt ≤ 601 + x6_4.toInt), W p l e (headSpec wsX7_wordAt ({ frames := 4, cells := 0, slots := 0, locals := 85 })).room s m ([.ref (r0 0), .int p1, .int p2] : List Value).toArray below meth c H locs 0 0 Q9 (F0 m 95 ls []) := by
          intro x3_16 x4_16 x5_16 ls hl hf16_0
          obtain ⟨t17, et17⟩ : ∃ y : Int32, y = x6_4 + 1 := ⟨_, rfl⟩
          try have ht17 : t17.toInt = x6_4.toInt + 1 := z_add et17 rfl (by decide) (by omega) (by omega)
          refine lv_iinc (v := t17) (lv' := [(6, .int t17), (0, .ref (r0 0)), (1, .int p1), (2, .int p2), (3, .int x3_16), (4, .int x4_16), (5, .int x5_16)]) hx hb dX7_wordAt_95 hl (k := 6) rfl (by rw [et17]; rfl) (by decide) rfl (fun ls hl => ?_)
          refine lv_goto (tgt := 11) hx hb dX7_wordAt_98 (by decide) ?_
          have hj18 : 0 ≤ t17.toInt ∧ t17.toInt ≤ 61 ∧ 0 ≤ x4_16.toInt ∧ x4_16.toInt ≤ 600 + t17.toInt := by omega
          have hm19 : (62 - t17.toInt).toNat < n4 := by omega
          exact ih4 x3_16 x4_16 x5_16 t17 _ _ hP hD hS ls (lv_sub hl [1, 2, 3, 4, 5, 6, 0] rfl) hj18 hm19
        refine lv_icmp_eq (tgt := 73) hx hb dX7_wordAt_34 (by decide) (fun c20 => ?_) (fun c20 => ?_)
        ·
          have c20 := z_eq (i := t13.toInt) (j := 32) rfl (by decide) c20
          refine lv_iload hx hb dX7_wordAt_73 (lv_at hl 6 rfl) ?_
          have J86_21 : ∀ (ls : Array Slot) (hl : lv_has ls 8 [(0, .ref (r0 0)), (1, .int p1), (2, .int p2), (3, .int x3_4), (6, .int x6_4)]), W p l e (headSpec wsX7_wordAt ({ frames := 4, cells := 0, slots := 0, locals := 85 })).room s m ([.ref (r0 0), .int p1, .int p2] : List Value).toArray below meth c H locs 0 0 Q9 (F0 m 86 ls []) := by
            intro ls hl
            obtain ⟨t22, et22⟩ : ∃ y : Int32, y = x3_4 + 1 := ⟨_, rfl⟩
            try have ht22 : t22.toInt = x3_4.toInt + 1 := z_add et22 rfl (by decide) (by omega) (by omega)
            refine lv_iinc (v := t22) (lv' := [(3, .int t22), (0, .ref (r0 0)), (1, .int p1), (2, .int p2), (6, .int x6_4)]) hx hb dX7_wordAt_86 hl (k := 3) rfl (by rw [et22]; rfl) (by decide) rfl (fun ls hl => ?_)
            refine lv_iload_n hx hb dX7_wordAt_89 rfl (lv_at hl 2 rfl) ?_
            refine lv_istore (lv' := [(4, .int p1), (3, .int t22), (0, .ref (r0 0)), (1, .int p1), (2, .int p2), (6, .int x6_4)]) hx hb dX7_wordAt_90 hl (by decide) rfl (fun ls hl => ?_)
            refine lv_iconst (v := 1) hx hb dX7_wordAt_92 (by decide) ?_
            refine lv_topi (fun t23 et23 => ?_)
            have ht23 : t23.toInt = 1 := by rw [et23]; decide
            refine lv_istore (lv' := [(5, .int t23), (4, .int p1), (3, .int t22), (0, .ref (r0 0)), (1, .int p1), (2, .int p2), (6, .int x6_4)]) hx hb dX7_wordAt_93 hl (by decide) rfl (fun ls hl => ?_)
            have hj24 : 0 ≤ p1.toInt ∧ p1.toInt ≤ 601 + x6_4.toInt := by omega
            exact J95_16 t22 p1 t23 ls (lv_sub hl [3, 4, 5, 2, 1, 0, 6] rfl) hj24
          refine lv_if_eq (tgt := 86) hx hb dX7_wordAt_75 (by decide) (fun c25 => ?_) (fun c25 => ?_)
          ·
            have c25 := z_eq (i := x5_4.toInt) (j := 0) rfl (by decide) c25
            exact J86_21 ls (lv_sub hl [1, 2, 3, 4, 7] rfl)
          ·
            have c25 := z_ne (i := x5_4.toInt) (j := 0) rfl (by decide) c25
            refine lv_iload hx hb dX7_wordAt_78 (lv_at hl 5 rfl) ?_
            refine lv_iload_n hx hb dX7_wordAt_80 rfl (lv_at hl 3 rfl) ?_
            refine lv_icmp_ne (tgt := 86) hx hb dX7_wordAt_81 (by decide) (fun c26 => ?_) (fun c26 => ?_)
            ·
              have c26 := z_ne (i := x4_4.toInt) (j := p2.toInt) rfl rfl c26
              exact J86_21 ls (lv_sub hl [1, 2, 3, 4, 7] rfl)
            ·
              have c26 := z_eq (i := x4_4.toInt) (j := p2.toInt) rfl rfl c26
              refine lv_iload_n hx hb dX7_wordAt_84 rfl (lv_at hl 4 rfl) ?_
              subst hQ9
              exact W.iret (v := x3_4) hx hb hr (fun t ht hW => ⟨⟨x3_4, (), rfl, trivial, ⟨by rw [ht]; exact hP, hD⟩⟩, hS.F ht⟩) hS.2.2 dX7_wordAt_85
        ·
          have c20 := z_ne (i := t13.toInt) (j := 32) rfl (by decide) c20
          refine lv_iload hx hb dX7_wordAt_37 (lv_at hl 6 rfl) ?_
          have J65_27 : ∀ (k0_27 : Int32) (ls : Array Slot) (hl : lv_has ls 8 [(0, .ref (r0 0)), (1, .int p1), (2, .int p2), (3, .int x3_4), (4, .int x4_4), (6, .int x6_4)]) (hf27_0 : 0 ≤ k0_27.toInt ∧ k0_27.toInt ≤ 1), W p l e (headSpec wsX7_wordAt ({ frames := 4, cells := 0, slots := 0, locals := 85 })).room s m ([.ref (r0 0), .int p1, .int p2] : List Value).toArray below meth c H locs 0 0 Q9 (F0 m 65 ls [.int k0_27]) := by
            intro k0_27 ls hl hf27_0
            refine lv_istore (lv' := [(5, .int k0_27), (0, .ref (r0 0)), (1, .int p1), (2, .int p2), (3, .int x3_4), (4, .int x4_4), (6, .int x6_4)]) hx hb dX7_wordAt_65 hl (by decide) rfl (fun ls hl => ?_)
            obtain ⟨t28, et28⟩ : ∃ y : Int32, y = x4_4 + 1 := ⟨_, rfl⟩
            try have ht28 : t28.toInt = x4_4.toInt + 1 := z_add et28 rfl (by decide) (by omega) (by omega)
            refine lv_iinc (v := t28) (lv' := [(4, .int t28), (5, .int k0_27), (0, .ref (r0 0)), (1, .int p1), (2, .int p2), (3, .int x3_4), (6, .int x6_4)]) hx hb dX7_wordAt_67 hl (k := 5) rfl (by rw [et28]; rfl) (by decide) rfl (fun ls hl => ?_)
            refine lv_goto (tgt := 95) hx hb dX7_wordAt_70 (by decide) ?_
            have hj29 : 0 ≤ t28.toInt ∧ t28.toInt ≤ 601 + x6_4.toInt := by omega
            exact J95_16 x3_4 t28 k0_27 ls (lv_sub hl [2, 3, 4, 5, 0, 1, 6] rfl) hj29
          have J64_30 : ∀ (ls : Array Slot) (hl : lv_has ls 8 [(0, .ref (r0 0)), (1, .int p1), (2, .int p2), (3, .int x3_4), (4, .int x4_4), (6, .int x6_4)]), W p l e (headSpec wsX7_wordAt ({ frames := 4, cells := 0, slots := 0, locals := 85 })).room s m ([.ref (r0 0), .int p1, .int p2] : List Value).toArray below meth c H locs 0 0 Q9 (F0 m 64 ls []) := by
            intro ls hl
            refine lv_iconst (v := 0) hx hb dX7_wordAt_64 (by decide) ?_
            refine lv_topi (fun t31 et31 => ?_)
            have ht31 : t31.toInt = 0 := by rw [et31]; decide
            have hj32 : 0 ≤ t31.toInt ∧ t31.toInt ≤ 1 := by omega
            exact J65_27 t31 ls (lv_sub hl [0, 1, 2, 3, 4, 5] rfl) hj32
          refine lv_if_eq (tgt := 64) hx hb dX7_wordAt_39 (by decide) (fun c33 => ?_) (fun c33 => ?_)
          ·
            have c33 := z_eq (i := x5_4.toInt) (j := 0) rfl (by decide) c33
            exact J64_30 ls (lv_sub hl [1, 2, 3, 4, 5, 7] rfl)
          ·
            have c33 := z_ne (i := x5_4.toInt) (j := 0) rfl (by decide) c33
            refine lv_iload hx hb dX7_wordAt_42 (lv_at hl 5 rfl) ?_
            refine lv_iload_n hx hb dX7_wordAt_44 rfl (lv_at hl 3 rfl) ?_
            refine lv_icmp_ge (tgt := 64) hx hb dX7_wordAt_45 (by decide) (fun c34 => ?_) (fun c34 => ?_)
            ·
              have c34 := z_le (i := p2.toInt) (j := x4_4.toInt) rfl rfl c34
              exact J64_30 ls (lv_sub hl [1, 2, 3, 4, 5, 7] rfl)
            ·
              have c34 := z_nle (i := p2.toInt) (j := x4_4.toInt) rfl rfl c34
              refine lv_aload_n hx hb dX7_wordAt_48 rfl (lv_at hl 1 rfl) ?_
              refine va_get (D := D) (ci := 7) (v := .ref (r0 1)) (C := RX7) (T := TX7) (N := 2) hx hb hts inX7 hown hK hP 0 rfl rfl 0 (by decide) lk11 (fun _ h9 => h9) rfl dX7_wordAt_49 ?_
              refine lv_iload hx hb dX7_wordAt_52 (lv_at hl 5 rfl) ?_
              have hi35 : vp_in x4_4 600 := z_in (i := x4_4.toInt) rfl (by omega) (by omega)
              refine va_bald hx hb hK hP 1 2 rfl rfl hi35 dX7_wordAt_54 ?_
              refine lv_topi (fun t36 et36 => ?_)
              refine lv_iload hx hb dX7_wordAt_55 (lv_at hl 0 rfl) ?_
              refine lv_icmp_ne (tgt := 64) hx hb dX7_wordAt_57 (by decide) (fun c37 => ?_) (fun c37 => ?_)
              ·
                have c37 := z_ne (i := t36.toInt) (j := t13.toInt) rfl rfl c37
                exact J64_30 ls (lv_sub hl [1, 2, 3, 4, 5, 7] rfl)
              ·
                have c37 := z_eq (i := t36.toInt) (j := t13.toInt) rfl rfl c37
                refine lv_iconst (v := 1) hx hb dX7_wordAt_60 (by decide) ?_
                refine lv_goto (tgt := 65) hx hb dX7_wordAt_61 (by decide) ?_
                refine lv_topi (fun t38 et38 => ?_)
                have ht38 : t38.toInt = 1 := by rw [et38]; decide
                have hj39 : 0 ≤ t38.toInt ∧ t38.toInt ≤ 1 := by omega
                exact J65_27 t38 ls (lv_sub hl [1, 2, 3, 4, 5, 7] rfl) hj39
  have hj40 : 0 ≤ t3.toInt ∧ t3.toInt ≤ 61 ∧ 0 ≤ p1.toInt ∧ p1.toInt ≤ 600 + t3.toInt := by omega
  exact J11_4 ((62 - t3.toInt).toNat + 1) t1 p1 t2 t3 _ _ hP hD hS ls (lv_sub hl [4, 5, 6, 3, 2, 1, 0] rfl) hj40 (Nat.lt_succ_self _)

set_option maxHeartbeats 8000000 in
set_option maxRecDepth 100000 in
theorem c_X6_blame (l : Launch) (D : va_G) (ca : Nat → ClassId) (sa : Nat → Nat) (A : Nat → Prop) (rest : va_W) (r0 : Nat → Nat) (fi0 : Nat → Int32) (fl0 : Nat → Int64) (fa0 : Nat → Nat → Int32) (fb0 : Nat → Nat → Int64) (hv0 : Ok_RDR fi0 fa0) (p1 : Int32) (p2 : Int32) : Met l yX6_blame wsX6_blame ({ frames := 0, cells := 0, slots := 0, locals := 0 }) (va_Pc [.ref (r0 0), .int p1, .int p2] (zPre D ca sa A (w_RDR ca r0 fi0 fl0 fa0 fb0 (rest)))) (va_Qv (fun (u : zS) => Ok_RDR u.1 u.2.2.1) (fun u t => zPost D A (w_RDR ca r0 u.1 u.2.1 u.2.2.1 u.2.2.2 (rest)) t) A) 0 0 A := by
  refine Met.ofW (cc := cX6_blame) (maxL := 3) (ret := none) (by decide) rfl ?_
  intro p e s m args below meth c s₁ B hml hv9
  obtain ⟨rfl, hE, hP, hD⟩ := hv9
  have hx := B.exec
  have hb := B.bytes
  have hr := B.returns
  have hts := atoms_spec (ws := wsX6_blame) B.pre
  have hown : s.vm.findClass RX6 = some m.cls := findClass_of_methodNamed B.named
  have hlocks := B.notSynchronized
  have hK := hE.1
  have hF : CallFix p m c cX6_blame 3 s _ wsX6_blame RX6 := ⟨hx, hb, hml, hown, hts⟩
  have hS : va_S A s.heap s.heap [] := va_S.rf
  have lk15 := hts (.fieldLink RX6 15 "BranchPlay$Reader" "faultKind" "I") (by decide +kernel)
  have inX6 : ∀ w ∈ wsX60, w ∈ wsX6_blame := by decide +kernel
  have lk19 := hts (.fieldLink RX6 19 "BranchPlay$Reader" "faultPlace" "I") (by decide +kernel)
  obtain ⟨⟨hv0i3, hv0j3⟩, hv0x0⟩ := hv0
  generalize hHe : s.heap = H at hP
  have hS : va_S A s.heap H [] := by rw [← hHe]; exact hS
  have hP : va_P D vwCl (((r0 0), .inr (6, [.ref (r0 1), .int (fi0 0), .int (fi0 1), .int (fi0 2), .int (fi0 3), .int (fi0 4), .int (fi0 5)])) :: ((r0 1), .inl (ca 0, 8, .inl (fa0 0))) :: rest) H := hP
  have hD : va_D A (((r0 0), .inr (6, [.ref (r0 1), .int (fi0 0), .int (fi0 1), .int (fi0 2), .int (fi0 3), .int (fi0 4), .int (fi0 5)])) :: ((r0 1), .inl (ca 0, 8, .inl (fa0 0))) :: rest) := hD
  have hl := lv_entry ([.ref (r0 0), .int p1, .int p2]) (n := 3) (Nat.le_of_ble_eq_true rfl)
  rw [lg_entry_eq]
  generalize (lg_sl ([.ref (r0 0), .int p1, .int p2]) ++ List.replicate (3 - (lg_sl ([.ref (r0 0), .int p1, .int p2])).length) Slot.unset).toArray = ls at hl ⊢
  have hl : lv_has ls 3 [(0, .ref (r0 0)), (1, .int p1), (2, .int p2)] := hl
  generalize hQ9 : MQ below _ _ s 0 0 A = Q9
  refine lv_aload_n hx hb dX6_blame_0 rfl (lv_at hl 0 rfl) ?_
  refine lv_iload_n hx hb dX6_blame_1 rfl (lv_at hl 1 rfl) ?_
  refine va_put (D := D) (ci := 6) (v := .int p1) (ty := .int) (C := RX6) (T := TX6) (N := 7) hx hb hts inX6 tyX6 tyX6_ok nmX6 hown hK hP hD hS 0 rfl rfl 1 (by decide) lk15 (fun _ h9 => h9) rfl (by decide +kernel) rfl rfl (Nat.le_of_ble_eq_true rfl) dX6_blame_2 (fun H locs hP hD hS => ?_)
  have hP : va_P D vwCl (((r0 0), .inr (6, [.ref (r0 1), .int p1, .int (fi0 1), .int (fi0 2), .int (fi0 3), .int (fi0 4), .int (fi0 5)])) :: ((r0 1), .inl (ca 0, 8, .inl (fa0 0))) :: rest) H := hP
  have hD : va_D A (((r0 0), .inr (6, [.ref (r0 1), .int p1, .int (fi0 1), .int (fi0 2), .int (fi0 3), .int (fi0 4), .int (fi0 5)])) :: ((r0 1), .inl (ca 0, 8, .inl (fa0 0))) :: rest) := hD
  refine lv_aload_n hx hb dX6_blame_5 rfl (lv_at hl 0 rfl) ?_
  refine lv_iload_n hx hb dX6_blame_6 rfl (lv_at hl 2 rfl) ?_
  refine va_put (D := D) (ci := 6) (v := .int p2) (ty := .int) (C := RX6) (T := TX6) (N := 7) hx hb hts inX6 tyX6 tyX6_ok nmX6 hown hK hP hD hS 0 rfl rfl 2 (by decide) lk19 (fun _ h9 => h9) rfl (by decide +kernel) rfl rfl (Nat.le_of_ble_eq_true rfl) dX6_blame_7 (fun H locs hP hD hS => ?_)
  have hP : va_P D vwCl (((r0 0), .inr (6, [.ref (r0 1), .int p1, .int p2, .int (fi0 2), .int (fi0 3), .int (fi0 4), .int (fi0 5)])) :: ((r0 1), .inl (ca 0, 8, .inl (fa0 0))) :: rest) H := hP
  have hD : va_D A (((r0 0), .inr (6, [.ref (r0 1), .int p1, .int p2, .int (fi0 2), .int (fi0 3), .int (fi0 4), .int (fi0 5)])) :: ((r0 1), .inl (ca 0, 8, .inl (fa0 0))) :: rest) := hD
  subst hQ9
  have ho1 : (0 ≤ (fi0 3).toInt ∧ (fi0 3).toInt ≤ 7) ∧ ((fi0 2).toInt = 1 → (fi0 3).toInt ≤ 6) := ⟨⟨by omega, by omega⟩, by omega⟩
  exact W.vret hx hb hr (fun t ht hW => ⟨⟨((zl 0 [p1, p2, (fi0 2), (fi0 3), (fi0 4), (fi0 5)]), (zl 0 []), (zl (fun _ => 0) [(fa0 0)]), (zl (fun _ => 0) [])), rfl, ho1, ⟨by rw [ht]; exact hP, hD⟩⟩, hS.F ht⟩) hS.2.2 dX6_blame_10

set_option maxHeartbeats 8000000 in
set_option maxRecDepth 100000 in
theorem c_X6_takeLineWord (l : Launch) (D : va_G) (ca : Nat → ClassId) (sa : Nat → Nat) (A : Nat → Prop) (rest : va_W) (r0 : Nat → Nat) (fi0 : Nat → Int32) (fl0 : Nat → Int64) (fa0 : Nat → Nat → Int32) (fb0 : Nat → Nat → Int64) (hv0 : Ok_RDR fi0 fa0) (p1 : Int32) (p2 : Int32) : Met l yX6_takeLineWord wsX6_takeLineWord ({ frames := 1, cells := 0, slots := 0, locals := 22 }) (va_Pc [.ref (r0 0), .int p1, .int p2] (zPre D ca sa A (w_RDR ca r0 fi0 fl0 fa0 fb0 (rest)))) (va_Qv (fun (u : zS) => Ok_RDR u.1 u.2.2.1) (fun u t => zPost D A (w_RDR ca r0 u.1 u.2.1 u.2.2.1 u.2.2.2 (rest)) t) A) 0 0 A := by
  refine Met.ofW (cc := cX6_takeLineWord) (maxL := 3) (ret := none) (by decide) rfl ?_
  intro p e s m args below meth c s₁ B hml hv9
  obtain ⟨rfl, hE, hP, hD⟩ := hv9
  have hx := B.exec
  have hb := B.bytes
  have hr := B.returns
  have hts := atoms_spec (ws := wsX6_takeLineWord) B.pre
  have hown : s.vm.findClass RX6 = some m.cls := findClass_of_methodNamed B.named
  have hlocks := B.notSynchronized
  have hK := hE.1
  have hF : CallFix p m c cX6_takeLineWord 3 s _ wsX6_takeLineWord RX6 := ⟨hx, hb, hml, hown, hts⟩
  have hS : va_S A s.heap s.heap [] := va_S.rf
  have lk34 := hts (.fieldLink RX6 34 "BranchPlay$Reader" "toldRules" "I") (by decide +kernel)
  have inX6 : ∀ w ∈ wsX60, w ∈ wsX6_takeLineWord := by decide +kernel
  have lk88 := hts (.fieldLink RX6 88 "BranchPlay$Reader" "lineRule" "I") (by decide +kernel)
  have lk31 := hts (.fieldLink RX6 31 "BranchPlay$Reader" "awaited" "I") (by decide +kernel)
  obtain ⟨⟨hv0i3, hv0j3⟩, hv0x0⟩ := hv0
  generalize hHe : s.heap = H at hP
  have hS : va_S A s.heap H [] := by rw [← hHe]; exact hS
  have hP : va_P D vwCl (((r0 0), .inr (6, [.ref (r0 1), .int (fi0 0), .int (fi0 1), .int (fi0 2), .int (fi0 3), .int (fi0 4), .int (fi0 5)])) :: ((r0 1), .inl (ca 0, 8, .inl (fa0 0))) :: rest) H := hP
  have hD : va_D A (((r0 0), .inr (6, [.ref (r0 1), .int (fi0 0), .int (fi0 1), .int (fi0 2), .int (fi0 3), .int (fi0 4), .int (fi0 5)])) :: ((r0 1), .inl (ca 0, 8, .inl (fa0 0))) :: rest) := hD
  have hl := lv_entry ([.ref (r0 0), .int p1, .int p2]) (n := 3) (Nat.le_of_ble_eq_true rfl)
  rw [lg_entry_eq]
  generalize (lg_sl ([.ref (r0 0), .int p1, .int p2]) ++ List.replicate (3 - (lg_sl ([.ref (r0 0), .int p1, .int p2])).length) Slot.unset).toArray = ls at hl ⊢
  have hl : lv_has ls 3 [(0, .ref (r0 0)), (1, .int p1), (2, .int p2)] := hl
  generalize hQ9 : MQ below _ _ s 0 0 A = Q9
  refine lv_iload_n hx hb dX6_takeLineWord_0 rfl (lv_at hl 1 rfl) ?_
  have J10_1 : ∀ (ls : Array Slot) (hl : lv_has ls 3 [(0, .ref (r0 0)), (2, .int p2)]), W p l e (headSpec wsX6_takeLineWord ({ frames := 1, cells := 0, slots := 0, locals := 22 })).room s m ([.ref (r0 0), .int p1, .int p2] : List Value).toArray below meth c H [] 0 0 Q9 (F0 m 10 ls []) := by
    intro ls hl
    refine lv_aload_n hx hb dX6_takeLineWord_10 rfl (lv_at hl 0 rfl) ?_
    refine lv_iconst (v := 1) hx hb dX6_takeLineWord_11 (by decide) ?_
    refine lv_iload_n hx hb dX6_takeLineWord_12 rfl (lv_at hl 1 rfl) ?_
    have ho2 : (0 ≤ (fi0 3).toInt ∧ (fi0 3).toInt ≤ 7) ∧ ((fi0 2).toInt = 1 → (fi0 3).toInt ≤ 6) := ⟨⟨by omega, by omega⟩, by omega⟩
    refine z_vV (As := [.int 1, .int p2]) (rest := []) hF (c_X6_blame l D ca sa A rest (zl 0 [(r0 0), (r0 1)]) (zl 0 [(fi0 0), (fi0 1), (fi0 2), (fi0 3), (fi0 4), (fi0 5)]) (zl 0 []) (zl (fun _ => 0) [(fa0 0)]) (zl (fun _ => 0) []) ho2 1 p2) (cwV 2 hts gX6_takeLineWord_X6_blame rfl rfl rfl (by decide +kernel) ⟨Nat.le_of_ble_eq_true rfl, Nat.le_of_ble_eq_true rfl⟩) hE hP hD hS 6 0 rfl rfl rfl hl.1 rfl (Nat.le_of_ble_eq_true rfl) dX6_takeLineWord_13 ⟨Nat.zero_le _, Nat.zero_le _⟩ (fun u3 H locs hw5 hP hD hS => ?_)
    obtain ⟨im6, lm6, am6, bm6⟩ := u3
    have hw5 : (Ok_RDR im6 am6) := hw5
    obtain ⟨⟨hm6i3, hm6j3⟩, hm6x0⟩ := hw5
    have hP : va_P D vwCl (((r0 0), .inr (6, [.ref (r0 1), .int (im6 0), .int (im6 1), .int (im6 2), .int (im6 3), .int (im6 4), .int (im6 5)])) :: ((r0 1), .inl (ca 0, 8, .inl (am6 0))) :: rest) H := hP
    have hD : va_D A (((r0 0), .inr (6, [.ref (r0 1), .int (im6 0), .int (im6 1), .int (im6 2), .int (im6 3), .int (im6 4), .int (im6 5)])) :: ((r0 1), .inl (ca 0, 8, .inl (am6 0))) :: rest) := hD
    refine lv_goto (tgt := 71) hx hb dX6_takeLineWord_16 (by decide) ?_
    subst hQ9
    have ho7 : (0 ≤ (im6 3).toInt ∧ (im6 3).toInt ≤ 7) ∧ ((im6 2).toInt = 1 → (im6 3).toInt ≤ 6) := ⟨⟨by omega, by omega⟩, by omega⟩
    exact W.vret hx hb hr (fun t ht hW => ⟨⟨((zl 0 [(im6 0), (im6 1), (im6 2), (im6 3), (im6 4), (im6 5)]), (zl 0 []), (zl (fun _ => 0) [(am6 0)]), (zl (fun _ => 0) [])), rfl, ho7, ⟨by rw [ht]; exact hP, hD⟩⟩, hS.F ht⟩) hS.2.2 dX6_takeLineWord_71
  refine lv_if_lt (tgt := 10) hx hb dX6_takeLineWord_1 (by decide) (fun c8 => ?_) (fun c8 => ?_)
  ·
    have c8 := z_lt (i := p1.toInt) (j := 0) rfl (by decide) c8
    exact J10_1 ls (lv_sub hl [0, 2] rfl)
  ·
    have c8 := z_nlt (i := p1.toInt) (j := 0) rfl (by decide) c8
    refine lv_iload_n hx hb dX6_takeLineWord_4 rfl (lv_at hl 1 rfl) ?_
    refine lv_bipush (v := 8) hx hb dX6_takeLineWord_5 (by decide) ?_
    refine lv_icmp_lt (tgt := 19) hx hb dX6_takeLineWord_7 (by decide) (fun c9 => ?_) (fun c9 => ?_)
    ·
      have c9 := z_lt (i := p1.toInt) (j := 8) rfl (by decide) c9
      refine lv_aload_n hx hb dX6_takeLineWord_19 rfl (lv_at hl 0 rfl) ?_
      refine va_get (D := D) (ci := 6) (v := .int (fi0 4)) (C := RX6) (T := TX6) (N := 7) hx hb hts inX6 hown hK hP 0 rfl rfl 5 (by decide) lk34 (fun _ h9 => h9) rfl dX6_takeLineWord_20 ?_
      refine lv_iload_n hx hb dX6_takeLineWord_23 rfl (lv_at hl 1 rfl) ?_
      refine lv_iushr hx hb dX6_takeLineWord_24 rfl ?_
      refine lv_topi (fun t10 et10 => ?_)
      refine lv_iconst (v := 1) hx hb dX6_takeLineWord_25 (by decide) ?_
      refine lv_iand hx hb dX6_takeLineWord_26 ?_
      refine lv_topi (fun t11 et11 => ?_)
      refine lv_if_eq (tgt := 39) hx hb dX6_takeLineWord_27 (by decide) (fun c12 => ?_) (fun c12 => ?_)
      ·
        have c12 := z_eq (i := t11.toInt) (j := 0) rfl (by decide) c12
        refine lv_aload_n hx hb dX6_takeLineWord_39 rfl (lv_at hl 0 rfl) ?_
        refine lv_dup hx hb dX6_takeLineWord_40 rfl ?_
        refine va_get (D := D) (ci := 6) (v := .int (fi0 4)) (C := RX6) (T := TX6) (N := 7) hx hb hts inX6 hown hK hP 0 rfl rfl 5 (by decide) lk34 (fun _ h9 => h9) rfl dX6_takeLineWord_41 ?_
        refine lv_iconst (v := 1) hx hb dX6_takeLineWord_44 (by decide) ?_
        refine lv_iload_n hx hb dX6_takeLineWord_45 rfl (lv_at hl 1 rfl) ?_
        refine lv_ishl hx hb dX6_takeLineWord_46 ?_
        refine lv_topi (fun t13 et13 => ?_)
        refine lv_ior hx hb dX6_takeLineWord_47 ?_
        refine lv_topi (fun t14 et14 => ?_)
        refine va_put (D := D) (ci := 6) (v := .int t14) (ty := .int) (C := RX6) (T := TX6) (N := 7) hx hb hts inX6 tyX6 tyX6_ok nmX6 hown hK hP hD hS 0 rfl rfl 5 (by decide) lk34 (fun _ h9 => h9) rfl (by decide +kernel) rfl rfl (Nat.le_of_ble_eq_true rfl) dX6_takeLineWord_48 (fun H locs hP hD hS => ?_)
        have hP : va_P D vwCl (((r0 0), .inr (6, [.ref (r0 1), .int (fi0 0), .int (fi0 1), .int (fi0 2), .int (fi0 3), .int t14, .int (fi0 5)])) :: ((r0 1), .inl (ca 0, 8, .inl (fa0 0))) :: rest) H := hP
        have hD : va_D A (((r0 0), .inr (6, [.ref (r0 1), .int (fi0 0), .int (fi0 1), .int (fi0 2), .int (fi0 3), .int t14, .int (fi0 5)])) :: ((r0 1), .inl (ca 0, 8, .inl (fa0 0))) :: rest) := hD
        refine lv_aload_n hx hb dX6_takeLineWord_51 rfl (lv_at hl 0 rfl) ?_
        refine lv_iload_n hx hb dX6_takeLineWord_52 rfl (lv_at hl 1 rfl) ?_
        refine va_put (D := D) (ci := 6) (v := .int p1) (ty := .int) (C := RX6) (T := TX6) (N := 7) hx hb hts inX6 tyX6 tyX6_ok nmX6 hown hK hP hD hS 0 rfl rfl 4 (by decide) lk88 (fun _ h9 => h9) rfl (by decide +kernel) rfl rfl (Nat.le_of_ble_eq_true rfl) dX6_takeLineWord_53 (fun H locs hP hD hS => ?_)
        have hP : va_P D vwCl (((r0 0), .inr (6, [.ref (r0 1), .int (fi0 0), .int (fi0 1), .int (fi0 2), .int p1, .int t14, .int (fi0 5)])) :: ((r0 1), .inl (ca 0, 8, .inl (fa0 0))) :: rest) H := hP
        have hD : va_D A (((r0 0), .inr (6, [.ref (r0 1), .int (fi0 0), .int (fi0 1), .int (fi0 2), .int p1, .int t14, .int (fi0 5)])) :: ((r0 1), .inl (ca 0, 8, .inl (fa0 0))) :: rest) := hD
        refine lv_aload_n hx hb dX6_takeLineWord_56 rfl (lv_at hl 0 rfl) ?_
        refine lv_iload_n hx hb dX6_takeLineWord_57 rfl (lv_at hl 1 rfl) ?_
        refine lv_bipush (v := 7) hx hb dX6_takeLineWord_58 (by decide) ?_
        have J68_15 : ∀ (k1_15 : Int32) (ls : Array Slot) (hl : lv_has ls 3 []) (hf15_0 : k1_15.toInt = 1 → p1.toInt ≤ 6), W p l e (headSpec wsX6_takeLineWord ({ frames := 1, cells := 0, slots := 0, locals := 22 })).room s m ([.ref (r0 0), .int p1, .int p2] : List Value).toArray below meth c H locs 0 0 Q9 (F0 m 68 ls [.int k1_15, .ref (r0 0)]) := by
          intro k1_15 ls hl hf15_0
          refine va_put (D := D) (ci := 6) (v := .int k1_15) (ty := .int) (C := RX6) (T := TX6) (N := 7) hx hb hts inX6 tyX6 tyX6_ok nmX6 hown hK hP hD hS 0 rfl rfl 3 (by decide) lk31 (fun _ h9 => h9) rfl (by decide +kernel) rfl rfl (Nat.le_of_ble_eq_true rfl) dX6_takeLineWord_68 (fun H locs hP hD hS => ?_)
          have hP : va_P D vwCl (((r0 0), .inr (6, [.ref (r0 1), .int (fi0 0), .int (fi0 1), .int k1_15, .int p1, .int t14, .int (fi0 5)])) :: ((r0 1), .inl (ca 0, 8, .inl (fa0 0))) :: rest) H := hP
          have hD : va_D A (((r0 0), .inr (6, [.ref (r0 1), .int (fi0 0), .int (fi0 1), .int k1_15, .int p1, .int t14, .int (fi0 5)])) :: ((r0 1), .inl (ca 0, 8, .inl (fa0 0))) :: rest) := hD
          subst hQ9
          have ho16 : (0 ≤ p1.toInt ∧ p1.toInt ≤ 7) ∧ (k1_15.toInt = 1 → p1.toInt ≤ 6) := ⟨⟨by omega, by omega⟩, by omega⟩
          exact W.vret hx hb hr (fun t ht hW => ⟨⟨((zl 0 [(fi0 0), (fi0 1), k1_15, p1, t14, (fi0 5)]), (zl 0 []), (zl (fun _ => 0) [(fa0 0)]), (zl (fun _ => 0) [])), rfl, ho16, ⟨by rw [ht]; exact hP, hD⟩⟩, hS.F ht⟩) hS.2.2 dX6_takeLineWord_71
        refine lv_icmp_ne (tgt := 67) hx hb dX6_takeLineWord_60 (by decide) (fun c17 => ?_) (fun c17 => ?_)
        ·
          have c17 := z_ne (i := p1.toInt) (j := 7) rfl (by decide) c17
          refine lv_iconst (v := 1) hx hb dX6_takeLineWord_67 (by decide) ?_
          refine lv_topi (fun t18 et18 => ?_)
          have ht18 : t18.toInt = 1 := by rw [et18]; decide
          have hj19 : t18.toInt = 1 → p1.toInt ≤ 6 := by omega
          exact J68_15 t18 ls (lv_sub hl [] rfl) hj19
        ·
          have c17 := z_eq (i := p1.toInt) (j := 7) rfl (by decide) c17
          refine lv_iconst (v := 2) hx hb dX6_takeLineWord_63 (by decide) ?_
          refine lv_goto (tgt := 68) hx hb dX6_takeLineWord_64 (by decide) ?_
          refine lv_topi (fun t20 et20 => ?_)
          have ht20 : t20.toInt = 2 := by rw [et20]; decide
          have hj21 : t20.toInt = 1 → p1.toInt ≤ 6 := by omega
          exact J68_15 t20 ls (lv_sub hl [] rfl) hj21
      ·
        have c12 := z_ne (i := t11.toInt) (j := 0) rfl (by decide) c12
        refine lv_aload_n hx hb dX6_takeLineWord_30 rfl (lv_at hl 0 rfl) ?_
        refine lv_iconst (v := 3) hx hb dX6_takeLineWord_31 (by decide) ?_
        refine lv_iload_n hx hb dX6_takeLineWord_32 rfl (lv_at hl 2 rfl) ?_
        have ho22 : (0 ≤ (fi0 3).toInt ∧ (fi0 3).toInt ≤ 7) ∧ ((fi0 2).toInt = 1 → (fi0 3).toInt ≤ 6) := ⟨⟨by omega, by omega⟩, by omega⟩
        refine z_vV (As := [.int 3, .int p2]) (rest := []) hF (c_X6_blame l D ca sa A rest (zl 0 [(r0 0), (r0 1)]) (zl 0 [(fi0 0), (fi0 1), (fi0 2), (fi0 3), (fi0 4), (fi0 5)]) (zl 0 []) (zl (fun _ => 0) [(fa0 0)]) (zl (fun _ => 0) []) ho22 3 p2) (cwV 2 hts gX6_takeLineWord_X6_blame rfl rfl rfl (by decide +kernel) ⟨Nat.le_of_ble_eq_true rfl, Nat.le_of_ble_eq_true rfl⟩) hE hP hD hS 6 0 rfl rfl rfl hl.1 rfl (Nat.le_of_ble_eq_true rfl) dX6_takeLineWord_33 ⟨Nat.zero_le _, Nat.zero_le _⟩ (fun u23 H locs hw25 hP hD hS => ?_)
        obtain ⟨im26, lm26, am26, bm26⟩ := u23
        have hw25 : (Ok_RDR im26 am26) := hw25
        obtain ⟨⟨hm26i3, hm26j3⟩, hm26x0⟩ := hw25
        have hP : va_P D vwCl (((r0 0), .inr (6, [.ref (r0 1), .int (im26 0), .int (im26 1), .int (im26 2), .int (im26 3), .int (im26 4), .int (im26 5)])) :: ((r0 1), .inl (ca 0, 8, .inl (am26 0))) :: rest) H := hP
        have hD : va_D A (((r0 0), .inr (6, [.ref (r0 1), .int (im26 0), .int (im26 1), .int (im26 2), .int (im26 3), .int (im26 4), .int (im26 5)])) :: ((r0 1), .inl (ca 0, 8, .inl (am26 0))) :: rest) := hD
        refine lv_goto (tgt := 71) hx hb dX6_takeLineWord_36 (by decide) ?_
        subst hQ9
        have ho27 : (0 ≤ (im26 3).toInt ∧ (im26 3).toInt ≤ 7) ∧ ((im26 2).toInt = 1 → (im26 3).toInt ≤ 6) := ⟨⟨by omega, by omega⟩, by omega⟩
        exact W.vret hx hb hr (fun t ht hW => ⟨⟨((zl 0 [(im26 0), (im26 1), (im26 2), (im26 3), (im26 4), (im26 5)]), (zl 0 []), (zl (fun _ => 0) [(am26 0)]), (zl (fun _ => 0) [])), rfl, ho27, ⟨by rw [ht]; exact hP, hD⟩⟩, hS.F ht⟩) hS.2.2 dX6_takeLineWord_71
    ·
      have c9 := z_nlt (i := p1.toInt) (j := 8) rfl (by decide) c9
      exact J10_1 ls (lv_sub hl [0, 2] rfl)

set_option maxHeartbeats 8000000 in
set_option maxRecDepth 100000 in
theorem c_X6_takeNumber (l : Launch) (D : va_G) (ca : Nat → ClassId) (sa : Nat → Nat) (A : Nat → Prop) (rest : va_W) (r0 : Nat → Nat) (fi0 : Nat → Int32) (fl0 : Nat → Int64) (fa0 : Nat → Nat → Int32) (fb0 : Nat → Nat → Int64) (hv0 : Ok_RDR fi0 fa0) (p1 : Int32) (p2 : Int32) (hpre0 : (fi0 2).toInt = 1) : Met l yX6_takeNumber wsX6_takeNumber ({ frames := 1, cells := 0, slots := 0, locals := 22 }) (va_Pc [.ref (r0 0), .int p1, .int p2] (zPre D ca sa A (w_RDR ca r0 fi0 fl0 fa0 fb0 (rest)))) (va_Qv (fun (u : zS) => Ok_RDR u.1 u.2.2.1) (fun u t => zPost D A (w_RDR ca r0 u.1 u.2.1 u.2.2.1 u.2.2.2 (rest)) t) A) 0 0 A := by
  refine Met.ofW (cc := cX6_takeNumber) (maxL := 3) (ret := none) (by decide) rfl ?_
  intro p e s m args below meth c s₁ B hml hv9
  obtain ⟨rfl, hE, hP, hD⟩ := hv9
  have hx := B.exec
  have hb := B.bytes
  have hr := B.returns
  have hts := atoms_spec (ws := wsX6_takeNumber) B.pre
  have hown : s.vm.findClass RX6 = some m.cls := findClass_of_methodNamed B.named
  have hlocks := B.notSynchronized
  have hK := hE.1
  have hF : CallFix p m c cX6_takeNumber 3 s _ wsX6_takeNumber RX6 := ⟨hx, hb, hml, hown, hts⟩
  have hS : va_S A s.heap s.heap [] := va_S.rf
  have lk88 := hts (.fieldLink RX6 88 "BranchPlay$Reader" "lineRule" "I") (by decide +kernel)
  have inX6 : ∀ w ∈ wsX60, w ∈ wsX6_takeNumber := by decide +kernel
  have liX8 := hts (.initialized RX8) (by decide +kernel)
  have lsX8_isWithinBounds := hts (.static yX8_isWithinBounds) (by decide +kernel)
  have lk9 := hts (.fieldLink RX6 9 "BranchPlay$Reader" "rules" "[I") (by decide +kernel)
  have lk31 := hts (.fieldLink RX6 31 "BranchPlay$Reader" "awaited" "I") (by decide +kernel)
  obtain ⟨⟨hv0i3, hv0j3⟩, hv0x0⟩ := hv0
  generalize hHe : s.heap = H at hP
  have hS : va_S A s.heap H [] := by rw [← hHe]; exact hS
  have hP : va_P D vwCl (((r0 0), .inr (6, [.ref (r0 1), .int (fi0 0), .int (fi0 1), .int (fi0 2), .int (fi0 3), .int (fi0 4), .int (fi0 5)])) :: ((r0 1), .inl (ca 0, 8, .inl (fa0 0))) :: rest) H := hP
  have hD : va_D A (((r0 0), .inr (6, [.ref (r0 1), .int (fi0 0), .int (fi0 1), .int (fi0 2), .int (fi0 3), .int (fi0 4), .int (fi0 5)])) :: ((r0 1), .inl (ca 0, 8, .inl (fa0 0))) :: rest) := hD
  have hl := lv_entry ([.ref (r0 0), .int p1, .int p2]) (n := 3) (Nat.le_of_ble_eq_true rfl)
  rw [lg_entry_eq]
  generalize (lg_sl ([.ref (r0 0), .int p1, .int p2]) ++ List.replicate (3 - (lg_sl ([.ref (r0 0), .int p1, .int p2])).length) Slot.unset).toArray = ls at hl ⊢
  have hl : lv_has ls 3 [(0, .ref (r0 0)), (1, .int p1), (2, .int p2)] := hl
  generalize hQ9 : MQ below _ _ s 0 0 A = Q9
  refine lv_iload_n hx hb dX6_takeNumber_0 rfl (lv_at hl 1 rfl) ?_
  refine lv_iconst (v := (-1)) hx hb dX6_takeNumber_1 (by decide) ?_
  refine lv_icmp_ne (tgt := 14) hx hb dX6_takeNumber_2 (by decide) (fun c1 => ?_) (fun c1 => ?_)
  ·
    have c1 := z_ne (i := p1.toInt) (j := (-1)) rfl (by decide) c1
    refine lv_aload_n hx hb dX6_takeNumber_14 rfl (lv_at hl 0 rfl) ?_
    refine va_get (D := D) (ci := 6) (v := .int (fi0 3)) (C := RX6) (T := TX6) (N := 7) hx hb hts inX6 hown hK hP 0 rfl rfl 4 (by decide) lk88 (fun _ h9 => h9) rfl dX6_takeNumber_15 ?_
    refine lv_iload_n hx hb dX6_takeNumber_18 rfl (lv_at hl 1 rfl) ?_
    have hp2 : 0 ≤ (fi0 3).toInt ∧ (fi0 3).toInt ≤ 6 := by omega
    refine z_iN (As := [.int (fi0 3), .int p1]) (rest := []) (host := RX8) hF (c_X8_isWithinBounds l D ca sa A _ (fi0 3) p1 hp2) ⟨va_cnB 2 hts ggX6_takeNumber_X8_isWithinBounds rfl rfl rfl (hE.2.1 _ (by decide +kernel)) liX8 (by decide +kernel) ⟨Nat.le_of_ble_eq_true rfl, Nat.le_of_ble_eq_true rfl⟩, lsX8_isWithinBounds, trivial⟩ hE hP hD hS rfl hl.1 rfl (Nat.le_of_ble_eq_true rfl) dX6_takeNumber_19 ⟨Nat.zero_le _, Nat.zero_le _⟩ (fun t4 u3 H locs hw5 hP hD hS => ?_)
    have hw5 : ((t4.toInt = 1 ∧ 0 ≤ p1.toInt ∧ p1.toInt ≤ 100) ∨ t4.toInt = 0) := hw5
    obtain hq6 := hw5
    refine lv_if_ne (tgt := 34) hx hb dX6_takeNumber_22 (by decide) (fun c7 => ?_) (fun c7 => ?_)
    ·
      have c7 := z_ne (i := t4.toInt) (j := 0) rfl (by decide) c7
      refine lv_aload_n hx hb dX6_takeNumber_34 rfl (lv_at hl 0 rfl) ?_
      refine va_get (D := D) (ci := 6) (v := .ref (r0 1)) (C := RX6) (T := TX6) (N := 7) hx hb hts inX6 hown hK hP 0 rfl rfl 0 (by decide) lk9 (fun _ h9 => h9) rfl dX6_takeNumber_35 ?_
      refine lv_aload_n hx hb dX6_takeNumber_38 rfl (lv_at hl 0 rfl) ?_
      refine va_get (D := D) (ci := 6) (v := .int (fi0 3)) (C := RX6) (T := TX6) (N := 7) hx hb hts inX6 hown hK hP 0 rfl rfl 4 (by decide) lk88 (fun _ h9 => h9) rfl dX6_takeNumber_39 ?_
      refine lv_iload_n hx hb dX6_takeNumber_42 rfl (lv_at hl 1 rfl) ?_
      have hi8 : vp_in (fi0 3) 8 := z_in (i := (fi0 3).toInt) rfl (by omega) (by omega)
      refine va_iast hx hb hK hP hD hS 1 0 rfl rfl hi8 dX6_takeNumber_43 (fun H locs hP hD hS => ?_)
      generalize eg9 : upd (fa0 0) (fi0 3).toNatClampNeg p1 = g9 at hP hD
      have hP : va_P D vwCl (((r0 0), .inr (6, [.ref (r0 1), .int (fi0 0), .int (fi0 1), .int (fi0 2), .int (fi0 3), .int (fi0 4), .int (fi0 5)])) :: ((r0 1), .inl (ca 0, 8, .inl g9)) :: rest) H := hP
      have hD : va_D A (((r0 0), .inr (6, [.ref (r0 1), .int (fi0 0), .int (fi0 1), .int (fi0 2), .int (fi0 3), .int (fi0 4), .int (fi0 5)])) :: ((r0 1), .inl (ca 0, 8, .inl g9)) :: rest) := hD
      refine lv_aload_n hx hb dX6_takeNumber_44 rfl (lv_at hl 0 rfl) ?_
      refine lv_iconst (v := 3) hx hb dX6_takeNumber_45 (by decide) ?_
      refine lv_topi (fun t10 et10 => ?_)
      have ht10 : t10.toInt = 3 := by rw [et10]; decide
      refine va_put (D := D) (ci := 6) (v := .int t10) (ty := .int) (C := RX6) (T := TX6) (N := 7) hx hb hts inX6 tyX6 tyX6_ok nmX6 hown hK hP hD hS 0 rfl rfl 3 (by decide) lk31 (fun _ h9 => h9) rfl (by decide +kernel) rfl rfl (Nat.le_of_ble_eq_true rfl) dX6_takeNumber_46 (fun H locs hP hD hS => ?_)
      have hP : va_P D vwCl (((r0 0), .inr (6, [.ref (r0 1), .int (fi0 0), .int (fi0 1), .int t10, .int (fi0 3), .int (fi0 4), .int (fi0 5)])) :: ((r0 1), .inl (ca 0, 8, .inl g9)) :: rest) H := hP
      have hD : va_D A (((r0 0), .inr (6, [.ref (r0 1), .int (fi0 0), .int (fi0 1), .int t10, .int (fi0 3), .int (fi0 4), .int (fi0 5)])) :: ((r0 1), .inl (ca 0, 8, .inl g9)) :: rest) := hD
      subst hQ9
      have ho11 : (0 ≤ (fi0 3).toInt ∧ (fi0 3).toInt ≤ 7) ∧ (t10.toInt = 1 → (fi0 3).toInt ≤ 6) := ⟨⟨by omega, by omega⟩, by omega⟩
      exact W.vret hx hb hr (fun t ht hW => ⟨⟨((zl 0 [(fi0 0), (fi0 1), t10, (fi0 3), (fi0 4), (fi0 5)]), (zl 0 []), (zl (fun _ => 0) [g9]), (zl (fun _ => 0) [])), rfl, ho11, ⟨by rw [ht]; exact hP, hD⟩⟩, hS.F ht⟩) hS.2.2 dX6_takeNumber_49
    ·
      have c7 := z_eq (i := t4.toInt) (j := 0) rfl (by decide) c7
      refine lv_aload_n hx hb dX6_takeNumber_25 rfl (lv_at hl 0 rfl) ?_
      refine lv_iconst (v := 2) hx hb dX6_takeNumber_26 (by decide) ?_
      refine lv_iload_n hx hb dX6_takeNumber_27 rfl (lv_at hl 2 rfl) ?_
      have ho12 : (0 ≤ (fi0 3).toInt ∧ (fi0 3).toInt ≤ 7) ∧ ((fi0 2).toInt = 1 → (fi0 3).toInt ≤ 6) := ⟨⟨by omega, by omega⟩, by omega⟩
      refine z_vV (As := [.int 2, .int p2]) (rest := []) hF (c_X6_blame l D ca sa A rest (zl 0 [(r0 0), (r0 1)]) (zl 0 [(fi0 0), (fi0 1), (fi0 2), (fi0 3), (fi0 4), (fi0 5)]) (zl 0 []) (zl (fun _ => 0) [(fa0 0)]) (zl (fun _ => 0) []) ho12 2 p2) (cwV 2 hts gX6_takeNumber_X6_blame rfl rfl rfl (by decide +kernel) ⟨Nat.le_of_ble_eq_true rfl, Nat.le_of_ble_eq_true rfl⟩) hE hP hD hS 6 0 rfl rfl rfl hl.1 rfl (Nat.le_of_ble_eq_true rfl) dX6_takeNumber_28 ⟨Nat.zero_le _, Nat.zero_le _⟩ (fun u13 H locs hw15 hP hD hS => ?_)
      obtain ⟨im16, lm16, am16, bm16⟩ := u13
      have hw15 : (Ok_RDR im16 am16) := hw15
      obtain ⟨⟨hm16i3, hm16j3⟩, hm16x0⟩ := hw15
      have hP : va_P D vwCl (((r0 0), .inr (6, [.ref (r0 1), .int (im16 0), .int (im16 1), .int (im16 2), .int (im16 3), .int (im16 4), .int (im16 5)])) :: ((r0 1), .inl (ca 0, 8, .inl (am16 0))) :: rest) H := hP
      have hD : va_D A (((r0 0), .inr (6, [.ref (r0 1), .int (im16 0), .int (im16 1), .int (im16 2), .int (im16 3), .int (im16 4), .int (im16 5)])) :: ((r0 1), .inl (ca 0, 8, .inl (am16 0))) :: rest) := hD
      refine lv_goto (tgt := 49) hx hb dX6_takeNumber_31 (by decide) ?_
      subst hQ9
      have ho17 : (0 ≤ (im16 3).toInt ∧ (im16 3).toInt ≤ 7) ∧ ((im16 2).toInt = 1 → (im16 3).toInt ≤ 6) := ⟨⟨by omega, by omega⟩, by omega⟩
      exact W.vret hx hb hr (fun t ht hW => ⟨⟨((zl 0 [(im16 0), (im16 1), (im16 2), (im16 3), (im16 4), (im16 5)]), (zl 0 []), (zl (fun _ => 0) [(am16 0)]), (zl (fun _ => 0) [])), rfl, ho17, ⟨by rw [ht]; exact hP, hD⟩⟩, hS.F ht⟩) hS.2.2 dX6_takeNumber_49
  ·
    have c1 := z_eq (i := p1.toInt) (j := (-1)) rfl (by decide) c1
    refine lv_aload_n hx hb dX6_takeNumber_5 rfl (lv_at hl 0 rfl) ?_
    refine lv_iconst (v := 1) hx hb dX6_takeNumber_6 (by decide) ?_
    refine lv_iload_n hx hb dX6_takeNumber_7 rfl (lv_at hl 2 rfl) ?_
    have ho18 : (0 ≤ (fi0 3).toInt ∧ (fi0 3).toInt ≤ 7) ∧ ((fi0 2).toInt = 1 → (fi0 3).toInt ≤ 6) := ⟨⟨by omega, by omega⟩, by omega⟩
    refine z_vV (As := [.int 1, .int p2]) (rest := []) hF (c_X6_blame l D ca sa A rest (zl 0 [(r0 0), (r0 1)]) (zl 0 [(fi0 0), (fi0 1), (fi0 2), (fi0 3), (fi0 4), (fi0 5)]) (zl 0 []) (zl (fun _ => 0) [(fa0 0)]) (zl (fun _ => 0) []) ho18 1 p2) (cwV 2 hts gX6_takeNumber_X6_blame rfl rfl rfl (by decide +kernel) ⟨Nat.le_of_ble_eq_true rfl, Nat.le_of_ble_eq_true rfl⟩) hE hP hD hS 6 0 rfl rfl rfl hl.1 rfl (Nat.le_of_ble_eq_true rfl) dX6_takeNumber_8 ⟨Nat.zero_le _, Nat.zero_le _⟩ (fun u19 H locs hw21 hP hD hS => ?_)
    obtain ⟨im22, lm22, am22, bm22⟩ := u19
    have hw21 : (Ok_RDR im22 am22) := hw21
    obtain ⟨⟨hm22i3, hm22j3⟩, hm22x0⟩ := hw21
    have hP : va_P D vwCl (((r0 0), .inr (6, [.ref (r0 1), .int (im22 0), .int (im22 1), .int (im22 2), .int (im22 3), .int (im22 4), .int (im22 5)])) :: ((r0 1), .inl (ca 0, 8, .inl (am22 0))) :: rest) H := hP
    have hD : va_D A (((r0 0), .inr (6, [.ref (r0 1), .int (im22 0), .int (im22 1), .int (im22 2), .int (im22 3), .int (im22 4), .int (im22 5)])) :: ((r0 1), .inl (ca 0, 8, .inl (am22 0))) :: rest) := hD
    refine lv_goto (tgt := 49) hx hb dX6_takeNumber_11 (by decide) ?_
    subst hQ9
    have ho23 : (0 ≤ (im22 3).toInt ∧ (im22 3).toInt ≤ 7) ∧ ((im22 2).toInt = 1 → (im22 3).toInt ≤ 6) := ⟨⟨by omega, by omega⟩, by omega⟩
    exact W.vret hx hb hr (fun t ht hW => ⟨⟨((zl 0 [(im22 0), (im22 1), (im22 2), (im22 3), (im22 4), (im22 5)]), (zl 0 []), (zl (fun _ => 0) [(am22 0)]), (zl (fun _ => 0) [])), rfl, ho23, ⟨by rw [ht]; exact hP, hD⟩⟩, hS.F ht⟩) hS.2.2 dX6_takeNumber_49

set_option maxHeartbeats 8000000 in
set_option maxRecDepth 100000 in
theorem c_X6_takePick (l : Launch) (D : va_G) (ca : Nat → ClassId) (sa : Nat → Nat) (A : Nat → Prop) (rest : va_W) (r0 : Nat → Nat) (fi0 : Nat → Int32) (fl0 : Nat → Int64) (fa0 : Nat → Nat → Int32) (fb0 : Nat → Nat → Int64) (hv0 : Ok_RDR fi0 fa0) (p1 : Int32) (p2 : Int32) : Met l yX6_takePick wsX6_takePick ({ frames := 1, cells := 0, slots := 0, locals := 22 }) (va_Pc [.ref (r0 0), .int p1, .int p2] (zPre D ca sa A (w_RDR ca r0 fi0 fl0 fa0 fb0 (rest)))) (va_Qv (fun (u : zS) => Ok_RDR u.1 u.2.2.1) (fun u t => zPost D A (w_RDR ca r0 u.1 u.2.1 u.2.2.1 u.2.2.2 (rest)) t) A) 0 0 A := by
  refine Met.ofW (cc := cX6_takePick) (maxL := 3) (ret := none) (by decide) rfl ?_
  intro p e s m args below meth c s₁ B hml hv9
  obtain ⟨rfl, hE, hP, hD⟩ := hv9
  have hx := B.exec
  have hb := B.bytes
  have hr := B.returns
  have hts := atoms_spec (ws := wsX6_takePick) B.pre
  have hown : s.vm.findClass RX6 = some m.cls := findClass_of_methodNamed B.named
  have hlocks := B.notSynchronized
  have hK := hE.1
  have hF : CallFix p m c cX6_takePick 3 s _ wsX6_takePick RX6 := ⟨hx, hb, hml, hown, hts⟩
  have hS : va_S A s.heap s.heap [] := va_S.rf
  have lk9 := hts (.fieldLink RX6 9 "BranchPlay$Reader" "rules" "[I") (by decide +kernel)
  have inX6 : ∀ w ∈ wsX60, w ∈ wsX6_takePick := by decide +kernel
  have lk31 := hts (.fieldLink RX6 31 "BranchPlay$Reader" "awaited" "I") (by decide +kernel)
  obtain ⟨⟨hv0i3, hv0j3⟩, hv0x0⟩ := hv0
  generalize hHe : s.heap = H at hP
  have hS : va_S A s.heap H [] := by rw [← hHe]; exact hS
  have hP : va_P D vwCl (((r0 0), .inr (6, [.ref (r0 1), .int (fi0 0), .int (fi0 1), .int (fi0 2), .int (fi0 3), .int (fi0 4), .int (fi0 5)])) :: ((r0 1), .inl (ca 0, 8, .inl (fa0 0))) :: rest) H := hP
  have hD : va_D A (((r0 0), .inr (6, [.ref (r0 1), .int (fi0 0), .int (fi0 1), .int (fi0 2), .int (fi0 3), .int (fi0 4), .int (fi0 5)])) :: ((r0 1), .inl (ca 0, 8, .inl (fa0 0))) :: rest) := hD
  have hl := lv_entry ([.ref (r0 0), .int p1, .int p2]) (n := 3) (Nat.le_of_ble_eq_true rfl)
  rw [lg_entry_eq]
  generalize (lg_sl ([.ref (r0 0), .int p1, .int p2]) ++ List.replicate (3 - (lg_sl ([.ref (r0 0), .int p1, .int p2])).length) Slot.unset).toArray = ls at hl ⊢
  have hl : lv_has ls 3 [(0, .ref (r0 0)), (1, .int p1), (2, .int p2)] := hl
  generalize hQ9 : MQ below _ _ s 0 0 A = Q9
  refine lv_iload_n hx hb dX6_takePick_0 rfl (lv_at hl 1 rfl) ?_
  refine lv_bipush (v := 8) hx hb dX6_takePick_1 (by decide) ?_
  refine lv_icmp_ge (tgt := 15) hx hb dX6_takePick_3 (by decide) (fun c1 => ?_) (fun c1 => ?_)
  ·
    have c1 := z_le (i := 8) (j := p1.toInt) (by decide) rfl c1
    refine lv_aload_n hx hb dX6_takePick_15 rfl (lv_at hl 0 rfl) ?_
    refine va_get (D := D) (ci := 6) (v := .ref (r0 1)) (C := RX6) (T := TX6) (N := 7) hx hb hts inX6 hown hK hP 0 rfl rfl 0 (by decide) lk9 (fun _ h9 => h9) rfl dX6_takePick_16 ?_
    refine lv_bipush (v := 7) hx hb dX6_takePick_19 (by decide) ?_
    refine lv_iload_n hx hb dX6_takePick_21 rfl (lv_at hl 1 rfl) ?_
    refine lv_bipush (v := 8) hx hb dX6_takePick_22 (by decide) ?_
    refine lv_isub hx hb dX6_takePick_24 ?_
    refine lv_topi (fun t2 et2 => ?_)
    try have ht2 : t2.toInt = p1.toInt - 8 := z_sub et2 rfl (by decide) (by omega) (by omega)
    have hi3 : vp_in 7 8 := z_in (i := 7) (by decide) (by omega) (by omega)
    refine va_iast hx hb hK hP hD hS 1 0 rfl rfl hi3 dX6_takePick_25 (fun H locs hP hD hS => ?_)
    generalize eg4 : upd (fa0 0) (7 : Int32).toNatClampNeg t2 = g4 at hP hD
    have hP : va_P D vwCl (((r0 0), .inr (6, [.ref (r0 1), .int (fi0 0), .int (fi0 1), .int (fi0 2), .int (fi0 3), .int (fi0 4), .int (fi0 5)])) :: ((r0 1), .inl (ca 0, 8, .inl g4)) :: rest) H := hP
    have hD : va_D A (((r0 0), .inr (6, [.ref (r0 1), .int (fi0 0), .int (fi0 1), .int (fi0 2), .int (fi0 3), .int (fi0 4), .int (fi0 5)])) :: ((r0 1), .inl (ca 0, 8, .inl g4)) :: rest) := hD
    refine lv_aload_n hx hb dX6_takePick_26 rfl (lv_at hl 0 rfl) ?_
    refine lv_iconst (v := 3) hx hb dX6_takePick_27 (by decide) ?_
    refine lv_topi (fun t5 et5 => ?_)
    have ht5 : t5.toInt = 3 := by rw [et5]; decide
    refine va_put (D := D) (ci := 6) (v := .int t5) (ty := .int) (C := RX6) (T := TX6) (N := 7) hx hb hts inX6 tyX6 tyX6_ok nmX6 hown hK hP hD hS 0 rfl rfl 3 (by decide) lk31 (fun _ h9 => h9) rfl (by decide +kernel) rfl rfl (Nat.le_of_ble_eq_true rfl) dX6_takePick_28 (fun H locs hP hD hS => ?_)
    have hP : va_P D vwCl (((r0 0), .inr (6, [.ref (r0 1), .int (fi0 0), .int (fi0 1), .int t5, .int (fi0 3), .int (fi0 4), .int (fi0 5)])) :: ((r0 1), .inl (ca 0, 8, .inl g4)) :: rest) H := hP
    have hD : va_D A (((r0 0), .inr (6, [.ref (r0 1), .int (fi0 0), .int (fi0 1), .int t5, .int (fi0 3), .int (fi0 4), .int (fi0 5)])) :: ((r0 1), .inl (ca 0, 8, .inl g4)) :: rest) := hD
    subst hQ9
    have ho6 : (0 ≤ (fi0 3).toInt ∧ (fi0 3).toInt ≤ 7) ∧ (t5.toInt = 1 → (fi0 3).toInt ≤ 6) := ⟨⟨by omega, by omega⟩, by omega⟩
    exact W.vret hx hb hr (fun t ht hW => ⟨⟨((zl 0 [(fi0 0), (fi0 1), t5, (fi0 3), (fi0 4), (fi0 5)]), (zl 0 []), (zl (fun _ => 0) [g4]), (zl (fun _ => 0) [])), rfl, ho6, ⟨by rw [ht]; exact hP, hD⟩⟩, hS.F ht⟩) hS.2.2 dX6_takePick_31
  ·
    have c1 := z_nle (i := 8) (j := p1.toInt) (by decide) rfl c1
    refine lv_aload_n hx hb dX6_takePick_6 rfl (lv_at hl 0 rfl) ?_
    refine lv_iconst (v := 1) hx hb dX6_takePick_7 (by decide) ?_
    refine lv_iload_n hx hb dX6_takePick_8 rfl (lv_at hl 2 rfl) ?_
    have ho7 : (0 ≤ (fi0 3).toInt ∧ (fi0 3).toInt ≤ 7) ∧ ((fi0 2).toInt = 1 → (fi0 3).toInt ≤ 6) := ⟨⟨by omega, by omega⟩, by omega⟩
    refine z_vV (As := [.int 1, .int p2]) (rest := []) hF (c_X6_blame l D ca sa A rest (zl 0 [(r0 0), (r0 1)]) (zl 0 [(fi0 0), (fi0 1), (fi0 2), (fi0 3), (fi0 4), (fi0 5)]) (zl 0 []) (zl (fun _ => 0) [(fa0 0)]) (zl (fun _ => 0) []) ho7 1 p2) (cwV 2 hts gX6_takePick_X6_blame rfl rfl rfl (by decide +kernel) ⟨Nat.le_of_ble_eq_true rfl, Nat.le_of_ble_eq_true rfl⟩) hE hP hD hS 6 0 rfl rfl rfl hl.1 rfl (Nat.le_of_ble_eq_true rfl) dX6_takePick_9 ⟨Nat.zero_le _, Nat.zero_le _⟩ (fun u8 H locs hw10 hP hD hS => ?_)
    obtain ⟨im11, lm11, am11, bm11⟩ := u8
    have hw10 : (Ok_RDR im11 am11) := hw10
    obtain ⟨⟨hm11i3, hm11j3⟩, hm11x0⟩ := hw10
    have hP : va_P D vwCl (((r0 0), .inr (6, [.ref (r0 1), .int (im11 0), .int (im11 1), .int (im11 2), .int (im11 3), .int (im11 4), .int (im11 5)])) :: ((r0 1), .inl (ca 0, 8, .inl (am11 0))) :: rest) H := hP
    have hD : va_D A (((r0 0), .inr (6, [.ref (r0 1), .int (im11 0), .int (im11 1), .int (im11 2), .int (im11 3), .int (im11 4), .int (im11 5)])) :: ((r0 1), .inl (ca 0, 8, .inl (am11 0))) :: rest) := hD
    refine lv_goto (tgt := 31) hx hb dX6_takePick_12 (by decide) ?_
    subst hQ9
    have ho12 : (0 ≤ (im11 3).toInt ∧ (im11 3).toInt ≤ 7) ∧ ((im11 2).toInt = 1 → (im11 3).toInt ≤ 6) := ⟨⟨by omega, by omega⟩, by omega⟩
    exact W.vret hx hb hr (fun t ht hW => ⟨⟨((zl 0 [(im11 0), (im11 1), (im11 2), (im11 3), (im11 4), (im11 5)]), (zl 0 []), (zl (fun _ => 0) [(am11 0)]), (zl (fun _ => 0) [])), rfl, ho12, ⟨by rw [ht]; exact hP, hD⟩⟩, hS.F ht⟩) hS.2.2 dX6_takePick_31

set_option maxHeartbeats 8000000 in
set_option maxRecDepth 100000 in
theorem c_X6_takeSemicolon (l : Launch) (D : va_G) (ca : Nat → ClassId) (sa : Nat → Nat) (A : Nat → Prop) (rest : va_W) (r0 : Nat → Nat) (fi0 : Nat → Int32) (fl0 : Nat → Int64) (fa0 : Nat → Nat → Int32) (fb0 : Nat → Nat → Int64) (hv0 : Ok_RDR fi0 fa0) (p1 : Int32) (p2 : Int32) : Met l yX6_takeSemicolon wsX6_takeSemicolon ({ frames := 1, cells := 0, slots := 0, locals := 22 }) (va_Pc [.ref (r0 0), .int p1, .int p2] (zPre D ca sa A (w_RDR ca r0 fi0 fl0 fa0 fb0 (rest)))) (va_Qv (fun (u : zS) => Ok_RDR u.1 u.2.2.1) (fun u t => zPost D A (w_RDR ca r0 u.1 u.2.1 u.2.2.1 u.2.2.2 (rest)) t) A) 0 0 A := by
  refine Met.ofW (cc := cX6_takeSemicolon) (maxL := 3) (ret := none) (by decide) rfl ?_
  intro p e s m args below meth c s₁ B hml hv9
  obtain ⟨rfl, hE, hP, hD⟩ := hv9
  have hx := B.exec
  have hb := B.bytes
  have hr := B.returns
  have hts := atoms_spec (ws := wsX6_takeSemicolon) B.pre
  have hown : s.vm.findClass RX6 = some m.cls := findClass_of_methodNamed B.named
  have hlocks := B.notSynchronized
  have hK := hE.1
  have hF : CallFix p m c cX6_takeSemicolon 3 s _ wsX6_takeSemicolon RX6 := ⟨hx, hb, hml, hown, hts⟩
  have hS : va_S A s.heap s.heap [] := va_S.rf
  have lk37 := hts (.fieldLink RX6 37 "BranchPlay$Reader" "lines" "I") (by decide +kernel)
  have inX6 : ∀ w ∈ wsX60, w ∈ wsX6_takeSemicolon := by decide +kernel
  have lk31 := hts (.fieldLink RX6 31 "BranchPlay$Reader" "awaited" "I") (by decide +kernel)
  obtain ⟨⟨hv0i3, hv0j3⟩, hv0x0⟩ := hv0
  generalize hHe : s.heap = H at hP
  have hS : va_S A s.heap H [] := by rw [← hHe]; exact hS
  have hP : va_P D vwCl (((r0 0), .inr (6, [.ref (r0 1), .int (fi0 0), .int (fi0 1), .int (fi0 2), .int (fi0 3), .int (fi0 4), .int (fi0 5)])) :: ((r0 1), .inl (ca 0, 8, .inl (fa0 0))) :: rest) H := hP
  have hD : va_D A (((r0 0), .inr (6, [.ref (r0 1), .int (fi0 0), .int (fi0 1), .int (fi0 2), .int (fi0 3), .int (fi0 4), .int (fi0 5)])) :: ((r0 1), .inl (ca 0, 8, .inl (fa0 0))) :: rest) := hD
  have hl := lv_entry ([.ref (r0 0), .int p1, .int p2]) (n := 3) (Nat.le_of_ble_eq_true rfl)
  rw [lg_entry_eq]
  generalize (lg_sl ([.ref (r0 0), .int p1, .int p2]) ++ List.replicate (3 - (lg_sl ([.ref (r0 0), .int p1, .int p2])).length) Slot.unset).toArray = ls at hl ⊢
  have hl : lv_has ls 3 [(0, .ref (r0 0)), (1, .int p1), (2, .int p2)] := hl
  generalize hQ9 : MQ below _ _ s 0 0 A = Q9
  refine lv_iload_n hx hb dX6_takeSemicolon_0 rfl (lv_at hl 1 rfl) ?_
  refine lv_if_eq (tgt := 22) hx hb dX6_takeSemicolon_1 (by decide) (fun c1 => ?_) (fun c1 => ?_)
  ·
    have c1 := z_eq (i := p1.toInt) (j := 0) rfl (by decide) c1
    refine lv_aload_n hx hb dX6_takeSemicolon_22 rfl (lv_at hl 0 rfl) ?_
    refine lv_iconst (v := 1) hx hb dX6_takeSemicolon_23 (by decide) ?_
    refine lv_iload_n hx hb dX6_takeSemicolon_24 rfl (lv_at hl 2 rfl) ?_
    have ho2 : (0 ≤ (fi0 3).toInt ∧ (fi0 3).toInt ≤ 7) ∧ ((fi0 2).toInt = 1 → (fi0 3).toInt ≤ 6) := ⟨⟨by omega, by omega⟩, by omega⟩
    refine z_vV (As := [.int 1, .int p2]) (rest := []) hF (c_X6_blame l D ca sa A rest (zl 0 [(r0 0), (r0 1)]) (zl 0 [(fi0 0), (fi0 1), (fi0 2), (fi0 3), (fi0 4), (fi0 5)]) (zl 0 []) (zl (fun _ => 0) [(fa0 0)]) (zl (fun _ => 0) []) ho2 1 p2) (cwV 2 hts gX6_takeSemicolon_X6_blame rfl rfl rfl (by decide +kernel) ⟨Nat.le_of_ble_eq_true rfl, Nat.le_of_ble_eq_true rfl⟩) hE hP hD hS 6 0 rfl rfl rfl hl.1 rfl (Nat.le_of_ble_eq_true rfl) dX6_takeSemicolon_25 ⟨Nat.zero_le _, Nat.zero_le _⟩ (fun u3 H locs hw5 hP hD hS => ?_)
    obtain ⟨im6, lm6, am6, bm6⟩ := u3
    have hw5 : (Ok_RDR im6 am6) := hw5
    obtain ⟨⟨hm6i3, hm6j3⟩, hm6x0⟩ := hw5
    have hP : va_P D vwCl (((r0 0), .inr (6, [.ref (r0 1), .int (im6 0), .int (im6 1), .int (im6 2), .int (im6 3), .int (im6 4), .int (im6 5)])) :: ((r0 1), .inl (ca 0, 8, .inl (am6 0))) :: rest) H := hP
    have hD : va_D A (((r0 0), .inr (6, [.ref (r0 1), .int (im6 0), .int (im6 1), .int (im6 2), .int (im6 3), .int (im6 4), .int (im6 5)])) :: ((r0 1), .inl (ca 0, 8, .inl (am6 0))) :: rest) := hD
    subst hQ9
    have ho7 : (0 ≤ (im6 3).toInt ∧ (im6 3).toInt ≤ 7) ∧ ((im6 2).toInt = 1 → (im6 3).toInt ≤ 6) := ⟨⟨by omega, by omega⟩, by omega⟩
    exact W.vret hx hb hr (fun t ht hW => ⟨⟨((zl 0 [(im6 0), (im6 1), (im6 2), (im6 3), (im6 4), (im6 5)]), (zl 0 []), (zl (fun _ => 0) [(am6 0)]), (zl (fun _ => 0) [])), rfl, ho7, ⟨by rw [ht]; exact hP, hD⟩⟩, hS.F ht⟩) hS.2.2 dX6_takeSemicolon_28
  ·
    have c1 := z_ne (i := p1.toInt) (j := 0) rfl (by decide) c1
    refine lv_aload_n hx hb dX6_takeSemicolon_4 rfl (lv_at hl 0 rfl) ?_
    refine lv_dup hx hb dX6_takeSemicolon_5 rfl ?_
    refine va_get (D := D) (ci := 6) (v := .int (fi0 5)) (C := RX6) (T := TX6) (N := 7) hx hb hts inX6 hown hK hP 0 rfl rfl 6 (by decide) lk37 (fun _ h9 => h9) rfl dX6_takeSemicolon_6 ?_
    refine lv_iconst (v := 1) hx hb dX6_takeSemicolon_9 (by decide) ?_
    refine lv_iadd hx hb dX6_takeSemicolon_10 ?_
    refine lv_topi (fun t8 et8 => ?_)
    try have ht8 : t8.toInt = (fi0 5).toInt + 1 := z_add et8 rfl (by decide) (by omega) (by omega)
    refine va_put (D := D) (ci := 6) (v := .int t8) (ty := .int) (C := RX6) (T := TX6) (N := 7) hx hb hts inX6 tyX6 tyX6_ok nmX6 hown hK hP hD hS 0 rfl rfl 6 (by decide) lk37 (fun _ h9 => h9) rfl (by decide +kernel) rfl rfl (Nat.le_of_ble_eq_true rfl) dX6_takeSemicolon_11 (fun H locs hP hD hS => ?_)
    have hP : va_P D vwCl (((r0 0), .inr (6, [.ref (r0 1), .int (fi0 0), .int (fi0 1), .int (fi0 2), .int (fi0 3), .int (fi0 4), .int t8])) :: ((r0 1), .inl (ca 0, 8, .inl (fa0 0))) :: rest) H := hP
    have hD : va_D A (((r0 0), .inr (6, [.ref (r0 1), .int (fi0 0), .int (fi0 1), .int (fi0 2), .int (fi0 3), .int (fi0 4), .int t8])) :: ((r0 1), .inl (ca 0, 8, .inl (fa0 0))) :: rest) := hD
    refine lv_aload_n hx hb dX6_takeSemicolon_14 rfl (lv_at hl 0 rfl) ?_
    refine lv_iconst (v := 0) hx hb dX6_takeSemicolon_15 (by decide) ?_
    refine lv_topi (fun t9 et9 => ?_)
    have ht9 : t9.toInt = 0 := by rw [et9]; decide
    refine va_put (D := D) (ci := 6) (v := .int t9) (ty := .int) (C := RX6) (T := TX6) (N := 7) hx hb hts inX6 tyX6 tyX6_ok nmX6 hown hK hP hD hS 0 rfl rfl 3 (by decide) lk31 (fun _ h9 => h9) rfl (by decide +kernel) rfl rfl (Nat.le_of_ble_eq_true rfl) dX6_takeSemicolon_16 (fun H locs hP hD hS => ?_)
    have hP : va_P D vwCl (((r0 0), .inr (6, [.ref (r0 1), .int (fi0 0), .int (fi0 1), .int t9, .int (fi0 3), .int (fi0 4), .int t8])) :: ((r0 1), .inl (ca 0, 8, .inl (fa0 0))) :: rest) H := hP
    have hD : va_D A (((r0 0), .inr (6, [.ref (r0 1), .int (fi0 0), .int (fi0 1), .int t9, .int (fi0 3), .int (fi0 4), .int t8])) :: ((r0 1), .inl (ca 0, 8, .inl (fa0 0))) :: rest) := hD
    refine lv_goto (tgt := 28) hx hb dX6_takeSemicolon_19 (by decide) ?_
    subst hQ9
    have ho10 : (0 ≤ (fi0 3).toInt ∧ (fi0 3).toInt ≤ 7) ∧ (t9.toInt = 1 → (fi0 3).toInt ≤ 6) := ⟨⟨by omega, by omega⟩, by omega⟩
    exact W.vret hx hb hr (fun t ht hW => ⟨⟨((zl 0 [(fi0 0), (fi0 1), t9, (fi0 3), (fi0 4), t8]), (zl 0 []), (zl (fun _ => 0) [(fa0 0)]), (zl (fun _ => 0) [])), rfl, ho10, ⟨by rw [ht]; exact hP, hD⟩⟩, hS.F ht⟩) hS.2.2 dX6_takeSemicolon_28

set_option maxHeartbeats 8000000 in
set_option maxRecDepth 100000 in
theorem c_X6_takeEnd (l : Launch) (D : va_G) (ca : Nat → ClassId) (sa : Nat → Nat) (A : Nat → Prop) (rest : va_W) (r0 : Nat → Nat) (fi0 : Nat → Int32) (fl0 : Nat → Int64) (fa0 : Nat → Nat → Int32) (fb0 : Nat → Nat → Int64) (hv0 : Ok_RDR fi0 fa0) (p1 : Int32) : Met l yX6_takeEnd wsX6_takeEnd ({ frames := 1, cells := 0, slots := 0, locals := 22 }) (va_Pc [.ref (r0 0), .int p1] (zPre D ca sa A (w_RDR ca r0 fi0 fl0 fa0 fb0 (rest)))) (va_Qv (fun (u : zS) => Ok_RDR u.1 u.2.2.1) (fun u t => zPost D A (w_RDR ca r0 u.1 u.2.1 u.2.2.1 u.2.2.2 (rest)) t) A) 0 0 A := by
  refine Met.ofW (cc := cX6_takeEnd) (maxL := 2) (ret := none) (by decide) rfl ?_
  intro p e s m args below meth c s₁ B hml hv9
  obtain ⟨rfl, hE, hP, hD⟩ := hv9
  have hx := B.exec
  have hb := B.bytes
  have hr := B.returns
  have hts := atoms_spec (ws := wsX6_takeEnd) B.pre
  have hown : s.vm.findClass RX6 = some m.cls := findClass_of_methodNamed B.named
  have hlocks := B.notSynchronized
  have hK := hE.1
  have hF : CallFix p m c cX6_takeEnd 2 s _ wsX6_takeEnd RX6 := ⟨hx, hb, hml, hown, hts⟩
  have hS : va_S A s.heap s.heap [] := va_S.rf
  have lk31 := hts (.fieldLink RX6 31 "BranchPlay$Reader" "awaited" "I") (by decide +kernel)
  have inX6 : ∀ w ∈ wsX60, w ∈ wsX6_takeEnd := by decide +kernel
  have lk9 := hts (.fieldLink RX6 9 "BranchPlay$Reader" "rules" "[I") (by decide +kernel)
  obtain ⟨⟨hv0i3, hv0j3⟩, hv0x0⟩ := hv0
  generalize hHe : s.heap = H at hP
  have hS : va_S A s.heap H [] := by rw [← hHe]; exact hS
  have hP : va_P D vwCl (((r0 0), .inr (6, [.ref (r0 1), .int (fi0 0), .int (fi0 1), .int (fi0 2), .int (fi0 3), .int (fi0 4), .int (fi0 5)])) :: ((r0 1), .inl (ca 0, 8, .inl (fa0 0))) :: rest) H := hP
  have hD : va_D A (((r0 0), .inr (6, [.ref (r0 1), .int (fi0 0), .int (fi0 1), .int (fi0 2), .int (fi0 3), .int (fi0 4), .int (fi0 5)])) :: ((r0 1), .inl (ca 0, 8, .inl (fa0 0))) :: rest) := hD
  have hl := lv_entry ([.ref (r0 0), .int p1]) (n := 2) (Nat.le_of_ble_eq_true rfl)
  rw [lg_entry_eq]
  generalize (lg_sl ([.ref (r0 0), .int p1]) ++ List.replicate (2 - (lg_sl ([.ref (r0 0), .int p1])).length) Slot.unset).toArray = ls at hl ⊢
  have hl : lv_has ls 2 [(0, .ref (r0 0)), (1, .int p1)] := hl
  generalize hQ9 : MQ below _ _ s 0 0 A = Q9
  refine lv_aload_n hx hb dX6_takeEnd_0 rfl (lv_at hl 0 rfl) ?_
  refine va_get (D := D) (ci := 6) (v := .int (fi0 2)) (C := RX6) (T := TX6) (N := 7) hx hb hts inX6 hown hK hP 0 rfl rfl 3 (by decide) lk31 (fun _ h9 => h9) rfl dX6_takeEnd_1 ?_
  refine lv_if_eq (tgt := 16) hx hb dX6_takeEnd_4 (by decide) (fun c1 => ?_) (fun c1 => ?_)
  ·
    have c1 := z_eq (i := (fi0 2).toInt) (j := 0) rfl (by decide) c1
    refine lv_aload_n hx hb dX6_takeEnd_16 rfl (lv_at hl 0 rfl) ?_
    refine va_get (D := D) (ci := 6) (v := .ref (r0 1)) (C := RX6) (T := TX6) (N := 7) hx hb hts inX6 hown hK hP 0 rfl rfl 0 (by decide) lk9 (fun _ h9 => h9) rfl dX6_takeEnd_17 ?_
    refine lv_iconst (v := 1) hx hb dX6_takeEnd_20 (by decide) ?_
    have hi2 : vp_in 1 8 := z_in (i := 1) (by decide) (by omega) (by omega)
    refine va_iald hx hb hK hP 1 0 rfl rfl hi2 dX6_takeEnd_21 ?_
    refine lv_topi (fun t3 et3 => ?_)
    refine lv_aload_n hx hb dX6_takeEnd_22 rfl (lv_at hl 0 rfl) ?_
    refine va_get (D := D) (ci := 6) (v := .ref (r0 1)) (C := RX6) (T := TX6) (N := 7) hx hb hts inX6 hown hK hP 0 rfl rfl 0 (by decide) lk9 (fun _ h9 => h9) rfl dX6_takeEnd_23 ?_
    refine lv_iconst (v := 0) hx hb dX6_takeEnd_26 (by decide) ?_
    have hi4 : vp_in 0 8 := z_in (i := 0) (by decide) (by omega) (by omega)
    refine va_iald hx hb hK hP 1 0 rfl rfl hi4 dX6_takeEnd_27 ?_
    refine lv_topi (fun t5 et5 => ?_)
    refine lv_icmp_lt (tgt := 37) hx hb dX6_takeEnd_28 (by decide) (fun c6 => ?_) (fun c6 => ?_)
    ·
      have c6 := z_lt (i := t3.toInt) (j := t5.toInt) rfl rfl c6
      subst hQ9
      have ho7 : (0 ≤ (fi0 3).toInt ∧ (fi0 3).toInt ≤ 7) ∧ ((fi0 2).toInt = 1 → (fi0 3).toInt ≤ 6) := ⟨⟨by omega, by omega⟩, by omega⟩
      exact W.vret hx hb hr (fun t ht hW => ⟨⟨((zl 0 [(fi0 0), (fi0 1), (fi0 2), (fi0 3), (fi0 4), (fi0 5)]), (zl 0 []), (zl (fun _ => 0) [(fa0 0)]), (zl (fun _ => 0) [])), rfl, ho7, ⟨by rw [ht]; exact hP, hD⟩⟩, hS.F ht⟩) hS.2.2 dX6_takeEnd_37
    ·
      have c6 := z_nlt (i := t3.toInt) (j := t5.toInt) rfl rfl c6
      refine lv_aload_n hx hb dX6_takeEnd_31 rfl (lv_at hl 0 rfl) ?_
      refine lv_iconst (v := 4) hx hb dX6_takeEnd_32 (by decide) ?_
      refine lv_iload_n hx hb dX6_takeEnd_33 rfl (lv_at hl 1 rfl) ?_
      have ho8 : (0 ≤ (fi0 3).toInt ∧ (fi0 3).toInt ≤ 7) ∧ ((fi0 2).toInt = 1 → (fi0 3).toInt ≤ 6) := ⟨⟨by omega, by omega⟩, by omega⟩
      refine z_vV (As := [.int 4, .int p1]) (rest := []) hF (c_X6_blame l D ca sa A rest (zl 0 [(r0 0), (r0 1)]) (zl 0 [(fi0 0), (fi0 1), (fi0 2), (fi0 3), (fi0 4), (fi0 5)]) (zl 0 []) (zl (fun _ => 0) [(fa0 0)]) (zl (fun _ => 0) []) ho8 4 p1) (cwV 2 hts gX6_takeEnd_X6_blame rfl rfl rfl (by decide +kernel) ⟨Nat.le_of_ble_eq_true rfl, Nat.le_of_ble_eq_true rfl⟩) hE hP hD hS 6 0 rfl rfl rfl hl.1 rfl (Nat.le_of_ble_eq_true rfl) dX6_takeEnd_34 ⟨Nat.zero_le _, Nat.zero_le _⟩ (fun u9 H locs hw11 hP hD hS => ?_)
      obtain ⟨im12, lm12, am12, bm12⟩ := u9
      have hw11 : (Ok_RDR im12 am12) := hw11
      obtain ⟨⟨hm12i3, hm12j3⟩, hm12x0⟩ := hw11
      have hP : va_P D vwCl (((r0 0), .inr (6, [.ref (r0 1), .int (im12 0), .int (im12 1), .int (im12 2), .int (im12 3), .int (im12 4), .int (im12 5)])) :: ((r0 1), .inl (ca 0, 8, .inl (am12 0))) :: rest) H := hP
      have hD : va_D A (((r0 0), .inr (6, [.ref (r0 1), .int (im12 0), .int (im12 1), .int (im12 2), .int (im12 3), .int (im12 4), .int (im12 5)])) :: ((r0 1), .inl (ca 0, 8, .inl (am12 0))) :: rest) := hD
      subst hQ9
      have ho13 : (0 ≤ (im12 3).toInt ∧ (im12 3).toInt ≤ 7) ∧ ((im12 2).toInt = 1 → (im12 3).toInt ≤ 6) := ⟨⟨by omega, by omega⟩, by omega⟩
      exact W.vret hx hb hr (fun t ht hW => ⟨⟨((zl 0 [(im12 0), (im12 1), (im12 2), (im12 3), (im12 4), (im12 5)]), (zl 0 []), (zl (fun _ => 0) [(am12 0)]), (zl (fun _ => 0) [])), rfl, ho13, ⟨by rw [ht]; exact hP, hD⟩⟩, hS.F ht⟩) hS.2.2 dX6_takeEnd_37
  ·
    have c1 := z_ne (i := (fi0 2).toInt) (j := 0) rfl (by decide) c1
    refine lv_aload_n hx hb dX6_takeEnd_7 rfl (lv_at hl 0 rfl) ?_
    refine lv_iconst (v := 1) hx hb dX6_takeEnd_8 (by decide) ?_
    refine lv_iload_n hx hb dX6_takeEnd_9 rfl (lv_at hl 1 rfl) ?_
    have ho14 : (0 ≤ (fi0 3).toInt ∧ (fi0 3).toInt ≤ 7) ∧ ((fi0 2).toInt = 1 → (fi0 3).toInt ≤ 6) := ⟨⟨by omega, by omega⟩, by omega⟩
    refine z_vV (As := [.int 1, .int p1]) (rest := []) hF (c_X6_blame l D ca sa A rest (zl 0 [(r0 0), (r0 1)]) (zl 0 [(fi0 0), (fi0 1), (fi0 2), (fi0 3), (fi0 4), (fi0 5)]) (zl 0 []) (zl (fun _ => 0) [(fa0 0)]) (zl (fun _ => 0) []) ho14 1 p1) (cwV 2 hts gX6_takeEnd_X6_blame rfl rfl rfl (by decide +kernel) ⟨Nat.le_of_ble_eq_true rfl, Nat.le_of_ble_eq_true rfl⟩) hE hP hD hS 6 0 rfl rfl rfl hl.1 rfl (Nat.le_of_ble_eq_true rfl) dX6_takeEnd_10 ⟨Nat.zero_le _, Nat.zero_le _⟩ (fun u15 H locs hw17 hP hD hS => ?_)
    obtain ⟨im18, lm18, am18, bm18⟩ := u15
    have hw17 : (Ok_RDR im18 am18) := hw17
    obtain ⟨⟨hm18i3, hm18j3⟩, hm18x0⟩ := hw17
    have hP : va_P D vwCl (((r0 0), .inr (6, [.ref (r0 1), .int (im18 0), .int (im18 1), .int (im18 2), .int (im18 3), .int (im18 4), .int (im18 5)])) :: ((r0 1), .inl (ca 0, 8, .inl (am18 0))) :: rest) H := hP
    have hD : va_D A (((r0 0), .inr (6, [.ref (r0 1), .int (im18 0), .int (im18 1), .int (im18 2), .int (im18 3), .int (im18 4), .int (im18 5)])) :: ((r0 1), .inl (ca 0, 8, .inl (am18 0))) :: rest) := hD
    refine lv_goto (tgt := 37) hx hb dX6_takeEnd_13 (by decide) ?_
    subst hQ9
    have ho19 : (0 ≤ (im18 3).toInt ∧ (im18 3).toInt ≤ 7) ∧ ((im18 2).toInt = 1 → (im18 3).toInt ≤ 6) := ⟨⟨by omega, by omega⟩, by omega⟩
    exact W.vret hx hb hr (fun t ht hW => ⟨⟨((zl 0 [(im18 0), (im18 1), (im18 2), (im18 3), (im18 4), (im18 5)]), (zl 0 []), (zl (fun _ => 0) [(am18 0)]), (zl (fun _ => 0) [])), rfl, ho19, ⟨by rw [ht]; exact hP, hD⟩⟩, hS.F ht⟩) hS.2.2 dX6_takeEnd_37

set_option maxHeartbeats 8000000 in
set_option maxRecDepth 100000 in
theorem c_X6_takeToken (l : Launch) (D : va_G) (ca : Nat → ClassId) (sa : Nat → Nat) (A : Nat → Prop) (rest : va_W) (r0 : Nat → Nat) (r1 : Nat → Nat) (fi0 : Nat → Int32) (fl0 : Nat → Int64) (fa0 : Nat → Nat → Int32) (fb0 : Nat → Nat → Int64) (hv0 : Ok_RDR fi0 fa0) (fi1 : Nat → Int32) (fl1 : Nat → Int64) (fa1 : Nat → Nat → Int32) (fb1 : Nat → Nat → Int64) (hv1 : Ok_TAPE fi1 fa1) (p2 : Int32) (p3 : Int32) (hpre0 : 0 ≤ p2.toInt ∧ p2.toInt ≤ 599) (hpre1 : p3.toInt ≤ 600) : Met l yX6_takeToken wsX6_takeToken ({ frames := 5, cells := 0, slots := 0, locals := 112 }) (va_Pc [.ref (r0 0), .ref (r1 0), .int p2, .int p3] (zPre D ca sa A (w_RDR ca r0 fi0 fl0 fa0 fb0 (w_TAPE ca r1 fi1 fl1 fa1 fb1 (rest))))) (va_Qv (fun (u : zS) => Ok_RDR u.1 u.2.2.1) (fun u t => zPost D A (w_RDR ca r0 u.1 u.2.1 u.2.2.1 u.2.2.2 (w_TAPE ca r1 fi1 fl1 fa1 fb1 (rest))) t) A) 0 0 A := by
  refine Met.ofW (cc := cX6_takeToken) (maxL := 4) (ret := none) (by decide) rfl ?_
  intro p e s m args below meth c s₁ B hml hv9
  obtain ⟨rfl, hE, hP, hD⟩ := hv9
  have hx := B.exec
  have hb := B.bytes
  have hr := B.returns
  have hts := atoms_spec (ws := wsX6_takeToken) B.pre
  have hown : s.vm.findClass RX6 = some m.cls := findClass_of_methodNamed B.named
  have hlocks := B.notSynchronized
  have hK := hE.1
  have hF : CallFix p m c cX6_takeToken 4 s _ wsX6_takeToken RX6 := ⟨hx, hb, hml, hown, hts⟩
  have hS : va_S A s.heap s.heap [] := va_S.rf
  have lk31 := hts (.fieldLink RX6 31 "BranchPlay$Reader" "awaited" "I") (by decide +kernel)
  have inX6 : ∀ w ∈ wsX60, w ∈ wsX6_takeToken := by decide +kernel
  obtain ⟨⟨hv0i3, hv0j3⟩, hv0x0⟩ := hv0
  obtain ⟨hv1i0, hv1j0⟩ := hv1
  generalize hHe : s.heap = H at hP
  have hS : va_S A s.heap H [] := by rw [← hHe]; exact hS
  have hP : va_P D vwCl (((r0 0), .inr (6, [.ref (r0 1), .int (fi0 0), .int (fi0 1), .int (fi0 2), .int (fi0 3), .int (fi0 4), .int (fi0 5)])) :: ((r0 1), .inl (ca 0, 8, .inl (fa0 0))) :: ((r1 0), .inr (7, [.ref (r1 1), .int (fi1 0)])) :: ((r1 1), .inl (ca 2, 600, .inl (fa1 0))) :: rest) H := hP
  have hD : va_D A (((r0 0), .inr (6, [.ref (r0 1), .int (fi0 0), .int (fi0 1), .int (fi0 2), .int (fi0 3), .int (fi0 4), .int (fi0 5)])) :: ((r0 1), .inl (ca 0, 8, .inl (fa0 0))) :: ((r1 0), .inr (7, [.ref (r1 1), .int (fi1 0)])) :: ((r1 1), .inl (ca 2, 600, .inl (fa1 0))) :: rest) := hD
  have hl := lv_entry ([.ref (r0 0), .ref (r1 0), .int p2, .int p3]) (n := 4) (Nat.le_of_ble_eq_true rfl)
  rw [lg_entry_eq]
  generalize (lg_sl ([.ref (r0 0), .ref (r1 0), .int p2, .int p3]) ++ List.replicate (4 - (lg_sl ([.ref (r0 0), .ref (r1 0), .int p2, .int p3])).length) Slot.unset).toArray = ls at hl ⊢
  have hl : lv_has ls 4 [(0, .ref (r0 0)), (1, .ref (r1 0)), (2, .int p2), (3, .int p3)] := hl
  generalize hQ9 : MQ below _ _ s 0 0 A = Q9
  refine lv_aload_n hx hb dX6_takeToken_0 rfl (lv_at hl 0 rfl) ?_
  refine va_get (D := D) (ci := 6) (v := .int (fi0 2)) (C := RX6) (T := TX6) (N := 7) hx hb hts inX6 hown hK hP 0 rfl rfl 3 (by decide) lk31 (fun _ h9 => h9) rfl dX6_takeToken_1 ?_
  by_cases c1 : (fi0 2).toInt = 0
  ·
    refine lv_tableIn (tgt := 32) hx hb dX6_takeToken_4 (by omega) (by omega) (by rw [c1]; rfl) (by decide) ?_
    refine lv_aload_n hx hb dX6_takeToken_32 rfl (lv_at hl 0 rfl) ?_
    refine lv_aload_n hx hb dX6_takeToken_33 rfl (lv_at hl 1 rfl) ?_
    refine lv_iload_n hx hb dX6_takeToken_34 rfl (lv_at hl 2 rfl) ?_
    refine lv_iload_n hx hb dX6_takeToken_35 rfl (lv_at hl 3 rfl) ?_
    have ho2 : (0 ≤ (fi1 0).toInt ∧ (fi1 0).toInt ≤ 600) := ⟨by omega, by omega⟩
    have hp3 : 0 ≤ p2.toInt ∧ p2.toInt ≤ 599 := by omega
    have hp4 : p3.toInt ≤ 600 := by omega
    have hP9 := va_P.part (pl := rest) (X := [((r0 0), .inr (6, [.ref (r0 1), .int (fi0 0), .int (fi0 1), .int (fi0 2), .int (fi0 3), .int (fi0 4), .int (fi0 5)])), ((r0 1), .inl (ca 0, 8, .inl (fa0 0))), ((r1 0), .inr (7, [.ref (r1 1), .int (fi1 0)])), ((r1 1), .inl (ca 2, 600, .inl (fa1 0)))]) (cx := [((r1 0), .inr (7, [.ref (r1 1), .int (fi1 0)])), ((r1 1), .inl (ca 2, 600, .inl (fa1 0))), ((r0 0), .inr (6, [.ref (r0 1), .int (fi0 0), .int (fi0 1), .int (fi0 2), .int (fi0 3), .int (fi0 4), .int (fi0 5)])), ((r0 1), .inl (ca 0, 8, .inl (fa0 0)))]) hP [2, 3, 0, 1] rfl
    have hD9 := va_D.part (pl := rest) (X := [((r0 0), .inr (6, [.ref (r0 1), .int (fi0 0), .int (fi0 1), .int (fi0 2), .int (fi0 3), .int (fi0 4), .int (fi0 5)])), ((r0 1), .inl (ca 0, 8, .inl (fa0 0))), ((r1 0), .inr (7, [.ref (r1 1), .int (fi1 0)])), ((r1 1), .inl (ca 2, 600, .inl (fa1 0)))]) (cx := [((r1 0), .inr (7, [.ref (r1 1), .int (fi1 0)])), ((r1 1), .inl (ca 2, 600, .inl (fa1 0))), ((r0 0), .inr (6, [.ref (r0 1), .int (fi0 0), .int (fi0 1), .int (fi0 2), .int (fi0 3), .int (fi0 4), .int (fi0 5)])), ((r0 1), .inl (ca 0, 8, .inl (fa0 0)))]) hD [2, 3, 0, 1] (by decide) rfl
    refine z_iV (As := [.int p2, .int p3]) (rest := [.ref (r0 0)]) hF (c_X7_wordAt l D ca sa A (((r0 0), .inr (6, [.ref (r0 1), .int (fi0 0), .int (fi0 1), .int (fi0 2), .int (fi0 3), .int (fi0 4), .int (fi0 5)])) :: ((r0 1), .inl (ca 0, 8, .inl (fa0 0))) :: rest) (zl 0 [(r1 0), (r1 1)]) (zl 0 [(fi1 0)]) (zl 0 []) (zl (fun _ => 0) [(fa1 0)]) (zl (fun _ => 0) []) ho2 p2 p3 hp3 hp4) (cwV 2 hts gX6_takeToken_X7_wordAt rfl rfl rfl (by decide +kernel) ⟨Nat.le_of_ble_eq_true rfl, Nat.le_of_ble_eq_true rfl⟩) hE hP9 hD9 hS 7 0 rfl rfl rfl hl.1 rfl (Nat.le_of_ble_eq_true rfl) dX6_takeToken_36 ⟨Nat.zero_le _, Nat.zero_le _⟩ (fun t6 u5 H locs hw7 hP hD hS => ?_)
    have hP := va_P.part (pl := rest) (X := [((r1 0), .inr (7, [.ref (r1 1), .int (fi1 0)])), ((r1 1), .inl (ca 2, 600, .inl (fa1 0))), ((r0 0), .inr (6, [.ref (r0 1), .int (fi0 0), .int (fi0 1), .int (fi0 2), .int (fi0 3), .int (fi0 4), .int (fi0 5)])), ((r0 1), .inl (ca 0, 8, .inl (fa0 0)))]) (cx := [((r0 0), .inr (6, [.ref (r0 1), .int (fi0 0), .int (fi0 1), .int (fi0 2), .int (fi0 3), .int (fi0 4), .int (fi0 5)])), ((r0 1), .inl (ca 0, 8, .inl (fa0 0))), ((r1 0), .inr (7, [.ref (r1 1), .int (fi1 0)])), ((r1 1), .inl (ca 2, 600, .inl (fa1 0)))]) hP [2, 3, 0, 1] rfl
    have hD := va_D.part (pl := rest) (X := [((r1 0), .inr (7, [.ref (r1 1), .int (fi1 0)])), ((r1 1), .inl (ca 2, 600, .inl (fa1 0))), ((r0 0), .inr (6, [.ref (r0 1), .int (fi0 0), .int (fi0 1), .int (fi0 2), .int (fi0 3), .int (fi0 4), .int (fi0 5)])), ((r0 1), .inl (ca 0, 8, .inl (fa0 0)))]) (cx := [((r0 0), .inr (6, [.ref (r0 1), .int (fi0 0), .int (fi0 1), .int (fi0 2), .int (fi0 3), .int (fi0 4), .int (fi0 5)])), ((r0 1), .inl (ca 0, 8, .inl (fa0 0))), ((r1 0), .inr (7, [.ref (r1 1), .int (fi1 0)])), ((r1 1), .inl (ca 2, 600, .inl (fa1 0)))]) hD [2, 3, 0, 1] (by decide) rfl
    have hP : va_P D vwCl (((r0 0), .inr (6, [.ref (r0 1), .int (fi0 0), .int (fi0 1), .int (fi0 2), .int (fi0 3), .int (fi0 4), .int (fi0 5)])) :: ((r0 1), .inl (ca 0, 8, .inl (fa0 0))) :: ((r1 0), .inr (7, [.ref (r1 1), .int (fi1 0)])) :: ((r1 1), .inl (ca 2, 600, .inl (fa1 0))) :: rest) H := hP
    have hD : va_D A (((r0 0), .inr (6, [.ref (r0 1), .int (fi0 0), .int (fi0 1), .int (fi0 2), .int (fi0 3), .int (fi0 4), .int (fi0 5)])) :: ((r0 1), .inl (ca 0, 8, .inl (fa0 0))) :: ((r1 0), .inr (7, [.ref (r1 1), .int (fi1 0)])) :: ((r1 1), .inl (ca 2, 600, .inl (fa1 0))) :: rest) := hD
    refine lv_iload_n hx hb dX6_takeToken_39 rfl (lv_at hl 2 rfl) ?_
    have ho8 : (0 ≤ (fi0 3).toInt ∧ (fi0 3).toInt ≤ 7) ∧ ((fi0 2).toInt = 1 → (fi0 3).toInt ≤ 6) := ⟨⟨by omega, by omega⟩, by omega⟩
    refine z_vV (As := [.int t6, .int p2]) (rest := []) hF (c_X6_takeLineWord l D ca sa A (((r1 0), .inr (7, [.ref (r1 1), .int (fi1 0)])) :: ((r1 1), .inl (ca 2, 600, .inl (fa1 0))) :: rest) (zl 0 [(r0 0), (r0 1)]) (zl 0 [(fi0 0), (fi0 1), (fi0 2), (fi0 3), (fi0 4), (fi0 5)]) (zl 0 []) (zl (fun _ => 0) [(fa0 0)]) (zl (fun _ => 0) []) ho8 t6 p2) (cwV 2 hts gX6_takeToken_X6_takeLineWord rfl rfl rfl (by decide +kernel) ⟨Nat.le_of_ble_eq_true rfl, Nat.le_of_ble_eq_true rfl⟩) hE hP hD hS 6 0 rfl rfl rfl hl.1 rfl (Nat.le_of_ble_eq_true rfl) dX6_takeToken_40 ⟨Nat.zero_le _, Nat.zero_le _⟩ (fun u9 H locs hw11 hP hD hS => ?_)
    obtain ⟨im12, lm12, am12, bm12⟩ := u9
    have hw11 : (Ok_RDR im12 am12) := hw11
    obtain ⟨⟨hm12i3, hm12j3⟩, hm12x0⟩ := hw11
    have hP : va_P D vwCl (((r0 0), .inr (6, [.ref (r0 1), .int (im12 0), .int (im12 1), .int (im12 2), .int (im12 3), .int (im12 4), .int (im12 5)])) :: ((r0 1), .inl (ca 0, 8, .inl (am12 0))) :: ((r1 0), .inr (7, [.ref (r1 1), .int (fi1 0)])) :: ((r1 1), .inl (ca 2, 600, .inl (fa1 0))) :: rest) H := hP
    have hD : va_D A (((r0 0), .inr (6, [.ref (r0 1), .int (im12 0), .int (im12 1), .int (im12 2), .int (im12 3), .int (im12 4), .int (im12 5)])) :: ((r0 1), .inl (ca 0, 8, .inl (am12 0))) :: ((r1 0), .inr (7, [.ref (r1 1), .int (fi1 0)])) :: ((r1 1), .inl (ca 2, 600, .inl (fa1 0))) :: rest) := hD
    refine lv_goto (tgt := 84) hx hb dX6_takeToken_43 (by decide) ?_
    subst hQ9
    have ho13 : (0 ≤ (im12 3).toInt ∧ (im12 3).toInt ≤ 7) ∧ ((im12 2).toInt = 1 → (im12 3).toInt ≤ 6) := ⟨⟨by omega, by omega⟩, by omega⟩
    exact W.vret hx hb hr (fun t ht hW => ⟨⟨((zl 0 [(im12 0), (im12 1), (im12 2), (im12 3), (im12 4), (im12 5)]), (zl 0 []), (zl (fun _ => 0) [(am12 0)]), (zl (fun _ => 0) [])), rfl, ho13, ⟨by rw [ht]; exact hP, hD⟩⟩, hS.F ht⟩) hS.2.2 dX6_takeToken_84
  by_cases c14 : (fi0 2).toInt = 1
  ·
    refine lv_tableIn (tgt := 46) hx hb dX6_takeToken_4 (by omega) (by omega) (by rw [c14]; rfl) (by decide) ?_
    refine lv_aload_n hx hb dX6_takeToken_46 rfl (lv_at hl 0 rfl) ?_
    refine lv_aload_n hx hb dX6_takeToken_47 rfl (lv_at hl 1 rfl) ?_
    refine lv_iload_n hx hb dX6_takeToken_48 rfl (lv_at hl 2 rfl) ?_
    refine lv_iload_n hx hb dX6_takeToken_49 rfl (lv_at hl 3 rfl) ?_
    have ho15 : (0 ≤ (fi1 0).toInt ∧ (fi1 0).toInt ≤ 600) := ⟨by omega, by omega⟩
    have hp16 : 0 ≤ p2.toInt ∧ p2.toInt ≤ 599 := by omega
    have hp17 : p3.toInt ≤ 600 := by omega
    have hP9 := va_P.part (pl := rest) (X := [((r0 0), .inr (6, [.ref (r0 1), .int (fi0 0), .int (fi0 1), .int (fi0 2), .int (fi0 3), .int (fi0 4), .int (fi0 5)])), ((r0 1), .inl (ca 0, 8, .inl (fa0 0))), ((r1 0), .inr (7, [.ref (r1 1), .int (fi1 0)])), ((r1 1), .inl (ca 2, 600, .inl (fa1 0)))]) (cx := [((r1 0), .inr (7, [.ref (r1 1), .int (fi1 0)])), ((r1 1), .inl (ca 2, 600, .inl (fa1 0))), ((r0 0), .inr (6, [.ref (r0 1), .int (fi0 0), .int (fi0 1), .int (fi0 2), .int (fi0 3), .int (fi0 4), .int (fi0 5)])), ((r0 1), .inl (ca 0, 8, .inl (fa0 0)))]) hP [2, 3, 0, 1] rfl
    have hD9 := va_D.part (pl := rest) (X := [((r0 0), .inr (6, [.ref (r0 1), .int (fi0 0), .int (fi0 1), .int (fi0 2), .int (fi0 3), .int (fi0 4), .int (fi0 5)])), ((r0 1), .inl (ca 0, 8, .inl (fa0 0))), ((r1 0), .inr (7, [.ref (r1 1), .int (fi1 0)])), ((r1 1), .inl (ca 2, 600, .inl (fa1 0)))]) (cx := [((r1 0), .inr (7, [.ref (r1 1), .int (fi1 0)])), ((r1 1), .inl (ca 2, 600, .inl (fa1 0))), ((r0 0), .inr (6, [.ref (r0 1), .int (fi0 0), .int (fi0 1), .int (fi0 2), .int (fi0 3), .int (fi0 4), .int (fi0 5)])), ((r0 1), .inl (ca 0, 8, .inl (fa0 0)))]) hD [2, 3, 0, 1] (by decide) rfl
    refine z_iV (As := [.int p2, .int p3]) (rest := [.ref (r0 0)]) hF (c_X7_numberAt l D ca sa A (((r0 0), .inr (6, [.ref (r0 1), .int (fi0 0), .int (fi0 1), .int (fi0 2), .int (fi0 3), .int (fi0 4), .int (fi0 5)])) :: ((r0 1), .inl (ca 0, 8, .inl (fa0 0))) :: rest) (zl 0 [(r1 0), (r1 1)]) (zl 0 [(fi1 0)]) (zl 0 []) (zl (fun _ => 0) [(fa1 0)]) (zl (fun _ => 0) []) ho15 p2 p3 hp16 hp17) (cwV 2 hts gX6_takeToken_X7_numberAt rfl rfl rfl (by decide +kernel) ⟨Nat.le_of_ble_eq_true rfl, Nat.le_of_ble_eq_true rfl⟩) hE hP9 hD9 hS 7 0 rfl rfl rfl hl.1 rfl (Nat.le_of_ble_eq_true rfl) dX6_takeToken_50 ⟨Nat.zero_le _, Nat.zero_le _⟩ (fun t19 u18 H locs hw20 hP hD hS => ?_)
    have hP := va_P.part (pl := rest) (X := [((r1 0), .inr (7, [.ref (r1 1), .int (fi1 0)])), ((r1 1), .inl (ca 2, 600, .inl (fa1 0))), ((r0 0), .inr (6, [.ref (r0 1), .int (fi0 0), .int (fi0 1), .int (fi0 2), .int (fi0 3), .int (fi0 4), .int (fi0 5)])), ((r0 1), .inl (ca 0, 8, .inl (fa0 0)))]) (cx := [((r0 0), .inr (6, [.ref (r0 1), .int (fi0 0), .int (fi0 1), .int (fi0 2), .int (fi0 3), .int (fi0 4), .int (fi0 5)])), ((r0 1), .inl (ca 0, 8, .inl (fa0 0))), ((r1 0), .inr (7, [.ref (r1 1), .int (fi1 0)])), ((r1 1), .inl (ca 2, 600, .inl (fa1 0)))]) hP [2, 3, 0, 1] rfl
    have hD := va_D.part (pl := rest) (X := [((r1 0), .inr (7, [.ref (r1 1), .int (fi1 0)])), ((r1 1), .inl (ca 2, 600, .inl (fa1 0))), ((r0 0), .inr (6, [.ref (r0 1), .int (fi0 0), .int (fi0 1), .int (fi0 2), .int (fi0 3), .int (fi0 4), .int (fi0 5)])), ((r0 1), .inl (ca 0, 8, .inl (fa0 0)))]) (cx := [((r0 0), .inr (6, [.ref (r0 1), .int (fi0 0), .int (fi0 1), .int (fi0 2), .int (fi0 3), .int (fi0 4), .int (fi0 5)])), ((r0 1), .inl (ca 0, 8, .inl (fa0 0))), ((r1 0), .inr (7, [.ref (r1 1), .int (fi1 0)])), ((r1 1), .inl (ca 2, 600, .inl (fa1 0)))]) hD [2, 3, 0, 1] (by decide) rfl
    have hP : va_P D vwCl (((r0 0), .inr (6, [.ref (r0 1), .int (fi0 0), .int (fi0 1), .int (fi0 2), .int (fi0 3), .int (fi0 4), .int (fi0 5)])) :: ((r0 1), .inl (ca 0, 8, .inl (fa0 0))) :: ((r1 0), .inr (7, [.ref (r1 1), .int (fi1 0)])) :: ((r1 1), .inl (ca 2, 600, .inl (fa1 0))) :: rest) H := hP
    have hD : va_D A (((r0 0), .inr (6, [.ref (r0 1), .int (fi0 0), .int (fi0 1), .int (fi0 2), .int (fi0 3), .int (fi0 4), .int (fi0 5)])) :: ((r0 1), .inl (ca 0, 8, .inl (fa0 0))) :: ((r1 0), .inr (7, [.ref (r1 1), .int (fi1 0)])) :: ((r1 1), .inl (ca 2, 600, .inl (fa1 0))) :: rest) := hD
    refine lv_iload_n hx hb dX6_takeToken_53 rfl (lv_at hl 2 rfl) ?_
    have ho21 : (0 ≤ (fi0 3).toInt ∧ (fi0 3).toInt ≤ 7) ∧ ((fi0 2).toInt = 1 → (fi0 3).toInt ≤ 6) := ⟨⟨by omega, by omega⟩, by omega⟩
    have hp22 : (fi0 2).toInt = 1 := by omega
    refine z_vV (As := [.int t19, .int p2]) (rest := []) hF (c_X6_takeNumber l D ca sa A (((r1 0), .inr (7, [.ref (r1 1), .int (fi1 0)])) :: ((r1 1), .inl (ca 2, 600, .inl (fa1 0))) :: rest) (zl 0 [(r0 0), (r0 1)]) (zl 0 [(fi0 0), (fi0 1), (fi0 2), (fi0 3), (fi0 4), (fi0 5)]) (zl 0 []) (zl (fun _ => 0) [(fa0 0)]) (zl (fun _ => 0) []) ho21 t19 p2 hp22) (cwV 2 hts gX6_takeToken_X6_takeNumber rfl rfl rfl (by decide +kernel) ⟨Nat.le_of_ble_eq_true rfl, Nat.le_of_ble_eq_true rfl⟩) hE hP hD hS 6 0 rfl rfl rfl hl.1 rfl (Nat.le_of_ble_eq_true rfl) dX6_takeToken_54 ⟨Nat.zero_le _, Nat.zero_le _⟩ (fun u23 H locs hw25 hP hD hS => ?_)
    obtain ⟨im26, lm26, am26, bm26⟩ := u23
    have hw25 : (Ok_RDR im26 am26) := hw25
    obtain ⟨⟨hm26i3, hm26j3⟩, hm26x0⟩ := hw25
    have hP : va_P D vwCl (((r0 0), .inr (6, [.ref (r0 1), .int (im26 0), .int (im26 1), .int (im26 2), .int (im26 3), .int (im26 4), .int (im26 5)])) :: ((r0 1), .inl (ca 0, 8, .inl (am26 0))) :: ((r1 0), .inr (7, [.ref (r1 1), .int (fi1 0)])) :: ((r1 1), .inl (ca 2, 600, .inl (fa1 0))) :: rest) H := hP
    have hD : va_D A (((r0 0), .inr (6, [.ref (r0 1), .int (im26 0), .int (im26 1), .int (im26 2), .int (im26 3), .int (im26 4), .int (im26 5)])) :: ((r0 1), .inl (ca 0, 8, .inl (am26 0))) :: ((r1 0), .inr (7, [.ref (r1 1), .int (fi1 0)])) :: ((r1 1), .inl (ca 2, 600, .inl (fa1 0))) :: rest) := hD
    refine lv_goto (tgt := 84) hx hb dX6_takeToken_57 (by decide) ?_
    subst hQ9
    have ho27 : (0 ≤ (im26 3).toInt ∧ (im26 3).toInt ≤ 7) ∧ ((im26 2).toInt = 1 → (im26 3).toInt ≤ 6) := ⟨⟨by omega, by omega⟩, by omega⟩
    exact W.vret hx hb hr (fun t ht hW => ⟨⟨((zl 0 [(im26 0), (im26 1), (im26 2), (im26 3), (im26 4), (im26 5)]), (zl 0 []), (zl (fun _ => 0) [(am26 0)]), (zl (fun _ => 0) [])), rfl, ho27, ⟨by rw [ht]; exact hP, hD⟩⟩, hS.F ht⟩) hS.2.2 dX6_takeToken_84
  by_cases c28 : (fi0 2).toInt = 2
  ·
    refine lv_tableIn (tgt := 60) hx hb dX6_takeToken_4 (by omega) (by omega) (by rw [c28]; rfl) (by decide) ?_
    refine lv_aload_n hx hb dX6_takeToken_60 rfl (lv_at hl 0 rfl) ?_
    refine lv_aload_n hx hb dX6_takeToken_61 rfl (lv_at hl 1 rfl) ?_
    refine lv_iload_n hx hb dX6_takeToken_62 rfl (lv_at hl 2 rfl) ?_
    refine lv_iload_n hx hb dX6_takeToken_63 rfl (lv_at hl 3 rfl) ?_
    have ho29 : (0 ≤ (fi1 0).toInt ∧ (fi1 0).toInt ≤ 600) := ⟨by omega, by omega⟩
    have hp30 : 0 ≤ p2.toInt ∧ p2.toInt ≤ 599 := by omega
    have hp31 : p3.toInt ≤ 600 := by omega
    have hP9 := va_P.part (pl := rest) (X := [((r0 0), .inr (6, [.ref (r0 1), .int (fi0 0), .int (fi0 1), .int (fi0 2), .int (fi0 3), .int (fi0 4), .int (fi0 5)])), ((r0 1), .inl (ca 0, 8, .inl (fa0 0))), ((r1 0), .inr (7, [.ref (r1 1), .int (fi1 0)])), ((r1 1), .inl (ca 2, 600, .inl (fa1 0)))]) (cx := [((r1 0), .inr (7, [.ref (r1 1), .int (fi1 0)])), ((r1 1), .inl (ca 2, 600, .inl (fa1 0))), ((r0 0), .inr (6, [.ref (r0 1), .int (fi0 0), .int (fi0 1), .int (fi0 2), .int (fi0 3), .int (fi0 4), .int (fi0 5)])), ((r0 1), .inl (ca 0, 8, .inl (fa0 0)))]) hP [2, 3, 0, 1] rfl
    have hD9 := va_D.part (pl := rest) (X := [((r0 0), .inr (6, [.ref (r0 1), .int (fi0 0), .int (fi0 1), .int (fi0 2), .int (fi0 3), .int (fi0 4), .int (fi0 5)])), ((r0 1), .inl (ca 0, 8, .inl (fa0 0))), ((r1 0), .inr (7, [.ref (r1 1), .int (fi1 0)])), ((r1 1), .inl (ca 2, 600, .inl (fa1 0)))]) (cx := [((r1 0), .inr (7, [.ref (r1 1), .int (fi1 0)])), ((r1 1), .inl (ca 2, 600, .inl (fa1 0))), ((r0 0), .inr (6, [.ref (r0 1), .int (fi0 0), .int (fi0 1), .int (fi0 2), .int (fi0 3), .int (fi0 4), .int (fi0 5)])), ((r0 1), .inl (ca 0, 8, .inl (fa0 0)))]) hD [2, 3, 0, 1] (by decide) rfl
    refine z_iV (As := [.int p2, .int p3]) (rest := [.ref (r0 0)]) hF (c_X7_wordAt l D ca sa A (((r0 0), .inr (6, [.ref (r0 1), .int (fi0 0), .int (fi0 1), .int (fi0 2), .int (fi0 3), .int (fi0 4), .int (fi0 5)])) :: ((r0 1), .inl (ca 0, 8, .inl (fa0 0))) :: rest) (zl 0 [(r1 0), (r1 1)]) (zl 0 [(fi1 0)]) (zl 0 []) (zl (fun _ => 0) [(fa1 0)]) (zl (fun _ => 0) []) ho29 p2 p3 hp30 hp31) (cwV 2 hts gX6_takeToken_X7_wordAt rfl rfl rfl (by decide +kernel) ⟨Nat.le_of_ble_eq_true rfl, Nat.le_of_ble_eq_true rfl⟩) hE hP9 hD9 hS 7 0 rfl rfl rfl hl.1 rfl (Nat.le_of_ble_eq_true rfl) dX6_takeToken_64 ⟨Nat.zero_le _, Nat.zero_le _⟩ (fun t33 u32 H locs hw34 hP hD hS => ?_)
    have hP := va_P.part (pl := rest) (X := [((r1 0), .inr (7, [.ref (r1 1), .int (fi1 0)])), ((r1 1), .inl (ca 2, 600, .inl (fa1 0))), ((r0 0), .inr (6, [.ref (r0 1), .int (fi0 0), .int (fi0 1), .int (fi0 2), .int (fi0 3), .int (fi0 4), .int (fi0 5)])), ((r0 1), .inl (ca 0, 8, .inl (fa0 0)))]) (cx := [((r0 0), .inr (6, [.ref (r0 1), .int (fi0 0), .int (fi0 1), .int (fi0 2), .int (fi0 3), .int (fi0 4), .int (fi0 5)])), ((r0 1), .inl (ca 0, 8, .inl (fa0 0))), ((r1 0), .inr (7, [.ref (r1 1), .int (fi1 0)])), ((r1 1), .inl (ca 2, 600, .inl (fa1 0)))]) hP [2, 3, 0, 1] rfl
    have hD := va_D.part (pl := rest) (X := [((r1 0), .inr (7, [.ref (r1 1), .int (fi1 0)])), ((r1 1), .inl (ca 2, 600, .inl (fa1 0))), ((r0 0), .inr (6, [.ref (r0 1), .int (fi0 0), .int (fi0 1), .int (fi0 2), .int (fi0 3), .int (fi0 4), .int (fi0 5)])), ((r0 1), .inl (ca 0, 8, .inl (fa0 0)))]) (cx := [((r0 0), .inr (6, [.ref (r0 1), .int (fi0 0), .int (fi0 1), .int (fi0 2), .int (fi0 3), .int (fi0 4), .int (fi0 5)])), ((r0 1), .inl (ca 0, 8, .inl (fa0 0))), ((r1 0), .inr (7, [.ref (r1 1), .int (fi1 0)])), ((r1 1), .inl (ca 2, 600, .inl (fa1 0)))]) hD [2, 3, 0, 1] (by decide) rfl
    have hP : va_P D vwCl (((r0 0), .inr (6, [.ref (r0 1), .int (fi0 0), .int (fi0 1), .int (fi0 2), .int (fi0 3), .int (fi0 4), .int (fi0 5)])) :: ((r0 1), .inl (ca 0, 8, .inl (fa0 0))) :: ((r1 0), .inr (7, [.ref (r1 1), .int (fi1 0)])) :: ((r1 1), .inl (ca 2, 600, .inl (fa1 0))) :: rest) H := hP
    have hD : va_D A (((r0 0), .inr (6, [.ref (r0 1), .int (fi0 0), .int (fi0 1), .int (fi0 2), .int (fi0 3), .int (fi0 4), .int (fi0 5)])) :: ((r0 1), .inl (ca 0, 8, .inl (fa0 0))) :: ((r1 0), .inr (7, [.ref (r1 1), .int (fi1 0)])) :: ((r1 1), .inl (ca 2, 600, .inl (fa1 0))) :: rest) := hD
    refine lv_iload_n hx hb dX6_takeToken_67 rfl (lv_at hl 2 rfl) ?_
    have ho35 : (0 ≤ (fi0 3).toInt ∧ (fi0 3).toInt ≤ 7) ∧ ((fi0 2).toInt = 1 → (fi0 3).toInt ≤ 6) := ⟨⟨by omega, by omega⟩, by omega⟩
    refine z_vV (As := [.int t33, .int p2]) (rest := []) hF (c_X6_takePick l D ca sa A (((r1 0), .inr (7, [.ref (r1 1), .int (fi1 0)])) :: ((r1 1), .inl (ca 2, 600, .inl (fa1 0))) :: rest) (zl 0 [(r0 0), (r0 1)]) (zl 0 [(fi0 0), (fi0 1), (fi0 2), (fi0 3), (fi0 4), (fi0 5)]) (zl 0 []) (zl (fun _ => 0) [(fa0 0)]) (zl (fun _ => 0) []) ho35 t33 p2) (cwV 2 hts gX6_takeToken_X6_takePick rfl rfl rfl (by decide +kernel) ⟨Nat.le_of_ble_eq_true rfl, Nat.le_of_ble_eq_true rfl⟩) hE hP hD hS 6 0 rfl rfl rfl hl.1 rfl (Nat.le_of_ble_eq_true rfl) dX6_takeToken_68 ⟨Nat.zero_le _, Nat.zero_le _⟩ (fun u36 H locs hw38 hP hD hS => ?_)
    obtain ⟨im39, lm39, am39, bm39⟩ := u36
    have hw38 : (Ok_RDR im39 am39) := hw38
    obtain ⟨⟨hm39i3, hm39j3⟩, hm39x0⟩ := hw38
    have hP : va_P D vwCl (((r0 0), .inr (6, [.ref (r0 1), .int (im39 0), .int (im39 1), .int (im39 2), .int (im39 3), .int (im39 4), .int (im39 5)])) :: ((r0 1), .inl (ca 0, 8, .inl (am39 0))) :: ((r1 0), .inr (7, [.ref (r1 1), .int (fi1 0)])) :: ((r1 1), .inl (ca 2, 600, .inl (fa1 0))) :: rest) H := hP
    have hD : va_D A (((r0 0), .inr (6, [.ref (r0 1), .int (im39 0), .int (im39 1), .int (im39 2), .int (im39 3), .int (im39 4), .int (im39 5)])) :: ((r0 1), .inl (ca 0, 8, .inl (am39 0))) :: ((r1 0), .inr (7, [.ref (r1 1), .int (fi1 0)])) :: ((r1 1), .inl (ca 2, 600, .inl (fa1 0))) :: rest) := hD
    refine lv_goto (tgt := 84) hx hb dX6_takeToken_71 (by decide) ?_
    subst hQ9
    have ho40 : (0 ≤ (im39 3).toInt ∧ (im39 3).toInt ≤ 7) ∧ ((im39 2).toInt = 1 → (im39 3).toInt ≤ 6) := ⟨⟨by omega, by omega⟩, by omega⟩
    exact W.vret hx hb hr (fun t ht hW => ⟨⟨((zl 0 [(im39 0), (im39 1), (im39 2), (im39 3), (im39 4), (im39 5)]), (zl 0 []), (zl (fun _ => 0) [(am39 0)]), (zl (fun _ => 0) [])), rfl, ho40, ⟨by rw [ht]; exact hP, hD⟩⟩, hS.F ht⟩) hS.2.2 dX6_takeToken_84
  refine lv_tableOut (tgt := 74) hx hb dX6_takeToken_4 (by omega) (by decide) ?_
  refine lv_aload_n hx hb dX6_takeToken_74 rfl (lv_at hl 0 rfl) ?_
  refine lv_aload_n hx hb dX6_takeToken_75 rfl (lv_at hl 1 rfl) ?_
  refine lv_iload_n hx hb dX6_takeToken_76 rfl (lv_at hl 2 rfl) ?_
  have ho41 : (0 ≤ (fi1 0).toInt ∧ (fi1 0).toInt ≤ 600) := ⟨by omega, by omega⟩
  have hp42 : 0 ≤ p2.toInt ∧ p2.toInt ≤ 599 := by omega
  have hP9 := va_P.part (pl := rest) (X := [((r0 0), .inr (6, [.ref (r0 1), .int (fi0 0), .int (fi0 1), .int (fi0 2), .int (fi0 3), .int (fi0 4), .int (fi0 5)])), ((r0 1), .inl (ca 0, 8, .inl (fa0 0))), ((r1 0), .inr (7, [.ref (r1 1), .int (fi1 0)])), ((r1 1), .inl (ca 2, 600, .inl (fa1 0)))]) (cx := [((r1 0), .inr (7, [.ref (r1 1), .int (fi1 0)])), ((r1 1), .inl (ca 2, 600, .inl (fa1 0))), ((r0 0), .inr (6, [.ref (r0 1), .int (fi0 0), .int (fi0 1), .int (fi0 2), .int (fi0 3), .int (fi0 4), .int (fi0 5)])), ((r0 1), .inl (ca 0, 8, .inl (fa0 0)))]) hP [2, 3, 0, 1] rfl
  have hD9 := va_D.part (pl := rest) (X := [((r0 0), .inr (6, [.ref (r0 1), .int (fi0 0), .int (fi0 1), .int (fi0 2), .int (fi0 3), .int (fi0 4), .int (fi0 5)])), ((r0 1), .inl (ca 0, 8, .inl (fa0 0))), ((r1 0), .inr (7, [.ref (r1 1), .int (fi1 0)])), ((r1 1), .inl (ca 2, 600, .inl (fa1 0)))]) (cx := [((r1 0), .inr (7, [.ref (r1 1), .int (fi1 0)])), ((r1 1), .inl (ca 2, 600, .inl (fa1 0))), ((r0 0), .inr (6, [.ref (r0 1), .int (fi0 0), .int (fi0 1), .int (fi0 2), .int (fi0 3), .int (fi0 4), .int (fi0 5)])), ((r0 1), .inl (ca 0, 8, .inl (fa0 0)))]) hD [2, 3, 0, 1] (by decide) rfl
  refine z_iV (As := [.int p2]) (rest := [.ref (r0 0)]) hF (c_X7_isSemicolon l D ca sa A (((r0 0), .inr (6, [.ref (r0 1), .int (fi0 0), .int (fi0 1), .int (fi0 2), .int (fi0 3), .int (fi0 4), .int (fi0 5)])) :: ((r0 1), .inl (ca 0, 8, .inl (fa0 0))) :: rest) (zl 0 [(r1 0), (r1 1)]) (zl 0 [(fi1 0)]) (zl 0 []) (zl (fun _ => 0) [(fa1 0)]) (zl (fun _ => 0) []) ho41 p2 hp42) (cwV 1 hts gX6_takeToken_X7_isSemicolon rfl rfl rfl (by decide +kernel) ⟨Nat.le_of_ble_eq_true rfl, Nat.le_of_ble_eq_true rfl⟩) hE hP9 hD9 hS 7 0 rfl rfl rfl hl.1 rfl (Nat.le_of_ble_eq_true rfl) dX6_takeToken_77 ⟨Nat.zero_le _, Nat.zero_le _⟩ (fun t44 u43 H locs hw45 hP hD hS => ?_)
  have hw45 : (0 ≤ t44.toInt ∧ t44.toInt ≤ 1) := hw45
  obtain hq46 := hw45
  have hP := va_P.part (pl := rest) (X := [((r1 0), .inr (7, [.ref (r1 1), .int (fi1 0)])), ((r1 1), .inl (ca 2, 600, .inl (fa1 0))), ((r0 0), .inr (6, [.ref (r0 1), .int (fi0 0), .int (fi0 1), .int (fi0 2), .int (fi0 3), .int (fi0 4), .int (fi0 5)])), ((r0 1), .inl (ca 0, 8, .inl (fa0 0)))]) (cx := [((r0 0), .inr (6, [.ref (r0 1), .int (fi0 0), .int (fi0 1), .int (fi0 2), .int (fi0 3), .int (fi0 4), .int (fi0 5)])), ((r0 1), .inl (ca 0, 8, .inl (fa0 0))), ((r1 0), .inr (7, [.ref (r1 1), .int (fi1 0)])), ((r1 1), .inl (ca 2, 600, .inl (fa1 0)))]) hP [2, 3, 0, 1] rfl
  have hD := va_D.part (pl := rest) (X := [((r1 0), .inr (7, [.ref (r1 1), .int (fi1 0)])), ((r1 1), .inl (ca 2, 600, .inl (fa1 0))), ((r0 0), .inr (6, [.ref (r0 1), .int (fi0 0), .int (fi0 1), .int (fi0 2), .int (fi0 3), .int (fi0 4), .int (fi0 5)])), ((r0 1), .inl (ca 0, 8, .inl (fa0 0)))]) (cx := [((r0 0), .inr (6, [.ref (r0 1), .int (fi0 0), .int (fi0 1), .int (fi0 2), .int (fi0 3), .int (fi0 4), .int (fi0 5)])), ((r0 1), .inl (ca 0, 8, .inl (fa0 0))), ((r1 0), .inr (7, [.ref (r1 1), .int (fi1 0)])), ((r1 1), .inl (ca 2, 600, .inl (fa1 0)))]) hD [2, 3, 0, 1] (by decide) rfl
  have hP : va_P D vwCl (((r0 0), .inr (6, [.ref (r0 1), .int (fi0 0), .int (fi0 1), .int (fi0 2), .int (fi0 3), .int (fi0 4), .int (fi0 5)])) :: ((r0 1), .inl (ca 0, 8, .inl (fa0 0))) :: ((r1 0), .inr (7, [.ref (r1 1), .int (fi1 0)])) :: ((r1 1), .inl (ca 2, 600, .inl (fa1 0))) :: rest) H := hP
  have hD : va_D A (((r0 0), .inr (6, [.ref (r0 1), .int (fi0 0), .int (fi0 1), .int (fi0 2), .int (fi0 3), .int (fi0 4), .int (fi0 5)])) :: ((r0 1), .inl (ca 0, 8, .inl (fa0 0))) :: ((r1 0), .inr (7, [.ref (r1 1), .int (fi1 0)])) :: ((r1 1), .inl (ca 2, 600, .inl (fa1 0))) :: rest) := hD
  refine lv_iload_n hx hb dX6_takeToken_80 rfl (lv_at hl 2 rfl) ?_
  have ho47 : (0 ≤ (fi0 3).toInt ∧ (fi0 3).toInt ≤ 7) ∧ ((fi0 2).toInt = 1 → (fi0 3).toInt ≤ 6) := ⟨⟨by omega, by omega⟩, by omega⟩
  refine z_vV (As := [.int t44, .int p2]) (rest := []) hF (c_X6_takeSemicolon l D ca sa A (((r1 0), .inr (7, [.ref (r1 1), .int (fi1 0)])) :: ((r1 1), .inl (ca 2, 600, .inl (fa1 0))) :: rest) (zl 0 [(r0 0), (r0 1)]) (zl 0 [(fi0 0), (fi0 1), (fi0 2), (fi0 3), (fi0 4), (fi0 5)]) (zl 0 []) (zl (fun _ => 0) [(fa0 0)]) (zl (fun _ => 0) []) ho47 t44 p2) (cwV 2 hts gX6_takeToken_X6_takeSemicolon rfl rfl rfl (by decide +kernel) ⟨Nat.le_of_ble_eq_true rfl, Nat.le_of_ble_eq_true rfl⟩) hE hP hD hS 6 0 rfl rfl rfl hl.1 rfl (Nat.le_of_ble_eq_true rfl) dX6_takeToken_81 ⟨Nat.zero_le _, Nat.zero_le _⟩ (fun u48 H locs hw50 hP hD hS => ?_)
  obtain ⟨im51, lm51, am51, bm51⟩ := u48
  have hw50 : (Ok_RDR im51 am51) := hw50
  obtain ⟨⟨hm51i3, hm51j3⟩, hm51x0⟩ := hw50
  have hP : va_P D vwCl (((r0 0), .inr (6, [.ref (r0 1), .int (im51 0), .int (im51 1), .int (im51 2), .int (im51 3), .int (im51 4), .int (im51 5)])) :: ((r0 1), .inl (ca 0, 8, .inl (am51 0))) :: ((r1 0), .inr (7, [.ref (r1 1), .int (fi1 0)])) :: ((r1 1), .inl (ca 2, 600, .inl (fa1 0))) :: rest) H := hP
  have hD : va_D A (((r0 0), .inr (6, [.ref (r0 1), .int (im51 0), .int (im51 1), .int (im51 2), .int (im51 3), .int (im51 4), .int (im51 5)])) :: ((r0 1), .inl (ca 0, 8, .inl (am51 0))) :: ((r1 0), .inr (7, [.ref (r1 1), .int (fi1 0)])) :: ((r1 1), .inl (ca 2, 600, .inl (fa1 0))) :: rest) := hD
  subst hQ9
  have ho52 : (0 ≤ (im51 3).toInt ∧ (im51 3).toInt ≤ 7) ∧ ((im51 2).toInt = 1 → (im51 3).toInt ≤ 6) := ⟨⟨by omega, by omega⟩, by omega⟩
  exact W.vret hx hb hr (fun t ht hW => ⟨⟨((zl 0 [(im51 0), (im51 1), (im51 2), (im51 3), (im51 4), (im51 5)]), (zl 0 []), (zl (fun _ => 0) [(am51 0)]), (zl (fun _ => 0) [])), rfl, ho52, ⟨by rw [ht]; exact hP, hD⟩⟩, hS.F ht⟩) hS.2.2 dX6_takeToken_84

set_option maxHeartbeats 8000000 in
set_option maxRecDepth 100000 in
theorem c_X6_read (l : Launch) (D : va_G) (ca : Nat → ClassId) (sa : Nat → Nat) (A : Nat → Prop) (rest : va_W) (r0 : Nat → Nat) (r1 : Nat → Nat) (fi0 : Nat → Int32) (fl0 : Nat → Int64) (fa0 : Nat → Nat → Int32) (fb0 : Nat → Nat → Int64) (hv0 : Ok_RDR fi0 fa0) (fi1 : Nat → Int32) (fl1 : Nat → Int64) (fa1 : Nat → Nat → Int32) (fb1 : Nat → Nat → Int64) (hv1 : Ok_TAPE fi1 fa1) : Met l yX6_read wsX6_read ({ frames := 6, cells := 0, slots := 0, locals := 135 }) (va_Pc [.ref (r0 0), .ref (r1 0)] (zPre D ca sa A (w_RDR ca r0 fi0 fl0 fa0 fb0 (w_TAPE ca r1 fi1 fl1 fa1 fb1 (rest))))) (va_Qi (fun (r : Int32) (u : zS) => Ok_RDR u.1 u.2.2.1) (fun u t => zPost D A (w_RDR ca r0 u.1 u.2.1 u.2.2.1 u.2.2.2 (w_TAPE ca r1 fi1 fl1 fa1 fb1 (rest))) t) A) 0 0 A := by
  refine Met.ofW (cc := cX6_read) (maxL := 5) (ret := (some .int)) (by decide) rfl ?_
  intro p e s m args below meth c s₁ B hml hv9
  obtain ⟨rfl, hE, hP, hD⟩ := hv9
  have hx := B.exec
  have hb := B.bytes
  have hr := B.returns
  have hts := atoms_spec (ws := wsX6_read) B.pre
  have hown : s.vm.findClass RX6 = some m.cls := findClass_of_methodNamed B.named
  have hlocks := B.notSynchronized
  have hK := hE.1
  have hF : CallFix p m c cX6_read 5 s _ wsX6_read RX6 := ⟨hx, hb, hml, hown, hts⟩
  have hS : va_S A s.heap s.heap [] := va_S.rf
  have lk9 := hts (.fieldLink RX6 9 "BranchPlay$Reader" "rules" "[I") (by decide +kernel)
  have inX6 : ∀ w ∈ wsX60, w ∈ wsX6_read := by decide +kernel
  have lm25 := hts (.methodLink RX6 25 arraycopyName) (by decide +kernel)
  have lana := hts (.native arraycopyName) (by decide +kernel)
  have last := hts (.static arraycopyName) (by decide +kernel)
  have lain := hts (.initialized "java/lang/System") (by decide +kernel)
  have lk15 := hts (.fieldLink RX6 15 "BranchPlay$Reader" "faultKind" "I") (by decide +kernel)
  have lk19 := hts (.fieldLink RX6 19 "BranchPlay$Reader" "faultPlace" "I") (by decide +kernel)
  have lk31 := hts (.fieldLink RX6 31 "BranchPlay$Reader" "awaited" "I") (by decide +kernel)
  have lk34 := hts (.fieldLink RX6 34 "BranchPlay$Reader" "toldRules" "I") (by decide +kernel)
  have lk37 := hts (.fieldLink RX6 37 "BranchPlay$Reader" "lines" "I") (by decide +kernel)
  have lk46 := hts (.fieldLink RX6 46 "BranchPlay$Tape" "length" "I") (by decide +kernel)
  have inX7 : ∀ w ∈ wsX70, w ∈ wsX6_read := by decide +kernel
  obtain ⟨⟨hv0i3, hv0j3⟩, hv0x0⟩ := hv0
  obtain ⟨hv1i0, hv1j0⟩ := hv1
  generalize hHe : s.heap = H at hP
  have hS : va_S A s.heap H [] := by rw [← hHe]; exact hS
  have hP : va_P D vwCl (((r0 0), .inr (6, [.ref (r0 1), .int (fi0 0), .int (fi0 1), .int (fi0 2), .int (fi0 3), .int (fi0 4), .int (fi0 5)])) :: ((r0 1), .inl (ca 0, 8, .inl (fa0 0))) :: ((r1 0), .inr (7, [.ref (r1 1), .int (fi1 0)])) :: ((r1 1), .inl (ca 2, 600, .inl (fa1 0))) :: rest) H := hP
  have hD : va_D A (((r0 0), .inr (6, [.ref (r0 1), .int (fi0 0), .int (fi0 1), .int (fi0 2), .int (fi0 3), .int (fi0 4), .int (fi0 5)])) :: ((r0 1), .inl (ca 0, 8, .inl (fa0 0))) :: ((r1 0), .inr (7, [.ref (r1 1), .int (fi1 0)])) :: ((r1 1), .inl (ca 2, 600, .inl (fa1 0))) :: rest) := hD
  have hl := lv_entry ([.ref (r0 0), .ref (r1 0)]) (n := 5) (Nat.le_of_ble_eq_true rfl)
  rw [lg_entry_eq]
  generalize (lg_sl ([.ref (r0 0), .ref (r1 0)]) ++ List.replicate (5 - (lg_sl ([.ref (r0 0), .ref (r1 0)])).length) Slot.unset).toArray = ls at hl ⊢
  have hl : lv_has ls 5 [(0, .ref (r0 0)), (1, .ref (r1 0))] := hl
  generalize hQ9 : MQ below _ _ s 0 0 A = Q9
  refine va_getsN hx hb hE.2.2.1.1.1 hS hown (va_Nw.use rfl (hE.2.1 (.fieldLinkNest RX6 22 "BranchPlay" "USUAL" "[I" RX8) (by decide +kernel))) (fun _ h9 => h9) dX6_read_0 ?_
  refine lv_iconst (v := 0) hx hb dX6_read_3 (by decide) ?_
  refine lv_aload_n hx hb dX6_read_4 rfl (lv_at hl 0 rfl) ?_
  refine va_get (D := D) (ci := 6) (v := .ref (r0 1)) (C := RX6) (T := TX6) (N := 7) hx hb hts inX6 hown hK hP 0 rfl rfl 0 (by decide) lk9 (fun _ h9 => h9) rfl dX6_read_5 ?_
  refine lv_iconst (v := 0) hx hb dX6_read_8 (by decide) ?_
  refine lv_bipush (v := 8) hx hb dX6_read_9 (by decide) ?_
  have hn1 : ¬ (0 : Int32) < 0 := by decide
  have hn2 : ¬ (0 : Int32) < 0 := by decide
  have hn3 : ¬ (8 : Int32) < 0 := by decide
  have h44 : (0 : Int32).toNatClampNeg + (8 : Int32).toNatClampNeg ≤ 8 := by rw [show ((0 : Int32).toNatClampNeg) = 0 from by decide, show ((8 : Int32).toNatClampNeg) = 8 from by decide]; omega
  have h55 : (0 : Int32).toNatClampNeg + (8 : Int32).toNatClampNeg ≤ 8 := by rw [show ((0 : Int32).toNatClampNeg) = 0 from by decide, show ((8 : Int32).toNatClampNeg) = 8 from by decide]; omega
  refine z_copyT hx hb (hml.trans hl.1.symm) hown lm25 lana last lain hK hP hD hS hE.2.2.1.1.2 1 0 rfl rfl hn1 hn2 hn3 h44 h55 (Nat.le_of_ble_eq_true rfl) (Nat.le_of_ble_eq_true rfl) dX6_read_11 (fun H locs hP hD hS => ?_)
  generalize eg6 : va_cpy (fun j => ([20, 4, 2, 3, 0, 1, -1, 1] : List Int32).getD j 0) (fa0 0) (0 : Int32).toNatClampNeg (0 : Int32).toNatClampNeg (8 : Int32).toNatClampNeg = g6 at hP hD
  have hP : va_P D vwCl (((r0 0), .inr (6, [.ref (r0 1), .int (fi0 0), .int (fi0 1), .int (fi0 2), .int (fi0 3), .int (fi0 4), .int (fi0 5)])) :: ((r0 1), .inl (ca 0, 8, .inl g6)) :: ((r1 0), .inr (7, [.ref (r1 1), .int (fi1 0)])) :: ((r1 1), .inl (ca 2, 600, .inl (fa1 0))) :: rest) H := hP
  have hD : va_D A (((r0 0), .inr (6, [.ref (r0 1), .int (fi0 0), .int (fi0 1), .int (fi0 2), .int (fi0 3), .int (fi0 4), .int (fi0 5)])) :: ((r0 1), .inl (ca 0, 8, .inl g6)) :: ((r1 0), .inr (7, [.ref (r1 1), .int (fi1 0)])) :: ((r1 1), .inl (ca 2, 600, .inl (fa1 0))) :: rest) := hD
  refine lv_aload_n hx hb dX6_read_14 rfl (lv_at hl 0 rfl) ?_
  refine lv_iconst (v := 0) hx hb dX6_read_15 (by decide) ?_
  refine lv_topi (fun t7 et7 => ?_)
  have ht7 : t7.toInt = 0 := by rw [et7]; decide
  refine va_put (D := D) (ci := 6) (v := .int t7) (ty := .int) (C := RX6) (T := TX6) (N := 7) hx hb hts inX6 tyX6 tyX6_ok nmX6 hown hK hP hD hS 0 rfl rfl 1 (by decide) lk15 (fun _ h9 => h9) rfl (by decide +kernel) rfl rfl (Nat.le_of_ble_eq_true rfl) dX6_read_16 (fun H locs hP hD hS => ?_)
  have hP : va_P D vwCl (((r0 0), .inr (6, [.ref (r0 1), .int t7, .int (fi0 1), .int (fi0 2), .int (fi0 3), .int (fi0 4), .int (fi0 5)])) :: ((r0 1), .inl (ca 0, 8, .inl g6)) :: ((r1 0), .inr (7, [.ref (r1 1), .int (fi1 0)])) :: ((r1 1), .inl (ca 2, 600, .inl (fa1 0))) :: rest) H := hP
  have hD : va_D A (((r0 0), .inr (6, [.ref (r0 1), .int t7, .int (fi0 1), .int (fi0 2), .int (fi0 3), .int (fi0 4), .int (fi0 5)])) :: ((r0 1), .inl (ca 0, 8, .inl g6)) :: ((r1 0), .inr (7, [.ref (r1 1), .int (fi1 0)])) :: ((r1 1), .inl (ca 2, 600, .inl (fa1 0))) :: rest) := hD
  refine lv_aload_n hx hb dX6_read_19 rfl (lv_at hl 0 rfl) ?_
  refine lv_iconst (v := (-1)) hx hb dX6_read_20 (by decide) ?_
  refine lv_topi (fun t8 et8 => ?_)
  have ht8 : t8.toInt = (-1) := by rw [et8]; decide
  refine va_put (D := D) (ci := 6) (v := .int t8) (ty := .int) (C := RX6) (T := TX6) (N := 7) hx hb hts inX6 tyX6 tyX6_ok nmX6 hown hK hP hD hS 0 rfl rfl 2 (by decide) lk19 (fun _ h9 => h9) rfl (by decide +kernel) rfl rfl (Nat.le_of_ble_eq_true rfl) dX6_read_21 (fun H locs hP hD hS => ?_)
  have hP : va_P D vwCl (((r0 0), .inr (6, [.ref (r0 1), .int t7, .int t8, .int (fi0 2), .int (fi0 3), .int (fi0 4), .int (fi0 5)])) :: ((r0 1), .inl (ca 0, 8, .inl g6)) :: ((r1 0), .inr (7, [.ref (r1 1), .int (fi1 0)])) :: ((r1 1), .inl (ca 2, 600, .inl (fa1 0))) :: rest) H := hP
  have hD : va_D A (((r0 0), .inr (6, [.ref (r0 1), .int t7, .int t8, .int (fi0 2), .int (fi0 3), .int (fi0 4), .int (fi0 5)])) :: ((r0 1), .inl (ca 0, 8, .inl g6)) :: ((r1 0), .inr (7, [.ref (r1 1), .int (fi1 0)])) :: ((r1 1), .inl (ca 2, 600, .inl (fa1 0))) :: rest) := hD
  refine lv_aload_n hx hb dX6_read_24 rfl (lv_at hl 0 rfl) ?_
  refine lv_iconst (v := 0) hx hb dX6_read_25 (by decide) ?_
  refine lv_topi (fun t9 et9 => ?_)
  have ht9 : t9.toInt = 0 := by rw [et9]; decide
  refine va_put (D := D) (ci := 6) (v := .int t9) (ty := .int) (C := RX6) (T := TX6) (N := 7) hx hb hts inX6 tyX6 tyX6_ok nmX6 hown hK hP hD hS 0 rfl rfl 3 (by decide) lk31 (fun _ h9 => h9) rfl (by decide +kernel) rfl rfl (Nat.le_of_ble_eq_true rfl) dX6_read_26 (fun H locs hP hD hS => ?_)
  have hP : va_P D vwCl (((r0 0), .inr (6, [.ref (r0 1), .int t7, .int t8, .int t9, .int (fi0 3), .int (fi0 4), .int (fi0 5)])) :: ((r0 1), .inl (ca 0, 8, .inl g6)) :: ((r1 0), .inr (7, [.ref (r1 1), .int (fi1 0)])) :: ((r1 1), .inl (ca 2, 600, .inl (fa1 0))) :: rest) H := hP
  have hD : va_D A (((r0 0), .inr (6, [.ref (r0 1), .int t7, .int t8, .int t9, .int (fi0 3), .int (fi0 4), .int (fi0 5)])) :: ((r0 1), .inl (ca 0, 8, .inl g6)) :: ((r1 0), .inr (7, [.ref (r1 1), .int (fi1 0)])) :: ((r1 1), .inl (ca 2, 600, .inl (fa1 0))) :: rest) := hD
  refine lv_aload_n hx hb dX6_read_29 rfl (lv_at hl 0 rfl) ?_
  refine lv_iconst (v := 0) hx hb dX6_read_30 (by decide) ?_
  refine lv_topi (fun t10 et10 => ?_)
  have ht10 : t10.toInt = 0 := by rw [et10]; decide
  refine va_put (D := D) (ci := 6) (v := .int t10) (ty := .int) (C := RX6) (T := TX6) (N := 7) hx hb hts inX6 tyX6 tyX6_ok nmX6 hown hK hP hD hS 0 rfl rfl 5 (by decide) lk34 (fun _ h9 => h9) rfl (by decide +kernel) rfl rfl (Nat.le_of_ble_eq_true rfl) dX6_read_31 (fun H locs hP hD hS => ?_)
  have hP : va_P D vwCl (((r0 0), .inr (6, [.ref (r0 1), .int t7, .int t8, .int t9, .int (fi0 3), .int t10, .int (fi0 5)])) :: ((r0 1), .inl (ca 0, 8, .inl g6)) :: ((r1 0), .inr (7, [.ref (r1 1), .int (fi1 0)])) :: ((r1 1), .inl (ca 2, 600, .inl (fa1 0))) :: rest) H := hP
  have hD : va_D A (((r0 0), .inr (6, [.ref (r0 1), .int t7, .int t8, .int t9, .int (fi0 3), .int t10, .int (fi0 5)])) :: ((r0 1), .inl (ca 0, 8, .inl g6)) :: ((r1 0), .inr (7, [.ref (r1 1), .int (fi1 0)])) :: ((r1 1), .inl (ca 2, 600, .inl (fa1 0))) :: rest) := hD
  refine lv_aload_n hx hb dX6_read_34 rfl (lv_at hl 0 rfl) ?_
  refine lv_iconst (v := 0) hx hb dX6_read_35 (by decide) ?_
  refine lv_topi (fun t11 et11 => ?_)
  have ht11 : t11.toInt = 0 := by rw [et11]; decide
  refine va_put (D := D) (ci := 6) (v := .int t11) (ty := .int) (C := RX6) (T := TX6) (N := 7) hx hb hts inX6 tyX6 tyX6_ok nmX6 hown hK hP hD hS 0 rfl rfl 6 (by decide) lk37 (fun _ h9 => h9) rfl (by decide +kernel) rfl rfl (Nat.le_of_ble_eq_true rfl) dX6_read_36 (fun H locs hP hD hS => ?_)
  have hP : va_P D vwCl (((r0 0), .inr (6, [.ref (r0 1), .int t7, .int t8, .int t9, .int (fi0 3), .int t10, .int t11])) :: ((r0 1), .inl (ca 0, 8, .inl g6)) :: ((r1 0), .inr (7, [.ref (r1 1), .int (fi1 0)])) :: ((r1 1), .inl (ca 2, 600, .inl (fa1 0))) :: rest) H := hP
  have hD : va_D A (((r0 0), .inr (6, [.ref (r0 1), .int t7, .int t8, .int t9, .int (fi0 3), .int t10, .int t11])) :: ((r0 1), .inl (ca 0, 8, .inl g6)) :: ((r1 0), .inr (7, [.ref (r1 1), .int (fi1 0)])) :: ((r1 1), .inl (ca 2, 600, .inl (fa1 0))) :: rest) := hD
  refine lv_aload_n hx hb dX6_read_39 rfl (lv_at hl 1 rfl) ?_
  refine lv_iconst (v := 0) hx hb dX6_read_40 (by decide) ?_
  have ho12 : (0 ≤ (fi1 0).toInt ∧ (fi1 0).toInt ≤ 600) := ⟨by omega, by omega⟩
  have hp13 : 0 ≤ (0 : Int32).toInt ∧ (0 : Int32).toInt ≤ 600 := by (simp only [show ((0 : Int32).toInt) = 0 from by decide]) <;> omega
  have hP9 := va_P.part (pl := rest) (X := [((r0 0), .inr (6, [.ref (r0 1), .int t7, .int t8, .int t9, .int (fi0 3), .int t10, .int t11])), ((r0 1), .inl (ca 0, 8, .inl g6)), ((r1 0), .inr (7, [.ref (r1 1), .int (fi1 0)])), ((r1 1), .inl (ca 2, 600, .inl (fa1 0)))]) (cx := [((r1 0), .inr (7, [.ref (r1 1), .int (fi1 0)])), ((r1 1), .inl (ca 2, 600, .inl (fa1 0))), ((r0 0), .inr (6, [.ref (r0 1), .int t7, .int t8, .int t9, .int (fi0 3), .int t10, .int t11])), ((r0 1), .inl (ca 0, 8, .inl g6))]) hP [2, 3, 0, 1] rfl
  have hD9 := va_D.part (pl := rest) (X := [((r0 0), .inr (6, [.ref (r0 1), .int t7, .int t8, .int t9, .int (fi0 3), .int t10, .int t11])), ((r0 1), .inl (ca 0, 8, .inl g6)), ((r1 0), .inr (7, [.ref (r1 1), .int (fi1 0)])), ((r1 1), .inl (ca 2, 600, .inl (fa1 0)))]) (cx := [((r1 0), .inr (7, [.ref (r1 1), .int (fi1 0)])), ((r1 1), .inl (ca 2, 600, .inl (fa1 0))), ((r0 0), .inr (6, [.ref (r0 1), .int t7, .int t8, .int t9, .int (fi0 3), .int t10, .int t11])), ((r0 1), .inl (ca 0, 8, .inl g6))]) hD [2, 3, 0, 1] (by decide) rfl
  refine z_iV (As := [.int 0]) (rest := []) hF (c_X7_pastBlanks l D ca sa A (((r0 0), .inr (6, [.ref (r0 1), .int t7, .int t8, .int t9, .int (fi0 3), .int t10, .int t11])) :: ((r0 1), .inl (ca 0, 8, .inl g6)) :: rest) (zl 0 [(r1 0), (r1 1)]) (zl 0 [(fi1 0)]) (zl 0 []) (zl (fun _ => 0) [(fa1 0)]) (zl (fun _ => 0) []) ho12 0 hp13) (cwV 1 hts gX6_read_X7_pastBlanks rfl rfl rfl (by decide +kernel) ⟨Nat.le_of_ble_eq_true rfl, Nat.le_of_ble_eq_true rfl⟩) hE hP9 hD9 hS 7 0 rfl rfl rfl hl.1 rfl (Nat.le_of_ble_eq_true rfl) dX6_read_41 ⟨Nat.zero_le _, Nat.zero_le _⟩ (fun t15 u14 H locs hw16 hP hD hS => ?_)
  have hw16 : (0 ≤ t15.toInt ∧ t15.toInt ≤ 600) := hw16
  obtain hq17 := hw16
  have hP := va_P.part (pl := rest) (X := [((r1 0), .inr (7, [.ref (r1 1), .int (fi1 0)])), ((r1 1), .inl (ca 2, 600, .inl (fa1 0))), ((r0 0), .inr (6, [.ref (r0 1), .int t7, .int t8, .int t9, .int (fi0 3), .int t10, .int t11])), ((r0 1), .inl (ca 0, 8, .inl g6))]) (cx := [((r0 0), .inr (6, [.ref (r0 1), .int t7, .int t8, .int t9, .int (fi0 3), .int t10, .int t11])), ((r0 1), .inl (ca 0, 8, .inl g6)), ((r1 0), .inr (7, [.ref (r1 1), .int (fi1 0)])), ((r1 1), .inl (ca 2, 600, .inl (fa1 0)))]) hP [2, 3, 0, 1] rfl
  have hD := va_D.part (pl := rest) (X := [((r1 0), .inr (7, [.ref (r1 1), .int (fi1 0)])), ((r1 1), .inl (ca 2, 600, .inl (fa1 0))), ((r0 0), .inr (6, [.ref (r0 1), .int t7, .int t8, .int t9, .int (fi0 3), .int t10, .int t11])), ((r0 1), .inl (ca 0, 8, .inl g6))]) (cx := [((r0 0), .inr (6, [.ref (r0 1), .int t7, .int t8, .int t9, .int (fi0 3), .int t10, .int t11])), ((r0 1), .inl (ca 0, 8, .inl g6)), ((r1 0), .inr (7, [.ref (r1 1), .int (fi1 0)])), ((r1 1), .inl (ca 2, 600, .inl (fa1 0)))]) hD [2, 3, 0, 1] (by decide) rfl
  have hP : va_P D vwCl (((r0 0), .inr (6, [.ref (r0 1), .int t7, .int t8, .int t9, .int (fi0 3), .int t10, .int t11])) :: ((r0 1), .inl (ca 0, 8, .inl g6)) :: ((r1 0), .inr (7, [.ref (r1 1), .int (fi1 0)])) :: ((r1 1), .inl (ca 2, 600, .inl (fa1 0))) :: rest) H := hP
  have hD : va_D A (((r0 0), .inr (6, [.ref (r0 1), .int t7, .int t8, .int t9, .int (fi0 3), .int t10, .int t11])) :: ((r0 1), .inl (ca 0, 8, .inl g6)) :: ((r1 0), .inr (7, [.ref (r1 1), .int (fi1 0)])) :: ((r1 1), .inl (ca 2, 600, .inl (fa1 0))) :: rest) := hD
  refine lv_istore_n (lv' := [(2, .int t15), (0, .ref (r0 0)), (1, .ref (r1 0))]) hx hb dX6_read_44 rfl hl (by decide) rfl (fun ls hl => ?_)
  refine lv_iconst (v := 0) hx hb dX6_read_45 (by decide) ?_
  refine lv_topi (fun t18 et18 => ?_)
  have ht18 : t18.toInt = 0 := by rw [et18]; decide
  refine lv_istore_n (lv' := [(3, .int t18), (2, .int t15), (0, .ref (r0 0)), (1, .ref (r1 0))]) hx hb dX6_read_46 rfl hl (by decide) rfl (fun ls hl => ?_)
  have J47_19 : ∀ (n19 : Nat) (x2_19 : Int32) (x3_19 : Int32) (gi0_19 : Nat → Int32) (gl0_19 : Nat → Int64) (ga0_19 : Nat → Nat → Int32) (gb0_19 : Nat → Nat → Int64) (H : Heap) (locs : List Loc) (hP : va_P D vwCl (((r0 0), .inr (6, [.ref (r0 1), .int (gi0_19 0), .int (gi0_19 1), .int (gi0_19 2), .int (gi0_19 3), .int (gi0_19 4), .int (gi0_19 5)])) :: ((r0 1), .inl (ca 0, 8, .inl (ga0_19 0))) :: ((r1 0), .inr (7, [.ref (r1 1), .int (fi1 0)])) :: ((r1 1), .inl (ca 2, 600, .inl (fa1 0))) :: rest) H) (hD : va_D A (((r0 0), .inr (6, [.ref (r0 1), .int (gi0_19 0), .int (gi0_19 1), .int (gi0_19 2), .int (gi0_19 3), .int (gi0_19 4), .int (gi0_19 5)])) :: ((r0 1), .inl (ca 0, 8, .inl (ga0_19 0))) :: ((r1 0), .inr (7, [.ref (r1 1), .int (fi1 0)])) :: ((r1 1), .inl (ca 2, 600, .inl (fa1 0))) :: rest)) (hS : va_S A s.heap H locs) (ls : Array Slot) (hl : lv_has ls 5 [(0, .ref (r0 0)), (1, .ref (r1 0)), (2, .int x2_19), (3, .int x3_19)]) (hg0_19 : Ok_RDR gi0_19 ga0_19) (hf19_0 : 0 ≤ x3_19.toInt ∧ x3_19.toInt ≤ 600 ∧ 0 ≤ x2_19.toInt ∧ x2_19.toInt ≤ 600), (601 - x3_19.toInt).toNat < n19 → W p l e (headSpec wsX6_read ({ frames := 6, cells := 0, slots := 0, locals := 135 })).room s m ([.ref (r0 0), .ref (r1 0)] : List Value).toArray below meth c H locs 0 0 Q9 (F0 m 47 ls []) := by
    intro n19
    induction n19 with
    | zero => intro x2_19 x3_19 gi0_19 gl0_19 ga0_19 gb0_19 H locs hP hD hS ls hl hg0_19 hf19_0 hn9; exact absurd hn9 (Nat.not_lt_zero _)
    | succ n19 ih19 =>
      intro x2_19 x3_19 gi0_19 gl0_19 ga0_19 gb0_19 H locs hP hD hS ls hl hg0_19 hf19_0 hn9
      obtain ⟨⟨hg0_19i3, hg0_19j3⟩, hg0_19x0⟩ := hg0_19
      refine lv_iload_n hx hb dX6_read_47 rfl (lv_at hl 3 rfl) ?_
      refine lv_sipush (v := 600) hx hb dX6_read_48 (by decide) ?_
      have J97_20 : ∀ (ls : Array Slot) (hl : lv_has ls 5 [(0, .ref (r0 0)), (1, .ref (r1 0))]), W p l e (headSpec wsX6_read ({ frames := 6, cells := 0, slots := 0, locals := 135 })).room s m ([.ref (r0 0), .ref (r1 0)] : List Value).toArray below meth c H locs 0 0 Q9 (F0 m 97 ls []) := by
        intro ls hl
        refine lv_aload_n hx hb dX6_read_97 rfl (lv_at hl 0 rfl) ?_
        refine va_get (D := D) (ci := 6) (v := .int (gi0_19 0)) (C := RX6) (T := TX6) (N := 7) hx hb hts inX6 hown hK hP 0 rfl rfl 1 (by decide) lk15 (fun _ h9 => h9) rfl dX6_read_98 ?_
        have J112_21 : ∀ (gi0_21 : Nat → Int32) (gl0_21 : Nat → Int64) (ga0_21 : Nat → Nat → Int32) (gb0_21 : Nat → Nat → Int64) (H : Heap) (locs : List Loc) (hP : va_P D vwCl (((r0 0), .inr (6, [.ref (r0 1), .int (gi0_21 0), .int (gi0_21 1), .int (gi0_21 2), .int (gi0_21 3), .int (gi0_21 4), .int (gi0_21 5)])) :: ((r0 1), .inl (ca 0, 8, .inl (ga0_21 0))) :: ((r1 0), .inr (7, [.ref (r1 1), .int (fi1 0)])) :: ((r1 1), .inl (ca 2, 600, .inl (fa1 0))) :: rest) H) (hD : va_D A (((r0 0), .inr (6, [.ref (r0 1), .int (gi0_21 0), .int (gi0_21 1), .int (gi0_21 2), .int (gi0_21 3), .int (gi0_21 4), .int (gi0_21 5)])) :: ((r0 1), .inl (ca 0, 8, .inl (ga0_21 0))) :: ((r1 0), .inr (7, [.ref (r1 1), .int (fi1 0)])) :: ((r1 1), .inl (ca 2, 600, .inl (fa1 0))) :: rest)) (hS : va_S A s.heap H locs) (ls : Array Slot) (hl : lv_has ls 5 [(0, .ref (r0 0))]) (hg0_21 : Ok_RDR gi0_21 ga0_21), W p l e (headSpec wsX6_read ({ frames := 6, cells := 0, slots := 0, locals := 135 })).room s m ([.ref (r0 0), .ref (r1 0)] : List Value).toArray below meth c H locs 0 0 Q9 (F0 m 112 ls []) := by
          intro gi0_21 gl0_21 ga0_21 gb0_21 H locs hP hD hS ls hl hg0_21
          obtain ⟨⟨hg0_21i3, hg0_21j3⟩, hg0_21x0⟩ := hg0_21
          refine lv_aload_n hx hb dX6_read_112 rfl (lv_at hl 0 rfl) ?_
          refine va_get (D := D) (ci := 6) (v := .int (gi0_21 0)) (C := RX6) (T := TX6) (N := 7) hx hb hts inX6 hown hK hP 0 rfl rfl 1 (by decide) lk15 (fun _ h9 => h9) rfl dX6_read_113 ?_
          refine lv_if_ne (tgt := 126) hx hb dX6_read_116 (by decide) (fun c22 => ?_) (fun c22 => ?_)
          ·
            have c22 := z_ne (i := (gi0_21 0).toInt) (j := 0) rfl (by decide) c22
            refine lv_iconst (v := (-1)) hx hb dX6_read_126 (by decide) ?_
            subst hQ9
            refine lv_topi (fun t23 et23 => ?_)
            have ht23 : t23.toInt = (-1) := by rw [et23]; decide
            have ho24 : (0 ≤ (gi0_21 3).toInt ∧ (gi0_21 3).toInt ≤ 7) ∧ ((gi0_21 2).toInt = 1 → (gi0_21 3).toInt ≤ 6) := ⟨⟨by omega, by omega⟩, by omega⟩
            exact W.iret (v := t23) hx hb hr (fun t ht hW => ⟨⟨t23, ((zl 0 [(gi0_21 0), (gi0_21 1), (gi0_21 2), (gi0_21 3), (gi0_21 4), (gi0_21 5)]), (zl 0 []), (zl (fun _ => 0) [(ga0_21 0)]), (zl (fun _ => 0) [])), rfl, ho24, ⟨by rw [ht]; exact hP, hD⟩⟩, hS.F ht⟩) hS.2.2 dX6_read_127
          ·
            have c22 := z_eq (i := (gi0_21 0).toInt) (j := 0) rfl (by decide) c22
            refine lv_aload_n hx hb dX6_read_119 rfl (lv_at hl 0 rfl) ?_
            refine va_get (D := D) (ci := 6) (v := .int (gi0_21 5)) (C := RX6) (T := TX6) (N := 7) hx hb hts inX6 hown hK hP 0 rfl rfl 6 (by decide) lk37 (fun _ h9 => h9) rfl dX6_read_120 ?_
            refine lv_goto (tgt := 127) hx hb dX6_read_123 (by decide) ?_
            subst hQ9
            have ho25 : (0 ≤ (gi0_21 3).toInt ∧ (gi0_21 3).toInt ≤ 7) ∧ ((gi0_21 2).toInt = 1 → (gi0_21 3).toInt ≤ 6) := ⟨⟨by omega, by omega⟩, by omega⟩
            exact W.iret (v := (gi0_21 5)) hx hb hr (fun t ht hW => ⟨⟨(gi0_21 5), ((zl 0 [(gi0_21 0), (gi0_21 1), (gi0_21 2), (gi0_21 3), (gi0_21 4), (gi0_21 5)]), (zl 0 []), (zl (fun _ => 0) [(ga0_21 0)]), (zl (fun _ => 0) [])), rfl, ho25, ⟨by rw [ht]; exact hP, hD⟩⟩, hS.F ht⟩) hS.2.2 dX6_read_127
        refine lv_if_ne (tgt := 112) hx hb dX6_read_101 (by decide) (fun c26 => ?_) (fun c26 => ?_)
        ·
          have c26 := z_ne (i := (gi0_19 0).toInt) (j := 0) rfl (by decide) c26
          have ho27 : (0 ≤ (gi0_19 3).toInt ∧ (gi0_19 3).toInt ≤ 7) ∧ ((gi0_19 2).toInt = 1 → (gi0_19 3).toInt ≤ 6) := ⟨⟨by omega, by omega⟩, by omega⟩
          exact J112_21 (zl 0 [(gi0_19 0), (gi0_19 1), (gi0_19 2), (gi0_19 3), (gi0_19 4), (gi0_19 5)]) (zl 0 []) (zl (fun _ => 0) [(ga0_19 0)]) (zl (fun _ => 0) []) _ _ hP hD hS ls (lv_sub hl [0] rfl) ho27
        ·
          have c26 := z_eq (i := (gi0_19 0).toInt) (j := 0) rfl (by decide) c26
          refine lv_aload_n hx hb dX6_read_104 rfl (lv_at hl 0 rfl) ?_
          refine lv_aload_n hx hb dX6_read_105 rfl (lv_at hl 1 rfl) ?_
          refine va_get (D := D) (ci := 7) (v := .int (fi1 0)) (C := RX7) (T := TX7) (N := 2) hx hb hts inX7 hown hK hP 2 rfl rfl 1 (by decide) lk46 (fun _ h9 => h9) rfl dX6_read_106 ?_
          have ho28 : (0 ≤ (gi0_19 3).toInt ∧ (gi0_19 3).toInt ≤ 7) ∧ ((gi0_19 2).toInt = 1 → (gi0_19 3).toInt ≤ 6) := ⟨⟨by omega, by omega⟩, by omega⟩
          refine z_vV (As := [.int (fi1 0)]) (rest := []) hF (c_X6_takeEnd l D ca sa A (((r1 0), .inr (7, [.ref (r1 1), .int (fi1 0)])) :: ((r1 1), .inl (ca 2, 600, .inl (fa1 0))) :: rest) (zl 0 [(r0 0), (r0 1)]) (zl 0 [(gi0_19 0), (gi0_19 1), (gi0_19 2), (gi0_19 3), (gi0_19 4), (gi0_19 5)]) (zl 0 []) (zl (fun _ => 0) [(ga0_19 0)]) (zl (fun _ => 0) []) ho28 (fi1 0)) (cwV 1 hts gX6_read_X6_takeEnd rfl rfl rfl (by decide +kernel) ⟨Nat.le_of_ble_eq_true rfl, Nat.le_of_ble_eq_true rfl⟩) hE hP hD hS 6 0 rfl rfl rfl hl.1 rfl (Nat.le_of_ble_eq_true rfl) dX6_read_109 ⟨Nat.zero_le _, Nat.zero_le _⟩ (fun u29 H locs hw31 hP hD hS => ?_)
          obtain ⟨im32, lm32, am32, bm32⟩ := u29
          have hw31 : (Ok_RDR im32 am32) := hw31
          obtain ⟨⟨hm32i3, hm32j3⟩, hm32x0⟩ := hw31
          have hP : va_P D vwCl (((r0 0), .inr (6, [.ref (r0 1), .int (im32 0), .int (im32 1), .int (im32 2), .int (im32 3), .int (im32 4), .int (im32 5)])) :: ((r0 1), .inl (ca 0, 8, .inl (am32 0))) :: ((r1 0), .inr (7, [.ref (r1 1), .int (fi1 0)])) :: ((r1 1), .inl (ca 2, 600, .inl (fa1 0))) :: rest) H := hP
          have hD : va_D A (((r0 0), .inr (6, [.ref (r0 1), .int (im32 0), .int (im32 1), .int (im32 2), .int (im32 3), .int (im32 4), .int (im32 5)])) :: ((r0 1), .inl (ca 0, 8, .inl (am32 0))) :: ((r1 0), .inr (7, [.ref (r1 1), .int (fi1 0)])) :: ((r1 1), .inl (ca 2, 600, .inl (fa1 0))) :: rest) := hD
          have ho33 : (0 ≤ (im32 3).toInt ∧ (im32 3).toInt ≤ 7) ∧ ((im32 2).toInt = 1 → (im32 3).toInt ≤ 6) := ⟨⟨by omega, by omega⟩, by omega⟩
          exact J112_21 (zl 0 [(im32 0), (im32 1), (im32 2), (im32 3), (im32 4), (im32 5)]) (zl 0 []) (zl (fun _ => 0) [(am32 0)]) (zl (fun _ => 0) []) _ _ hP hD hS ls (lv_sub hl [0] rfl) ho33
      refine lv_icmp_ge (tgt := 97) hx hb dX6_read_51 (by decide) (fun c34 => ?_) (fun c34 => ?_)
      ·
        have c34 := z_le (i := 600) (j := x3_19.toInt) (by decide) rfl c34
        exact J97_20 ls (lv_sub hl [0, 1] rfl)
      ·
        have c34 := z_nle (i := 600) (j := x3_19.toInt) (by decide) rfl c34
        refine lv_iload_n hx hb dX6_read_54 rfl (lv_at hl 2 rfl) ?_
        refine lv_aload_n hx hb dX6_read_55 rfl (lv_at hl 1 rfl) ?_
        refine va_get (D := D) (ci := 7) (v := .int (fi1 0)) (C := RX7) (T := TX7) (N := 2) hx hb hts inX7 hown hK hP 2 rfl rfl 1 (by decide) lk46 (fun _ h9 => h9) rfl dX6_read_56 ?_
        refine lv_icmp_ge (tgt := 97) hx hb dX6_read_59 (by decide) (fun c35 => ?_) (fun c35 => ?_)
        ·
          have c35 := z_le (i := (fi1 0).toInt) (j := x2_19.toInt) rfl rfl c35
          exact J97_20 ls (lv_sub hl [0, 1] rfl)
        ·
          have c35 := z_nle (i := (fi1 0).toInt) (j := x2_19.toInt) rfl rfl c35
          refine lv_aload_n hx hb dX6_read_62 rfl (lv_at hl 0 rfl) ?_
          refine va_get (D := D) (ci := 6) (v := .int (gi0_19 0)) (C := RX6) (T := TX6) (N := 7) hx hb hts inX6 hown hK hP 0 rfl rfl 1 (by decide) lk15 (fun _ h9 => h9) rfl dX6_read_63 ?_
          refine lv_if_ne (tgt := 97) hx hb dX6_read_66 (by decide) (fun c36 => ?_) (fun c36 => ?_)
          ·
            have c36 := z_ne (i := (gi0_19 0).toInt) (j := 0) rfl (by decide) c36
            exact J97_20 ls (lv_sub hl [0, 1] rfl)
          ·
            have c36 := z_eq (i := (gi0_19 0).toInt) (j := 0) rfl (by decide) c36
            refine lv_aload_n hx hb dX6_read_69 rfl (lv_at hl 1 rfl) ?_
            refine lv_iload_n hx hb dX6_read_70 rfl (lv_at hl 2 rfl) ?_
            have ho37 : (0 ≤ (fi1 0).toInt ∧ (fi1 0).toInt ≤ 600) := ⟨by omega, by omega⟩
            have hp38 : 0 ≤ x2_19.toInt ∧ x2_19.toInt ≤ 599 := by omega
            have hP9 := va_P.part (pl := rest) (X := [((r0 0), .inr (6, [.ref (r0 1), .int (gi0_19 0), .int (gi0_19 1), .int (gi0_19 2), .int (gi0_19 3), .int (gi0_19 4), .int (gi0_19 5)])), ((r0 1), .inl (ca 0, 8, .inl (ga0_19 0))), ((r1 0), .inr (7, [.ref (r1 1), .int (fi1 0)])), ((r1 1), .inl (ca 2, 600, .inl (fa1 0)))]) (cx := [((r1 0), .inr (7, [.ref (r1 1), .int (fi1 0)])), ((r1 1), .inl (ca 2, 600, .inl (fa1 0))), ((r0 0), .inr (6, [.ref (r0 1), .int (gi0_19 0), .int (gi0_19 1), .int (gi0_19 2), .int (gi0_19 3), .int (gi0_19 4), .int (gi0_19 5)])), ((r0 1), .inl (ca 0, 8, .inl (ga0_19 0)))]) hP [2, 3, 0, 1] rfl
            have hD9 := va_D.part (pl := rest) (X := [((r0 0), .inr (6, [.ref (r0 1), .int (gi0_19 0), .int (gi0_19 1), .int (gi0_19 2), .int (gi0_19 3), .int (gi0_19 4), .int (gi0_19 5)])), ((r0 1), .inl (ca 0, 8, .inl (ga0_19 0))), ((r1 0), .inr (7, [.ref (r1 1), .int (fi1 0)])), ((r1 1), .inl (ca 2, 600, .inl (fa1 0)))]) (cx := [((r1 0), .inr (7, [.ref (r1 1), .int (fi1 0)])), ((r1 1), .inl (ca 2, 600, .inl (fa1 0))), ((r0 0), .inr (6, [.ref (r0 1), .int (gi0_19 0), .int (gi0_19 1), .int (gi0_19 2), .int (gi0_19 3), .int (gi0_19 4), .int (gi0_19 5)])), ((r0 1), .inl (ca 0, 8, .inl (ga0_19 0)))]) hD [2, 3, 0, 1] (by decide) rfl
            refine z_iV (As := [.int x2_19]) (rest := []) hF (c_X7_pastToken l D ca sa A (((r0 0), .inr (6, [.ref (r0 1), .int (gi0_19 0), .int (gi0_19 1), .int (gi0_19 2), .int (gi0_19 3), .int (gi0_19 4), .int (gi0_19 5)])) :: ((r0 1), .inl (ca 0, 8, .inl (ga0_19 0))) :: rest) (zl 0 [(r1 0), (r1 1)]) (zl 0 [(fi1 0)]) (zl 0 []) (zl (fun _ => 0) [(fa1 0)]) (zl (fun _ => 0) []) ho37 x2_19 hp38) (cwV 1 hts gX6_read_X7_pastToken rfl rfl rfl (by decide +kernel) ⟨Nat.le_of_ble_eq_true rfl, Nat.le_of_ble_eq_true rfl⟩) hE hP9 hD9 hS 7 0 rfl rfl rfl hl.1 rfl (Nat.le_of_ble_eq_true rfl) dX6_read_71 ⟨Nat.zero_le _, Nat.zero_le _⟩ (fun t40 u39 H locs hw41 hP hD hS => ?_)
            have hw41 : (x2_19.toInt < t40.toInt ∧ t40.toInt ≤ 600) := hw41
            obtain hq42 := hw41
            have hP := va_P.part (pl := rest) (X := [((r1 0), .inr (7, [.ref (r1 1), .int (fi1 0)])), ((r1 1), .inl (ca 2, 600, .inl (fa1 0))), ((r0 0), .inr (6, [.ref (r0 1), .int (gi0_19 0), .int (gi0_19 1), .int (gi0_19 2), .int (gi0_19 3), .int (gi0_19 4), .int (gi0_19 5)])), ((r0 1), .inl (ca 0, 8, .inl (ga0_19 0)))]) (cx := [((r0 0), .inr (6, [.ref (r0 1), .int (gi0_19 0), .int (gi0_19 1), .int (gi0_19 2), .int (gi0_19 3), .int (gi0_19 4), .int (gi0_19 5)])), ((r0 1), .inl (ca 0, 8, .inl (ga0_19 0))), ((r1 0), .inr (7, [.ref (r1 1), .int (fi1 0)])), ((r1 1), .inl (ca 2, 600, .inl (fa1 0)))]) hP [2, 3, 0, 1] rfl
            have hD := va_D.part (pl := rest) (X := [((r1 0), .inr (7, [.ref (r1 1), .int (fi1 0)])), ((r1 1), .inl (ca 2, 600, .inl (fa1 0))), ((r0 0), .inr (6, [.ref (r0 1), .int (gi0_19 0), .int (gi0_19 1), .int (gi0_19 2), .int (gi0_19 3), .int (gi0_19 4), .int (gi0_19 5)])), ((r0 1), .inl (ca 0, 8, .inl (ga0_19 0)))]) (cx := [((r0 0), .inr (6, [.ref (r0 1), .int (gi0_19 0), .int (gi0_19 1), .int (gi0_19 2), .int (gi0_19 3), .int (gi0_19 4), .int (gi0_19 5)])), ((r0 1), .inl (ca 0, 8, .inl (ga0_19 0))), ((r1 0), .inr (7, [.ref (r1 1), .int (fi1 0)])), ((r1 1), .inl (ca 2, 600, .inl (fa1 0)))]) hD [2, 3, 0, 1] (by decide) rfl
            have hP : va_P D vwCl (((r0 0), .inr (6, [.ref (r0 1), .int (gi0_19 0), .int (gi0_19 1), .int (gi0_19 2), .int (gi0_19 3), .int (gi0_19 4), .int (gi0_19 5)])) :: ((r0 1), .inl (ca 0, 8, .inl (ga0_19 0))) :: ((r1 0), .inr (7, [.ref (r1 1), .int (fi1 0)])) :: ((r1 1), .inl (ca 2, 600, .inl (fa1 0))) :: rest) H := hP
            have hD : va_D A (((r0 0), .inr (6, [.ref (r0 1), .int (gi0_19 0), .int (gi0_19 1), .int (gi0_19 2), .int (gi0_19 3), .int (gi0_19 4), .int (gi0_19 5)])) :: ((r0 1), .inl (ca 0, 8, .inl (ga0_19 0))) :: ((r1 0), .inr (7, [.ref (r1 1), .int (fi1 0)])) :: ((r1 1), .inl (ca 2, 600, .inl (fa1 0))) :: rest) := hD
            refine lv_istore (lv' := [(4, .int t40), (0, .ref (r0 0)), (1, .ref (r1 0)), (2, .int x2_19), (3, .int x3_19)]) hx hb dX6_read_74 hl (by decide) rfl (fun ls hl => ?_)
            refine lv_aload_n hx hb dX6_read_76 rfl (lv_at hl 1 rfl) ?_
            refine lv_aload_n hx hb dX6_read_77 rfl (lv_at hl 2 rfl) ?_
            refine lv_iload_n hx hb dX6_read_78 rfl (lv_at hl 3 rfl) ?_
            refine lv_iload hx hb dX6_read_79 (lv_at hl 0 rfl) ?_
            have ho43 : (0 ≤ (gi0_19 3).toInt ∧ (gi0_19 3).toInt ≤ 7) ∧ ((gi0_19 2).toInt = 1 → (gi0_19 3).toInt ≤ 6) := ⟨⟨by omega, by omega⟩, by omega⟩
            have ho44 : (0 ≤ (fi1 0).toInt ∧ (fi1 0).toInt ≤ 600) := ⟨by omega, by omega⟩
            have hp45 : 0 ≤ x2_19.toInt ∧ x2_19.toInt ≤ 599 := by omega
            have hp46 : t40.toInt ≤ 600 := by omega
            refine z_vV (As := [.ref (r1 0), .int x2_19, .int t40]) (rest := []) hF (c_X6_takeToken l D ca sa A rest (zl 0 [(r0 0), (r0 1)]) (zl 0 [(r1 0), (r1 1)]) (zl 0 [(gi0_19 0), (gi0_19 1), (gi0_19 2), (gi0_19 3), (gi0_19 4), (gi0_19 5)]) (zl 0 []) (zl (fun _ => 0) [(ga0_19 0)]) (zl (fun _ => 0) []) ho43 (zl 0 [(fi1 0)]) (zl 0 []) (zl (fun _ => 0) [(fa1 0)]) (zl (fun _ => 0) []) ho44 x2_19 t40 hp45 hp46) (cwV 3 hts gX6_read_X6_takeToken rfl rfl rfl (by decide +kernel) ⟨Nat.le_of_ble_eq_true rfl, Nat.le_of_ble_eq_true rfl⟩) hE hP hD hS 6 0 rfl rfl rfl hl.1 rfl (Nat.le_of_ble_eq_true rfl) dX6_read_81 ⟨Nat.zero_le _, Nat.zero_le _⟩ (fun u47 H locs hw49 hP hD hS => ?_)
            obtain ⟨im50, lm50, am50, bm50⟩ := u47
            have hw49 : (Ok_RDR im50 am50) := hw49
            obtain ⟨⟨hm50i3, hm50j3⟩, hm50x0⟩ := hw49
            have hP : va_P D vwCl (((r0 0), .inr (6, [.ref (r0 1), .int (im50 0), .int (im50 1), .int (im50 2), .int (im50 3), .int (im50 4), .int (im50 5)])) :: ((r0 1), .inl (ca 0, 8, .inl (am50 0))) :: ((r1 0), .inr (7, [.ref (r1 1), .int (fi1 0)])) :: ((r1 1), .inl (ca 2, 600, .inl (fa1 0))) :: rest) H := hP
            have hD : va_D A (((r0 0), .inr (6, [.ref (r0 1), .int (im50 0), .int (im50 1), .int (im50 2), .int (im50 3), .int (im50 4), .int (im50 5)])) :: ((r0 1), .inl (ca 0, 8, .inl (am50 0))) :: ((r1 0), .inr (7, [.ref (r1 1), .int (fi1 0)])) :: ((r1 1), .inl (ca 2, 600, .inl (fa1 0))) :: rest) := hD
            refine lv_aload_n hx hb dX6_read_84 rfl (lv_at hl 2 rfl) ?_
            refine lv_iload hx hb dX6_read_85 (lv_at hl 0 rfl) ?_
            have ho51 : (0 ≤ (fi1 0).toInt ∧ (fi1 0).toInt ≤ 600) := ⟨by omega, by omega⟩
            have hp52 : 0 ≤ t40.toInt ∧ t40.toInt ≤ 600 := by omega
            have hP9 := va_P.part (pl := rest) (X := [((r0 0), .inr (6, [.ref (r0 1), .int (im50 0), .int (im50 1), .int (im50 2), .int (im50 3), .int (im50 4), .int (im50 5)])), ((r0 1), .inl (ca 0, 8, .inl (am50 0))), ((r1 0), .inr (7, [.ref (r1 1), .int (fi1 0)])), ((r1 1), .inl (ca 2, 600, .inl (fa1 0)))]) (cx := [((r1 0), .inr (7, [.ref (r1 1), .int (fi1 0)])), ((r1 1), .inl (ca 2, 600, .inl (fa1 0))), ((r0 0), .inr (6, [.ref (r0 1), .int (im50 0), .int (im50 1), .int (im50 2), .int (im50 3), .int (im50 4), .int (im50 5)])), ((r0 1), .inl (ca 0, 8, .inl (am50 0)))]) hP [2, 3, 0, 1] rfl
            have hD9 := va_D.part (pl := rest) (X := [((r0 0), .inr (6, [.ref (r0 1), .int (im50 0), .int (im50 1), .int (im50 2), .int (im50 3), .int (im50 4), .int (im50 5)])), ((r0 1), .inl (ca 0, 8, .inl (am50 0))), ((r1 0), .inr (7, [.ref (r1 1), .int (fi1 0)])), ((r1 1), .inl (ca 2, 600, .inl (fa1 0)))]) (cx := [((r1 0), .inr (7, [.ref (r1 1), .int (fi1 0)])), ((r1 1), .inl (ca 2, 600, .inl (fa1 0))), ((r0 0), .inr (6, [.ref (r0 1), .int (im50 0), .int (im50 1), .int (im50 2), .int (im50 3), .int (im50 4), .int (im50 5)])), ((r0 1), .inl (ca 0, 8, .inl (am50 0)))]) hD [2, 3, 0, 1] (by decide) rfl
            refine z_iV (As := [.int t40]) (rest := []) hF (c_X7_pastBlanks l D ca sa A (((r0 0), .inr (6, [.ref (r0 1), .int (im50 0), .int (im50 1), .int (im50 2), .int (im50 3), .int (im50 4), .int (im50 5)])) :: ((r0 1), .inl (ca 0, 8, .inl (am50 0))) :: rest) (zl 0 [(r1 0), (r1 1)]) (zl 0 [(fi1 0)]) (zl 0 []) (zl (fun _ => 0) [(fa1 0)]) (zl (fun _ => 0) []) ho51 t40 hp52) (cwV 1 hts gX6_read_X7_pastBlanks rfl rfl rfl (by decide +kernel) ⟨Nat.le_of_ble_eq_true rfl, Nat.le_of_ble_eq_true rfl⟩) hE hP9 hD9 hS 7 0 rfl rfl rfl hl.1 rfl (Nat.le_of_ble_eq_true rfl) dX6_read_87 ⟨Nat.zero_le _, Nat.zero_le _⟩ (fun t54 u53 H locs hw55 hP hD hS => ?_)
            have hw55 : (t40.toInt ≤ t54.toInt ∧ t54.toInt ≤ 600) := hw55
            obtain hq56 := hw55
            have hP := va_P.part (pl := rest) (X := [((r1 0), .inr (7, [.ref (r1 1), .int (fi1 0)])), ((r1 1), .inl (ca 2, 600, .inl (fa1 0))), ((r0 0), .inr (6, [.ref (r0 1), .int (im50 0), .int (im50 1), .int (im50 2), .int (im50 3), .int (im50 4), .int (im50 5)])), ((r0 1), .inl (ca 0, 8, .inl (am50 0)))]) (cx := [((r0 0), .inr (6, [.ref (r0 1), .int (im50 0), .int (im50 1), .int (im50 2), .int (im50 3), .int (im50 4), .int (im50 5)])), ((r0 1), .inl (ca 0, 8, .inl (am50 0))), ((r1 0), .inr (7, [.ref (r1 1), .int (fi1 0)])), ((r1 1), .inl (ca 2, 600, .inl (fa1 0)))]) hP [2, 3, 0, 1] rfl
            have hD := va_D.part (pl := rest) (X := [((r1 0), .inr (7, [.ref (r1 1), .int (fi1 0)])), ((r1 1), .inl (ca 2, 600, .inl (fa1 0))), ((r0 0), .inr (6, [.ref (r0 1), .int (im50 0), .int (im50 1), .int (im50 2), .int (im50 3), .int (im50 4), .int (im50 5)])), ((r0 1), .inl (ca 0, 8, .inl (am50 0)))]) (cx := [((r0 0), .inr (6, [.ref (r0 1), .int (im50 0), .int (im50 1), .int (im50 2), .int (im50 3), .int (im50 4), .int (im50 5)])), ((r0 1), .inl (ca 0, 8, .inl (am50 0))), ((r1 0), .inr (7, [.ref (r1 1), .int (fi1 0)])), ((r1 1), .inl (ca 2, 600, .inl (fa1 0)))]) hD [2, 3, 0, 1] (by decide) rfl
            have hP : va_P D vwCl (((r0 0), .inr (6, [.ref (r0 1), .int (im50 0), .int (im50 1), .int (im50 2), .int (im50 3), .int (im50 4), .int (im50 5)])) :: ((r0 1), .inl (ca 0, 8, .inl (am50 0))) :: ((r1 0), .inr (7, [.ref (r1 1), .int (fi1 0)])) :: ((r1 1), .inl (ca 2, 600, .inl (fa1 0))) :: rest) H := hP
            have hD : va_D A (((r0 0), .inr (6, [.ref (r0 1), .int (im50 0), .int (im50 1), .int (im50 2), .int (im50 3), .int (im50 4), .int (im50 5)])) :: ((r0 1), .inl (ca 0, 8, .inl (am50 0))) :: ((r1 0), .inr (7, [.ref (r1 1), .int (fi1 0)])) :: ((r1 1), .inl (ca 2, 600, .inl (fa1 0))) :: rest) := hD
            refine lv_istore_n (lv' := [(2, .int t54), (4, .int t40), (0, .ref (r0 0)), (1, .ref (r1 0)), (3, .int x3_19)]) hx hb dX6_read_90 rfl hl (by decide) rfl (fun ls hl => ?_)
            obtain ⟨t57, et57⟩ : ∃ y : Int32, y = x3_19 + 1 := ⟨_, rfl⟩
            try have ht57 : t57.toInt = x3_19.toInt + 1 := z_add et57 rfl (by decide) (by omega) (by omega)
            refine lv_iinc (v := t57) (lv' := [(3, .int t57), (2, .int t54), (4, .int t40), (0, .ref (r0 0)), (1, .ref (r1 0))]) hx hb dX6_read_91 hl (k := 4) rfl (by rw [et57]; rfl) (by decide) rfl (fun ls hl => ?_)
            refine lv_goto (tgt := 47) hx hb dX6_read_94 (by decide) ?_
            have ho58 : (0 ≤ (im50 3).toInt ∧ (im50 3).toInt ≤ 7) ∧ ((im50 2).toInt = 1 → (im50 3).toInt ≤ 6) := ⟨⟨by omega, by omega⟩, by omega⟩
            have hj59 : 0 ≤ t57.toInt ∧ t57.toInt ≤ 600 ∧ 0 ≤ t54.toInt ∧ t54.toInt ≤ 600 := by omega
            have hm60 : (601 - t57.toInt).toNat < n19 := by omega
            exact ih19 t54 t57 (zl 0 [(im50 0), (im50 1), (im50 2), (im50 3), (im50 4), (im50 5)]) (zl 0 []) (zl (fun _ => 0) [(am50 0)]) (zl (fun _ => 0) []) _ _ hP hD hS ls (lv_sub hl [3, 4, 1, 0] rfl) ho58 hj59 hm60
  have ho61 : (0 ≤ (fi0 3).toInt ∧ (fi0 3).toInt ≤ 7) ∧ (t9.toInt = 1 → (fi0 3).toInt ≤ 6) := ⟨⟨by omega, by omega⟩, by omega⟩
  have hj62 : 0 ≤ t18.toInt ∧ t18.toInt ≤ 600 ∧ 0 ≤ t15.toInt ∧ t15.toInt ≤ 600 := by omega
  exact J47_19 ((601 - t18.toInt).toNat + 1) t15 t18 (zl 0 [t7, t8, t9, (fi0 3), t10, t11]) (zl 0 []) (zl (fun _ => 0) [g6]) (zl (fun _ => 0) []) _ _ hP hD hS ls (lv_sub hl [2, 3, 1, 0] rfl) ho61 hj62 (Nat.lt_succ_self _)
