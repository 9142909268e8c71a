set_option maxHeartbeats 8000000 in
set_option maxRecDepth 100000 in
theorem law_loop {p : Program} {e : Env} {s : State} {m : MethodId} {below : List Frame} {meth : Method} {c : Code} (l : Launch) {b L : Nat} {xs : Nat → Int32} (hL : L ≤ 3072) (C0 : lw_At p s m meth c b L xs) {D : va_G} {ca : Nat → ClassId} {sa : Nat → Nat} (hE : zE D ca sa (fun q : Nat => s.heap.size ≤ q) s s.heap) (rs : Nat → Nat → Nat) (rest : va_W) : ∀ (n : Nat) (st : Nat → zS) (x3 : Int32) (H : Heap) (locs : List Loc) (ls : Array Slot), 0 ≤ x3.toInt → x3.toInt ≤ (L : Int) → ((L : Int) + 1 - x3.toInt).toNat < n → zLaw D ca (fun q : Nat => s.heap.size ≤ q) rs rest st H → va_S (fun q : Nat => s.heap.size ≤ q) s.heap H locs → lv_has ls 4 [(0, .ref b), (1, .ref (rs 0 0)), (2, .ref (rs 9 0)), (3, .int x3)] → W p l e room_1 s m #[Value.ref b] below meth c H locs 119 16966 (lw_Z below #[Value.ref b] s) (F0 m 18 ls []) := by
  have C1 := C0
  obtain ⟨hx, hb, hr, hml, hown, hts0, hX, hbl, hlocks, hgv⟩ := C1
  have hbA : ¬ (fun q : Nat => s.heap.size ≤ q) b := Nat.not_le.mpr hbl
  intro n
  induction n with
  | zero => intro st x3 H locs ls h0 h1 hn; exact absurd hn (Nat.not_lt_zero _)
  | succ n ih =>
    intro st x3 H locs ls h0 h1 hn hZ hS hl
    refine lv_iload_n hx hb dL_law_18 rfl (lv_at hl 3 rfl) ?_
    refine lv_aload_n hx hb dL_law_19 rfl (lv_at hl 0 rfl) ?_
    refine va_slen hx hb hX hbl hbA hS dL_law_20 ?_
    refine lv_bipush (v := 6) hx hb dL_law_21 (by decide) ?_
    refine lv_isub hx hb dL_law_23 ?_
    refine lv_topi (fun t et => ?_)
    have hLi : (Int32.ofNat L).toInt = (L : Int) := nI_toInt (by omega)
    have ht : t.toInt = (L : Int) - 6 := z_sub et hLi (by decide) (by omega) (by omega)
    refine lv_icmp_gt (tgt := 767) hx hb dL_law_24 (by decide) (fun c1 => ?_) (fun c1 => ?_)
    · refine lv_iconst (v := 1) hx hb dL_law_767 (by decide) ?_
      refine va_forget (fun q hq => hS.2.2 q hq) ?_
      exact lw_ret hx hb hr hlocks dL_law_768
    · have c1 := z_nlt (i := (L : Int) - 6) (j := x3.toInt) ht rfl c1
      have hi : 0 ≤ x3.toInt ∧ x3.toInt + 6 ≤ (L : Int) := ⟨h0, by omega⟩
      have kk : ∀ (st : Nat → zS) (H : Heap) (locs : List Loc) (ls : Array Slot), zLaw D ca (fun q : Nat => s.heap.size ≤ q) rs rest st H → va_S (fun q : Nat => s.heap.size ≤ q) s.heap H locs → lv_has ls 4 [(0, .ref b), (1, .ref (rs 0 0)), (2, .ref (rs 9 0)), (3, .int x3)] → W p l e room_1 s m #[Value.ref b] below meth c H locs 119 16966 (lw_Z below #[Value.ref b] s) (F0 m 761 ls []) := by
        intro st H locs ls hZ hS hl
        obtain ⟨t1, et1⟩ : ∃ y : Int32, y = x3 + 6 := ⟨_, rfl⟩
        have ht1 : t1.toInt = x3.toInt + 6 := z_add et1 rfl (by decide) (by omega) (by omega)
        refine lv_iinc (v := t1) (lv' := [(3, .int t1), (0, .ref b), (1, .ref (rs 0 0)), (2, .ref (rs 9 0))]) hx hb dL_law_761 hl (k := 3) rfl (by rw [et1]; rfl) (by decide) rfl (fun ls hl => ?_)
        refine lv_goto (tgt := 18) hx hb dL_law_764 (by decide) ?_
        exact ih st t1 H locs ls (by omega) (by omega) (by omega) hZ hS (lv_sub hl [1, 2, 3, 0] rfl)
      have h2 : vp_in x3 L := z_in (i := x3.toInt) rfl (by omega) (by omega)
      refine lv_aload_n hx hb dL_law_27 rfl (lv_at hl 0 rfl) ?_
      refine lv_iload_n hx hb dL_law_28 rfl (lv_at hl 3 rfl) ?_
      refine va_sld hx hb hX hbl hbA hS h2 dL_law_29 ?_
      refine lv_bipush (v := 31) hx hb dL_law_30 (by decide) ?_
      refine lv_iand hx hb dL_law_32 ?_
      refine lv_topi (fun t3 et3 => ?_)
      by_cases d0 : t3.toInt = 0
      · refine lv_tableIn (tgt := 124) hx hb dL_law_33 (by omega) (by omega) (by rw [d0]; rfl) (by decide) ?_
        exact law_0 l hL C0 hbA hE rs rest st x3 hi H locs ls hZ hS hl kk
      by_cases d1 : t3.toInt = 1
      · refine lv_tableIn (tgt := 187) hx hb dL_law_33 (by omega) (by omega) (by rw [d1]; rfl) (by decide) ?_
        exact law_1 l hL C0 hbA hE rs rest st x3 hi H locs ls hZ hS hl kk
      by_cases d2 : t3.toInt = 2
      · refine lv_tableIn (tgt := 210) hx hb dL_law_33 (by omega) (by omega) (by rw [d2]; rfl) (by decide) ?_
        exact law_2 l hL C0 hbA hE rs rest st x3 hi H locs ls hZ hS hl kk
      by_cases d3 : t3.toInt = 3
      · refine lv_tableIn (tgt := 233) hx hb dL_law_33 (by omega) (by omega) (by rw [d3]; rfl) (by decide) ?_
        exact law_3 l hL C0 hbA hE rs rest st x3 hi H locs ls hZ hS hl kk
      by_cases d4 : t3.toInt = 4
      · refine lv_tableIn (tgt := 256) hx hb dL_law_33 (by omega) (by omega) (by rw [d4]; rfl) (by decide) ?_
        exact law_4 l hL C0 hbA hE rs rest st x3 hi H locs ls hZ hS hl kk
      by_cases d5 : t3.toInt = 5
      · refine lv_tableIn (tgt := 289) hx hb dL_law_33 (by omega) (by omega) (by rw [d5]; rfl) (by decide) ?_
        exact law_5 l hL C0 hbA hE rs rest st x3 hi H locs ls hZ hS hl kk
      by_cases d6 : t3.toInt = 6
      · refine lv_tableIn (tgt := 342) hx hb dL_law_33 (by omega) (by omega) (by rw [d6]; rfl) (by decide) ?_
        exact law_6 l hL C0 hbA hE rs rest st x3 hi H locs ls hZ hS hl kk
      by_cases d7 : t3.toInt = 7
      · refine lv_tableIn (tgt := 375) hx hb dL_law_33 (by omega) (by omega) (by rw [d7]; rfl) (by decide) ?_
        exact law_7 l hL C0 hbA hE rs rest st x3 hi H locs ls hZ hS hl kk
      by_cases d8 : t3.toInt = 8
      · refine lv_tableIn (tgt := 408) hx hb dL_law_33 (by omega) (by omega) (by rw [d8]; rfl) (by decide) ?_
        exact law_8 l hL C0 hbA hE rs rest st x3 hi H locs ls hZ hS hl kk
      by_cases d9 : t3.toInt = 9
      · refine lv_tableIn (tgt := 441) hx hb dL_law_33 (by omega) (by omega) (by rw [d9]; rfl) (by decide) ?_
        exact law_9 l hL C0 hbA hE rs rest st x3 hi H locs ls hZ hS hl kk
      by_cases d10 : t3.toInt = 10
      · refine lv_tableIn (tgt := 464) hx hb dL_law_33 (by omega) (by omega) (by rw [d10]; rfl) (by decide) ?_
        exact law_10 l hL C0 hbA hE rs rest st x3 hi H locs ls hZ hS hl kk
      by_cases d11 : t3.toInt = 11
      · refine lv_tableIn (tgt := 497) hx hb dL_law_33 (by omega) (by omega) (by rw [d11]; rfl) (by decide) ?_
        exact law_11 l hL C0 hbA hE rs rest st x3 hi H locs ls hZ hS hl kk
      by_cases d12 : t3.toInt = 12
      · refine lv_tableIn (tgt := 530) hx hb dL_law_33 (by omega) (by omega) (by rw [d12]; rfl) (by decide) ?_
        exact law_12 l hL C0 hbA hE rs rest st x3 hi H locs ls hZ hS hl kk
      by_cases d13 : t3.toInt = 13
      · refine lv_tableIn (tgt := 553) hx hb dL_law_33 (by omega) (by omega) (by rw [d13]; rfl) (by decide) ?_
        exact law_13 l hL C0 hbA hE rs rest st x3 hi H locs ls hZ hS hl kk
      by_cases d14 : t3.toInt = 14
      · refine lv_tableIn (tgt := 576) hx hb dL_law_33 (by omega) (by omega) (by rw [d14]; rfl) (by decide) ?_
        exact law_14 l hL C0 hbA hE rs rest st x3 hi H locs ls hZ hS hl kk
      by_cases d15 : t3.toInt = 15
      · refine lv_tableIn (tgt := 609) hx hb dL_law_33 (by omega) (by omega) (by rw [d15]; rfl) (by decide) ?_
        exact law_15 l hL C0 hbA hE rs rest st x3 hi H locs ls hZ hS hl kk
      by_cases d16 : t3.toInt = 16
      · refine lv_tableIn (tgt := 662) hx hb dL_law_33 (by omega) (by omega) (by rw [d16]; rfl) (by decide) ?_
        exact law_16 l hL C0 hbA hE rs rest st x3 hi H locs ls hZ hS hl kk
      by_cases d17 : t3.toInt = 17
      · refine lv_tableIn (tgt := 685) hx hb dL_law_33 (by omega) (by omega) (by rw [d17]; rfl) (by decide) ?_
        exact law_17 l hL C0 hbA hE rs rest st x3 hi H locs ls hZ hS hl kk
      by_cases d18 : t3.toInt = 18
      · refine lv_tableIn (tgt := 738) hx hb dL_law_33 (by omega) (by omega) (by rw [d18]; rfl) (by decide) ?_
        exact law_18 l hL C0 hbA hE rs rest st x3 hi H locs ls hZ hS hl kk
      refine lv_tableOut (tgt := 761) hx hb dL_law_33 (by omega) (by decide) ?_
      exact kk st H locs ls hZ hS hl
set_option maxHeartbeats 8000000 in
set_option maxRecDepth 100000 in
theorem whole_start {p : Program} {e : Env} {s : State} {m : MethodId} {below : List Frame} {meth : Method} {c : Code} (l : Launch) {b L : Nat} {xs : Nat → Int32} (hL : L ≤ 3072) (C0 : lw_At p s m meth c b L xs) : W p l e room_1 s m #[Value.ref b] below meth c s.heap [] 0 0 (lw_Z below #[Value.ref b] s) (entryFrame m ([Value.ref b] : List Value).toArray 4) := by
  have C1 := C0
  obtain ⟨hx, hb, hr, hml, hown, hts0, hX, hbl, hlocks, hgv⟩ := C1
  have hts : ∀ w ∈ wsL_law, w.before #[Value.ref b] s = true := fun w h => hts0 w (wsL_law_in w h)
  have hF : CallFix p m c cL_law 4 s #[Value.ref b] wsL_law RL := ⟨hx, hb, hml, hown, hts⟩
  obtain ⟨D, ca, sa, hE⟩ := z_entry hts0 hgv
  have hK := hE.1
  have hP : va_P D vwCl [] s.heap := fun k q h => by simp at h
  have hD : va_D (fun q : Nat => s.heap.size ≤ q) [] := ⟨fun i j p q h => by simp at h, fun k q h => by simp at h⟩
  have hS : va_S (fun q : Nat => s.heap.size ≤ q) s.heap s.heap [] := va_S.rf
  have inX8 : ∀ w ∈ wsX80, w ∈ wsL_law := by decide +kernel
  have inX9 : ∀ w ∈ wsX90, w ∈ wsL_law := by decide +kernel
  have hl := lv_entry ([.ref b]) (n := 4) (Nat.le_of_ble_eq_true rfl)
  rw [lg_entry_eq]
  generalize (lg_sl ([.ref b]) ++ List.replicate (4 - (lg_sl ([.ref b])).length) Slot.unset).toArray = ls at hl ⊢
  have hl : lv_has ls 4 [(0, .ref b)] := hl
  refine z_new (ci := 8) (fs := [.null, .null, .null, .null, .null, .null, .null, .null, .int 0]) (C := RX8) (T := TX8) (N := 9) hx hb hts inX8 tyX8 tyX8_ok hown (hts (.classLink RL 7 RX8) (by decide +kernel)) (hts (.instantiable RX8 9) (by decide +kernel)) (hts (.initialized RX8) (by decide +kernel)) hE hP hD hS rfl (fun j hj => by rcases (show j = 0 ∨ j = 1 ∨ j = 2 ∨ j = 3 ∨ j = 4 ∨ j = 5 ∨ j = 6 ∨ j = 7 ∨ j = 8 by omega) with rfl | rfl | rfl | rfl | rfl | rfl | rfl | rfl | rfl <;> rfl) (show 0 + 1 ≤ 119 by decide) (show 0 + 9 ≤ 16966 by decide) dL_law_0 (fun q1 H hP hD hS => ?_)
  refine W.widen (k := 1) (n := 9) (show 0 + 1 ≤ 1 by decide) (show 0 + 9 ≤ 9 by decide) ?_
  refine lv_dup hx hb dL_law_3 rfl ?_
  refine z_vI (As := []) (rest := [.ref q1]) hF (c_X8_init l D ca sa (fun q : Nat => s.heap.size ≤ q) [] q1) (cwI 0 hts ggL_law_X8_init rfl rfl rfl (hts (.initialized RX8) (by decide +kernel)) (hts (.methodLink RL 9 yX8_init) (by decide +kernel)) (hts (.instanceMethod yX8_init) (by decide +kernel)) rfl (by decide +kernel) ⟨Nat.le_of_ble_eq_true rfl, Nat.le_of_ble_eq_true rfl⟩) hE hP hD hS rfl hl.1 rfl (Nat.le_of_ble_eq_true rfl) dL_law_4 ⟨show 1 + 84 ≤ 119 by decide, show 9 + 10540 ≤ 16966 by decide⟩ (fun u H locs hw8 hP hD hS => ?_)
  obtain ⟨ad, sx⟩ := u
  refine W.widen (k := 85) (n := 10549) (show 1 + 84 ≤ 85 by decide) (show 9 + 10540 ≤ 10549 by decide) ?_
  have hP : va_P D vwCl ((q1, .inr (8, [.ref (ad 1 0), .ref (ad 2 0), .ref (ad 3 0), .ref (ad 4 0), .ref (ad 5 0), .ref (ad 6 0), .ref (ad 7 0), .ref (ad 8 0), .int ((sx 0).1 0)])) :: w_TAPE ca (ad 1) (sx 1).1 (sx 1).2.1 (sx 1).2.2.1 (sx 1).2.2.2 (w_RDR ca (ad 2) (sx 2).1 (sx 2).2.1 (sx 2).2.2.1 (sx 2).2.2.2 (w_WAYS ca (ad 3) (sx 3).1 (sx 3).2.1 (sx 3).2.2.1 (sx 3).2.2.2 (w_CHG ca (ad 4) (sx 4).1 (sx 4).2.1 (sx 4).2.2.1 (sx 4).2.2.2 (w_PRC ca (ad 5) (sx 5).1 (sx 5).2.1 (sx 5).2.2.1 (sx 5).2.2.2 (w_PLAY ca (ad 6) (ad 4 0) (sx 6).1 (sx 6).2.1 (sx 6).2.2.1 (sx 6).2.2.2 (w_PLAY ca (ad 7) (ad 4 0) (sx 7).1 (sx 7).2.1 (sx 7).2.2.1 (sx 7).2.2.2 (w_PLAY ca (ad 8) (ad 4 0) (sx 8).1 (sx 8).2.1 (sx 8).2.2.1 (sx 8).2.2.2 ([]))))))))) H := hP
  have hD : va_D (fun q : Nat => s.heap.size ≤ q) ((q1, .inr (8, [.ref (ad 1 0), .ref (ad 2 0), .ref (ad 3 0), .ref (ad 4 0), .ref (ad 5 0), .ref (ad 6 0), .ref (ad 7 0), .ref (ad 8 0), .int ((sx 0).1 0)])) :: w_TAPE ca (ad 1) (sx 1).1 (sx 1).2.1 (sx 1).2.2.1 (sx 1).2.2.2 (w_RDR ca (ad 2) (sx 2).1 (sx 2).2.1 (sx 2).2.2.1 (sx 2).2.2.2 (w_WAYS ca (ad 3) (sx 3).1 (sx 3).2.1 (sx 3).2.2.1 (sx 3).2.2.2 (w_CHG ca (ad 4) (sx 4).1 (sx 4).2.1 (sx 4).2.2.1 (sx 4).2.2.2 (w_PRC ca (ad 5) (sx 5).1 (sx 5).2.1 (sx 5).2.2.1 (sx 5).2.2.2 (w_PLAY ca (ad 6) (ad 4 0) (sx 6).1 (sx 6).2.1 (sx 6).2.2.1 (sx 6).2.2.2 (w_PLAY ca (ad 7) (ad 4 0) (sx 7).1 (sx 7).2.1 (sx 7).2.2.1 (sx 7).2.2.2 (w_PLAY ca (ad 8) (ad 4 0) (sx 8).1 (sx 8).2.1 (sx 8).2.2.1 (sx 8).2.2.2 ([]))))))))) := hD
  generalize hw : ((q1, .inr (8, [.ref (ad 1 0), .ref (ad 2 0), .ref (ad 3 0), .ref (ad 4 0), .ref (ad 5 0), .ref (ad 6 0), .ref (ad 7 0), .ref (ad 8 0), .int ((sx 0).1 0)])) :: w_TAPE ca (ad 1) (sx 1).1 (sx 1).2.1 (sx 1).2.2.1 (sx 1).2.2.2 (w_RDR ca (ad 2) (sx 2).1 (sx 2).2.1 (sx 2).2.2.1 (sx 2).2.2.2 (w_WAYS ca (ad 3) (sx 3).1 (sx 3).2.1 (sx 3).2.2.1 (sx 3).2.2.2 (w_CHG ca (ad 4) (sx 4).1 (sx 4).2.1 (sx 4).2.2.1 (sx 4).2.2.2 (w_PRC ca (ad 5) (sx 5).1 (sx 5).2.1 (sx 5).2.2.1 (sx 5).2.2.2 (w_PLAY ca (ad 6) (ad 4 0) (sx 6).1 (sx 6).2.1 (sx 6).2.2.1 (sx 6).2.2.2 (w_PLAY ca (ad 7) (ad 4 0) (sx 7).1 (sx 7).2.1 (sx 7).2.2.1 (sx 7).2.2.2 (w_PLAY ca (ad 8) (ad 4 0) (sx 8).1 (sx 8).2.1 (sx 8).2.2.1 (sx 8).2.2.2 ([])))))))) : va_W) = wx at hP hD
  refine lv_astore_n (lv' := [(1, .ref q1), (0, .ref b)]) hx hb dL_law_7 rfl hl (by decide) rfl (fun ls hl => ?_)
  refine z_new (ci := 9) (fs := [.null, .int 0, .int 0, .int 0, .int 0, .int 0, .int 0, .int 0, .int 0, .int 0, .null, .int 0, .null, .null, .null, .null, .null, .null, .null, .null, .null, .null, .null, .null, .null, .null, .null, .null, .null, .null, .null, .null, .null, .null, .null, .null, .null, .null, .null, .null, .null, .null, .int 0, .null]) (C := RX9) (T := TX9) (N := 44) hx hb hts inX9 tyX9 tyX9_ok hown (hts (.classLink RL 10 RX9) (by decide +kernel)) (hts (.instantiable RX9 44) (by decide +kernel)) (hts (.initialized RX9) (by decide +kernel)) hE hP hD hS rfl (fun j hj => by rcases (show j = 0 ∨ j = 1 ∨ j = 2 ∨ j = 3 ∨ j = 4 ∨ j = 5 ∨ j = 6 ∨ j = 7 ∨ j = 8 ∨ j = 9 ∨ j = 10 ∨ j = 11 ∨ j = 12 ∨ j = 13 ∨ j = 14 ∨ j = 15 ∨ j = 16 ∨ j = 17 ∨ j = 18 ∨ j = 19 ∨ j = 20 ∨ j = 21 ∨ j = 22 ∨ j = 23 ∨ j = 24 ∨ j = 25 ∨ j = 26 ∨ j = 27 ∨ j = 28 ∨ j = 29 ∨ j = 30 ∨ j = 31 ∨ j = 32 ∨ j = 33 ∨ j = 34 ∨ j = 35 ∨ j = 36 ∨ j = 37 ∨ j = 38 ∨ j = 39 ∨ j = 40 ∨ j = 41 ∨ j = 42 ∨ j = 43 by omega) with rfl | rfl | rfl | rfl | rfl | rfl | rfl | rfl | rfl | rfl | rfl | rfl | rfl | rfl | rfl | rfl | rfl | rfl | rfl | rfl | rfl | rfl | rfl | rfl | rfl | rfl | rfl | rfl | rfl | rfl | rfl | rfl | rfl | rfl | rfl | rfl | rfl | rfl | rfl | rfl | rfl | rfl | rfl | rfl <;> rfl) (show 85 + 1 ≤ 119 by decide) (show 10549 + 44 ≤ 16966 by decide) dL_law_8 (fun q2 H hP hD hS => ?_)
  refine W.widen (k := 86) (n := 10593) (show 85 + 1 ≤ 86 by decide) (show 10549 + 44 ≤ 10593 by decide) ?_
  refine lv_dup hx hb dL_law_11 rfl ?_
  refine z_vI (As := []) (rest := [.ref q2]) hF (c_X9_init l D ca sa (fun q : Nat => s.heap.size ≤ q) wx q2) (cwI 0 hts ggL_law_X9_init rfl rfl rfl (hts (.initialized RX9) (by decide +kernel)) (hts (.methodLink RL 12 yX9_init) (by decide +kernel)) (hts (.instanceMethod yX9_init) (by decide +kernel)) rfl (by decide +kernel) ⟨Nat.le_of_ble_eq_true rfl, Nat.le_of_ble_eq_true rfl⟩) hE hP hD hS rfl hl.1 rfl (Nat.le_of_ble_eq_true rfl) dL_law_12 ⟨show 86 + 33 ≤ 119 by decide, show 10593 + 6373 ≤ 16966 by decide⟩ (fun u H locs hw9 hP hD hS => ?_)
  obtain ⟨a9, s9⟩ := u
  refine W.widen (k := 119) (n := 16966) (show 86 + 33 ≤ 119 by decide) (show 10593 + 6373 ≤ 16966 by decide) ?_
  refine lv_astore_n (lv' := [(2, .ref q2), (1, .ref q1), (0, .ref b)]) hx hb dL_law_15 rfl hl (by decide) rfl (fun ls hl => ?_)
  refine lv_iconst (v := 0) hx hb dL_law_16 (by decide) ?_
  refine lv_topi (fun t et => ?_)
  have ht : t.toInt = 0 := by rw [et]; decide
  refine lv_istore_n (lv' := [(3, .int t), (2, .ref q2), (1, .ref q1), (0, .ref b)]) hx hb dL_law_17 rfl hl (by decide) rfl (fun ls hl => ?_)
  rw [← hw] at hP hD
  obtain ⟨o0, f0_0, o1, f1_0, f1_1, o2, f2_0, f2_1, o3, o4, f4_0, f4_1, f4_2, f4_3, f4_4, f4_5, f4_6, f4_7, f4_8, f4_9, f4_10, o5, o6, o7, o8⟩ := hw8
  obtain ⟨o9, f9_0, f9_1, f9_2, f9_3, f9_4, f9_5, f9_6, f9_7, f9_8, f9_9, f9_10, f9_11, f9_12, f9_13⟩ := hw9
  have hZ : zLaw D ca (fun q : Nat => s.heap.size ≤ q) (zl (fun _ => 0) [(fun _ => q1), ad 1, ad 2, ad 3, ad 4, ad 5, ad 6, ad 7, ad 8, zl q2 [q2, a9 1, a9 2, a9 3, a9 4, a9 5, a9 6, a9 7, a9 8, a9 9, a9 10, a9 11, a9 12, a9 13, a9 14, a9 15, a9 16, a9 17, a9 18, a9 19, a9 20, a9 21, a9 22, a9 23, a9 24, a9 25, a9 26, a9 27, a9 28, a9 29, a9 30, a9 31, a9 32, a9 33]]) [] (zl zS0 [sx 0, sx 1, sx 2, sx 3, sx 4, sx 5, sx 6, sx 7, sx 8, s9]) H := ⟨hP, hD, o9, o0, o1, o2, o3, o4, o5, o6, o7, o8, (by show ((sx 1).1 0).toInt = (s9.1 0).toInt; rw [f1_0, f9_0]), (by show ((sx 0).1 0).toInt = (s9.1 10).toInt; rw [f0_0, f9_4]), (by show zR1 ((sx 4).1 0) (s9.1 9) ((sx 4).2.2.1 0) ((sx 4).2.2.1 1) ((sx 4).2.2.1 2) ((sx 4).2.2.1 3) ((sx 4).2.2.1 4) ((sx 4).2.2.1 5) ((sx 4).2.2.1 6) ((sx 4).2.2.1 7) (s9.2.2.1 2) (s9.2.2.1 3) (s9.2.2.1 4) (s9.2.2.1 5) (s9.2.2.1 6) (s9.2.2.1 7) (s9.2.2.1 9) (s9.2.2.1 8) ((sx 4).2.2.2 0); rw [f4_0, f9_3, f4_2, f4_3, f4_4, f4_5, f4_6, f4_7, f4_8, f4_9, f9_6, f9_7, f9_8, f9_9, f9_10, f9_11, f9_13, f9_12, f4_10]; exact zR1_0), (by show zR4 ((sx 1).2.2.1 0) (s9.2.2.1 0); rw [f1_1, f9_5]; exact zR4_0)⟩
  exact law_loop l hL C0 hE _ [] (((L : Int) + 1 - t.toInt).toNat + 1) _ t H locs ls (by omega) (by omega) (Nat.lt_succ_self _) hZ hS (lv_sub hl [3, 2, 1, 0] rfl)
set_option maxHeartbeats 4000000 in
theorem lw_walk (l : Launch) (b : Addr) (xs : List Int32) : MetFree l x (headSpec (Jvm.Cond.code x code maxLocals ret :: tables_1) room_1) (lw_P b xs) (fun _ _ _ _ _ => True) lw_Q := by
  refine MetFree.of_bodyS (code := code) (maxLocals := maxLocals) (ret := ret) (by decide) ?_ ?_
  · intro args s m h hn
    obtain ⟨meth, c, h1, h2, h3, h4, h5, h6, -, -⟩ := Cond.code_spec hn (atoms_spec (ws := Jvm.Cond.code x code maxLocals ret :: tables_1) h _ List.mem_cons_self)
    exact ⟨meth, c, h1, h2, h3, h4, h5, h6⟩
  · intro p e s m args below meth c s₁ B hml0 hP _
    obtain ⟨rfl, hx, hbd, hgv⟩ := hP
    obtain ⟨scr, harrAt, hlist, hof, hsmall⟩ := hx
    obtain ⟨hcb, hkn, -, -⟩ := State.arrayAt?_spec harrAt
    have hown : s.vm.findClass R_law = some m.cls := findClass_of_methodNamed B.named
    have hts0 : ∀ c ∈ (Jvm.Cond.code x code maxLocals ret :: tables_1), c.before #[Value.ref b] s = true := atoms_spec (ws := Jvm.Cond.code x code maxLocals ret :: tables_1) B.pre
    have hts : ∀ w ∈ lw_tbl, w.before #[Value.ref b] s = true := k2_hts_sels lw_privs (fun w hw => hts0 w (List.mem_cons_of_mem _ hw)) lw_privs_ok
    have hml : c.maxLocals = 4 := B.maxLocals_eq (hts0 _ List.mem_cons_self)
    have X₀ : Stand p l e room_1 s m #[Value.ref b] below meth c s₁ [] 0 0 := Stand.of_body B
    have hh0 : s₁.heap = s.heap := by rw [B.state]; rfl
    have hsz : scr.slots.size = xs.length := by rw [← Array.length_toList, hlist, List.length_map]
    have hval : ∀ j : Nat, j < xs.length → scr.slots[j]? = some (.int (xs.getD j 0)) := fun j hj => by
      rw [← Array.getElem?_toList, hlist]
      simp [hj]
    have hbl : b < s.heap.size := (Array.getElem?_eq_some_iff.mp hcb).1
    have hX : va_X b xs.length (fun j => xs.getD j 0) s s.heap := ⟨scr, hcb, hof, hkn, hsz, hval⟩
    have K : W p l e room_1 s m #[Value.ref b] below meth c s₁.heap [] 0 0 (lw_Z below #[Value.ref b] s) (entryFrame m ([Value.ref b] : List Value).toArray 4) := by
      rw [hh0]
      exact whole_start l hbd ⟨B.exec, B.bytes, B.returns, hml, hown, hts, hX, hbl, B.notSynchronized, hgv⟩
    obtain ⟨t, a1, o, b1, b2, b3⟩ := K s₁ rfl X₀
    exact ⟨t, o, a1, b1, b2, b3⟩
theorem lw_pre_spec {args : Array Value} {s : State} (h : (Jvm.Cond.and given_1 narrow_1).before args s = true) (hr : rest_1_c.before args s = true) : ∃ (b : Addr) (xs : List Int32), lw_P b xs args s := by
  have hs := flat_of_before _ h
  have hq := flat_of_before _ hr
  have hc : (Cond.count 1).before args s = true := hs _ (by decide +kernel)
  have harr : (Cond.arrayOf (.arg 0) .int).before args s = true := hs _ (by decide +kernel)
  have hle : (Cond.le (.length (.arg 0)) (.int 3072)).before args s = true := hs _ (by decide +kernel)
  have hlen : (Cond.isInt (.length (.arg 0))).before args s = true := hq _ (by decide +kernel)
  have hall : (Cond.all (.arg 0) (.isInt (.elem (.arg 0) (.index 0)))).before args s = true := hq _ (by decide +kernel)
  obtain ⟨b, xs, hb, hx⟩ := State.ints_of_pre rfl harr hlen hall
  have hsm : xs.length < 2 ^ 31 := hx.choose_spec.2.2.2
  have hev : (Term.length (.arg 0)).eval args s none [] s = some (.int xs.length.toInt32) := hx.length_eval hb
  have hv := Cond.le_ints hev (show (Term.int 3072).eval args s none [] s = some (.int 3072) from rfl)
  have hd : xs.length.toInt32 ≤ 3072 := by
    simpa [Cond.before, Cond.holds, hv] using hle
  have hN : xs.length ≤ 3072 := (Int32.ofNat_le_ofNat hsm (by decide)).mp (show Int32.ofNat xs.length ≤ Int32.ofNat 3072 from hd)
  exact ⟨b, xs, Cond.one_arg hc (show args[0]? = some (.ref b) from hb), hx, hN, h⟩
theorem lw_comes (l : Launch) : Comes l x (Jvm.Cond.code x code maxLocals ret :: tables_1) room_1 (fun tb e args s => Calls_1 tb e args s ∧ rest_1 tb e args s ∧ Pre_1 tb e args s)
    (fun _ _ args s o t => lw_Q args s o t) := by
  intro p e ha hc hk s m args below hf hfit hheap happ hpre
  obtain ⟨b, xs, hP⟩ := lw_pre_spec hpre.2.2 hpre.2.1
  obtain ⟨k, o, h1, h2, h3, hQ⟩ := lw_walk l b xs p e ha hc hk s m args below hf ((Spec.applies_iff_loose hf).mp happ).1 hP trivial
  exact ⟨k, o, h1, h2, h3, hQ⟩
theorem lw_frame {s t : State} {o : Outcome} {args : Array Value} (h : Framed s o t [] 119 16966) :
    Framed s o t (fieldLocs frame_1_writes args s ++ arrayLocs frame_1_arrays args s ++ staticLocs frame_1_statics s) 119 16966 := h
theorem lw_limb (L : Cond) (hL : ∀ (args : Array Value) (s t : State), L.after args s (.returned (some (.int 1))) t = true) :
    ArmFor flags0 classFile x code maxLocals ret World_1 tables_1 room_1 Calls_1 rest_1 Pre_1
      (fun tb e a s o t => postC L tb e a s o t ∧ Framed s o t (fieldLocs frame_1_writes a s ++ arrayLocs frame_1_arrays a s ++ staticLocs frame_1_statics s) 119 16966) := by
  intro l _ _ _ p e ha hc hk s m args below hf hfit hheap happ hpre
  obtain ⟨k, o, h1, h2, h3, rfl, hF⟩ := lw_comes l p e ha hc hk s m args below hf hfit hheap happ hpre
  exact ⟨k, _, h1, h2, h3, hL args s _, lw_frame hF⟩
theorem i_vc : Claimed_1_1 ∧ Claimed_1_2 := ⟨lw_limb limb_1_1 (fun args s t => by simp [limb_1_1, Cond.after, Cond.holds, Cond.value]), lw_limb limb_1_2 (fun args s t => Cond.after_iff.mpr (by
  first | (rw [show limb_1_2 = Cond.eq .result (.int 1) from rfl, Cond.eq_ints (x := 1) (y := 1) rfl rfl]; simp; done) | (simp [limb_1_2, Cond.value, Term.eval]; done)))⟩
