set_option maxHeartbeats 8000000 in
set_option maxRecDepth 100000 in
theorem law_10 {p : Program} {e : Env} {s : State} {m : MethodId} {below : List Frame} {meth : Method} {c : Code} (l : Launch) {b L : Nat} {xs : Nat → Int32} (hL : L ≤ 3072) (C0 : lw_At p s m meth c b L xs) {D : va_G} {ca : Nat → ClassId} {sa : Nat → Nat} {A : Nat → Prop} (hbA : ¬ A b) (hE : zE D ca sa A s s.heap) (rs : Nat → Nat → Nat) (rest : va_W) (st : Nat → zS) (x3 : Int32) (hi : 0 ≤ x3.toInt ∧ x3.toInt + 6 ≤ (L : Int)) (H : Heap) (locs : List Loc) (ls : Array Slot) (hZ : zLaw D ca A rs rest st H) (hS : va_S A s.heap H locs) (hl : lv_has ls 4 [(0, .ref b), (1, .ref (rs 0 0)), (2, .ref (rs 9 0)), (3, .int x3)])
    (kk : ∀ (st : Nat → zS) (H : Heap) (locs : List Loc) (ls : Array Slot), zLaw D ca A rs rest st H → va_S A s.heap H locs → lv_has ls 4 [(0, .ref b), (1, .ref (rs 0 0)), (2, .ref (rs 9 0)), (3, .int x3)] → W p l e room_1 s m #[Value.ref b] below meth c H locs 119 16966 (lw_Z below #[Value.ref b] s) (F0 m 761 ls [])) : W p l e room_1 s m #[Value.ref b] below meth c H locs 119 16966 (lw_Z below #[Value.ref b] s) (F0 m 464 ls []) := by
  obtain ⟨hx, hb, hr, hml, hown, hts0, hX, hbl, hlocks, hgv⟩ := C0
  have hts : ∀ w ∈ wsL_law, w.before #[Value.ref b] s = true := fun w h => hts0 w (wsL_law_in w h)
  have hK := hE.1
  have hF : CallFix p m c cL_law 4 s #[Value.ref b] wsL_law RL := ⟨hx, hb, hml, hown, hts⟩
  obtain ⟨hP, hD, hv0, hv1, hv2, hv3, hv4, hv5, hv6, hv7, hv8, hv9, hrel0, hrel1, hR1, hR4⟩ := hZ
  have hk0 := hv0
  obtain ⟨⟨hv0i0, hv0j0⟩, ⟨hv0i1, hv0j1⟩, ⟨hv0i5, hv0j5⟩, ⟨hv0i9, hv0j9⟩, hv0a6, hv0a8, hv0a9, hv0a23, hv0a27, hv0a28, hv0x0, hv0y0⟩ := hv0
  have hk1 := hv1
  have hk2 := hv2
  obtain ⟨hv2i0, hv2j0⟩ := hv2
  have hk3 := hv3
  obtain ⟨⟨hv3i3, hv3j3⟩, hv3x0⟩ := hv3
  have hk4 := hv4
  have hk5 := hv5
  obtain ⟨⟨hv5i0, hv5j0⟩, hv5a6⟩ := hv5
  have hk6 := hv6
  have hk7 := hv7
  obtain ⟨⟨hv7i0, hv7j0⟩, ⟨hv7i4, hv7j4⟩, ⟨hv7i5, hv7j5⟩, ⟨hv7i6, hv7j6⟩, ⟨hv7i7, hv7j7⟩, hv7a3, hv7a4, hv7a5, hv7a6⟩ := hv7
  have hk8 := hv8
  obtain ⟨⟨hv8i0, hv8j0⟩, ⟨hv8i4, hv8j4⟩, ⟨hv8i5, hv8j5⟩, ⟨hv8i6, hv8j6⟩, ⟨hv8i7, hv8j7⟩, hv8a3, hv8a4, hv8a5, hv8a6⟩ := hv8
  have hk9 := hv9
  obtain ⟨⟨hv9i0, hv9j0⟩, ⟨hv9i4, hv9j4⟩, ⟨hv9i5, hv9j5⟩, ⟨hv9i6, hv9j6⟩, ⟨hv9i7, hv9j7⟩, hv9a3, hv9a4, hv9a5, hv9a6⟩ := hv9
  have hnm : ((st 4).1 0).toInt = ((st 9).1 9).toInt := by rw [hR1.1]
  refine lv_aload_n hx hb dL_law_464 rfl (lv_at hl 1 rfl) ?_
  refine lv_aload_n hx hb dL_law_465 rfl (lv_at hl 0 rfl) ?_
  refine lv_iload_n hx hb dL_law_466 rfl (lv_at hl 3 rfl) ?_
  refine lv_iconst (v := 1) hx hb dL_law_467 (by decide) ?_
  refine lv_iadd hx hb dL_law_468 ?_
  refine lv_topi (fun t1 et1 => ?_)
  try have ht1 : t1.toInt = x3.toInt + 1 := z_add et1 rfl (by decide) (by omega -splitDisjunctions) (by omega -splitDisjunctions)
  have hi2 : vp_in t1 L := z_in (i := t1.toInt) rfl (by omega) (by omega)
  refine va_sld hx hb hX hbl hbA hS hi2 dL_law_469 ?_
  refine lv_topi (fun t3 et3 => ?_)
  refine lv_aload_n hx hb dL_law_470 rfl (lv_at hl 0 rfl) ?_
  refine lv_iload_n hx hb dL_law_471 rfl (lv_at hl 3 rfl) ?_
  refine lv_iconst (v := 2) hx hb dL_law_472 (by decide) ?_
  refine lv_iadd hx hb dL_law_473 ?_
  refine lv_topi (fun t4 et4 => ?_)
  try have ht4 : t4.toInt = x3.toInt + 2 := z_add et4 rfl (by decide) (by omega -splitDisjunctions) (by omega -splitDisjunctions)
  have hi5 : vp_in t4 L := z_in (i := t4.toInt) rfl (by omega) (by omega)
  refine va_sld hx hb hX hbl hbA hS hi5 dL_law_474 ?_
  refine lv_topi (fun t6 et6 => ?_)
  have hPD9 := pf_0_6_4 ca rs st rest hP hD
  refine z_iV (As := [.int t3, .int t6]) (rest := []) hF (c_X8_told l D ca sa A (wO_0_6_4 ca rs st rest) (rs 0) (rs 6) (rs 4) (rs 1 0) (rs 2 0) (rs 3 0) (rs 5 0) (rs 7 0) (rs 8 0) (st 0).1 (st 0).2.1 (st 0).2.2.1 (st 0).2.2.2 hk1 (st 6).1 (st 6).2.1 (st 6).2.2.1 (st 6).2.2.2 hk7 (st 4).1 (st 4).2.1 (st 4).2.2.1 (st 4).2.2.2 hk5 t3 t6) (cwV 2 hts gL_law_X8_told rfl rfl rfl (by decide +kernel) ⟨Nat.le_of_ble_eq_true rfl, Nat.le_of_ble_eq_true rfl⟩) hE hPD9.1 hPD9.2 hS 8 0 rfl rfl rfl hl.1 rfl (Nat.le_of_ble_eq_true rfl) dL_law_475 ⟨show 119 + 0 ≤ 119 by decide, show 16966 + 0 ≤ 16966 by decide⟩ (fun t8 u7 H locs hw9 hP hD hS => ?_)
  have hPD := pb_0_6_4 ca rs st rest (st 0) (st 6) (st 4) hP hD
  have hP := hPD.1
  have hD := hPD.2
  refine lv_pop hx hb dL_law_478 rfl ?_
  refine lv_aload_n hx hb dL_law_479 rfl (lv_at hl 2 rfl) ?_
  refine lv_aload_n hx hb dL_law_480 rfl (lv_at hl 0 rfl) ?_
  refine lv_iload_n hx hb dL_law_481 rfl (lv_at hl 3 rfl) ?_
  refine lv_iconst (v := 1) hx hb dL_law_482 (by decide) ?_
  refine lv_iadd hx hb dL_law_483 ?_
  refine lv_topi (fun t10 et10 => ?_)
  try have ht10 : t10.toInt = x3.toInt + 1 := z_add et10 rfl (by decide) (by omega -splitDisjunctions) (by omega -splitDisjunctions)
  have hi11 : vp_in t10 L := z_in (i := t10.toInt) rfl (by omega) (by omega)
  refine va_sld hx hb hX hbl hbA hS hi11 dL_law_484 ?_
  rw [show xs t10.toNatClampNeg = t3 from by rw [et3, et10, et1]]
  refine lv_aload_n hx hb dL_law_485 rfl (lv_at hl 0 rfl) ?_
  refine lv_iload_n hx hb dL_law_486 rfl (lv_at hl 3 rfl) ?_
  refine lv_iconst (v := 2) hx hb dL_law_487 (by decide) ?_
  refine lv_iadd hx hb dL_law_488 ?_
  refine lv_topi (fun t12 et12 => ?_)
  try have ht12 : t12.toInt = x3.toInt + 2 := z_add et12 rfl (by decide) (by omega -splitDisjunctions) (by omega -splitDisjunctions)
  have hi13 : vp_in t12 L := z_in (i := t12.toInt) rfl (by omega) (by omega)
  refine va_sld hx hb hX hbl hbA hS hi13 dL_law_489 ?_
  rw [show xs t12.toNatClampNeg = t6 from by rw [et6, et12, et4]]
  have hP : va_P D vwCl (w_MOD ca (rs 9) (st 9).1 (st 9).2.1 (st 9).2.2.1 (st 9).2.2.2 (wR9 ca rs (zl zS0 [(st 0), (st 1), (st 2), (st 3), (st 4), (st 5), (st 6), (st 7), (st 8), (st 9)]) rest)) H := hP
  have hD : va_D A (w_MOD ca (rs 9) (st 9).1 (st 9).2.1 (st 9).2.2.1 (st 9).2.2.2 (wR9 ca rs (zl zS0 [(st 0), (st 1), (st 2), (st 3), (st 4), (st 5), (st 6), (st 7), (st 8), (st 9)]) rest)) := hD
  refine z_iV (As := [.int t3, .int t6]) (rest := []) hF (c_X9_told l D ca sa A (wR9 ca rs (zl zS0 [(st 0), (st 1), (st 2), (st 3), (st 4), (st 5), (st 6), (st 7), (st 8), (st 9)]) rest) (rs 9) (st 9).1 (st 9).2.1 (st 9).2.2.1 (st 9).2.2.2 hk0 t3 t6) (cwV 2 hts gL_law_X9_told rfl rfl rfl (by decide +kernel) ⟨Nat.le_of_ble_eq_true rfl, Nat.le_of_ble_eq_true rfl⟩) hE hP hD hS 9 0 rfl rfl rfl hl.1 rfl (Nat.le_of_ble_eq_true rfl) dL_law_490 ⟨show 119 + 0 ≤ 119 by decide, show 16966 + 0 ≤ 16966 by decide⟩ (fun t15 u14 H locs hw16 hP hD hS => ?_)
  have hPD := pc9 ca rs (st 0) (st 1) (st 2) (st 3) (st 4) (st 5) (st 6) (st 7) (st 8) (st 9) (st 9) rest hP hD
  refine lv_pop hx hb dL_law_493 rfl ?_
  refine lv_goto (tgt := 761) hx hb dL_law_494 (by decide) ?_
  have hrl17 : ((st 1).1 0).toInt = ((st 9).1 0).toInt := by omega
  have hrl18 : ((st 0).1 0).toInt = ((st 9).1 10).toInt := by omega
  have hrl19 : zR1 ((st 4).1 0) ((st 9).1 9) ((st 4).2.2.1 0) ((st 4).2.2.1 1) ((st 4).2.2.1 2) ((st 4).2.2.1 3) ((st 4).2.2.1 4) ((st 4).2.2.1 5) ((st 4).2.2.1 6) ((st 4).2.2.1 7) ((st 9).2.2.1 2) ((st 9).2.2.1 3) ((st 9).2.2.1 4) ((st 9).2.2.1 5) ((st 9).2.2.1 6) ((st 9).2.2.1 7) ((st 9).2.2.1 9) ((st 9).2.2.1 8) ((st 4).2.2.2 0) := hR1
  have hrl20 : zR4 ((st 1).2.2.1 0) ((st 9).2.2.1 0) := hR4
  exact kk (zl zS0 [(st 0), (st 1), (st 2), (st 3), (st 4), (st 5), (st 6), (st 7), (st 8), (st 9)]) _ _ ls ⟨hPD.1, hPD.2, hk0, hk1, hk2, hk3, hk4, hk5, hk6, hk7, hk8, hk9, hrl17, hrl18, hrl19, hrl20⟩ hS (lv_sub hl [0, 1, 2, 3] rfl)

set_option maxHeartbeats 8000000 in
set_option maxRecDepth 100000 in
theorem law_11 {p : Program} {e : Env} {s : State} {m : MethodId} {below : List Frame} {meth : Method} {c : Code} (l : Launch) {b L : Nat} {xs : Nat → Int32} (hL : L ≤ 3072) (C0 : lw_At p s m meth c b L xs) {D : va_G} {ca : Nat → ClassId} {sa : Nat → Nat} {A : Nat → Prop} (hbA : ¬ A b) (hE : zE D ca sa A s s.heap) (rs : Nat → Nat → Nat) (rest : va_W) (st : Nat → zS) (x3 : Int32) (hi : 0 ≤ x3.toInt ∧ x3.toInt + 6 ≤ (L : Int)) (H : Heap) (locs : List Loc) (ls : Array Slot) (hZ : zLaw D ca A rs rest st H) (hS : va_S A s.heap H locs) (hl : lv_has ls 4 [(0, .ref b), (1, .ref (rs 0 0)), (2, .ref (rs 9 0)), (3, .int x3)])
    (kk : ∀ (st : Nat → zS) (H : Heap) (locs : List Loc) (ls : Array Slot), zLaw D ca A rs rest st H → va_S A s.heap H locs → lv_has ls 4 [(0, .ref b), (1, .ref (rs 0 0)), (2, .ref (rs 9 0)), (3, .int x3)] → W p l e room_1 s m #[Value.ref b] below meth c H locs 119 16966 (lw_Z below #[Value.ref b] s) (F0 m 761 ls [])) : W p l e room_1 s m #[Value.ref b] below meth c H locs 119 16966 (lw_Z below #[Value.ref b] s) (F0 m 497 ls []) := by
  obtain ⟨hx, hb, hr, hml, hown, hts0, hX, hbl, hlocks, hgv⟩ := C0
  have hts : ∀ w ∈ wsL_law, w.before #[Value.ref b] s = true := fun w h => hts0 w (wsL_law_in w h)
  have hK := hE.1
  have hF : CallFix p m c cL_law 4 s #[Value.ref b] wsL_law RL := ⟨hx, hb, hml, hown, hts⟩
  obtain ⟨hP, hD, hv0, hv1, hv2, hv3, hv4, hv5, hv6, hv7, hv8, hv9, hrel0, hrel1, hR1, hR4⟩ := hZ
  have hk0 := hv0
  obtain ⟨⟨hv0i0, hv0j0⟩, ⟨hv0i1, hv0j1⟩, ⟨hv0i5, hv0j5⟩, ⟨hv0i9, hv0j9⟩, hv0a6, hv0a8, hv0a9, hv0a23, hv0a27, hv0a28, hv0x0, hv0y0⟩ := hv0
  have hk1 := hv1
  have hk2 := hv2
  obtain ⟨hv2i0, hv2j0⟩ := hv2
  have hk3 := hv3
  obtain ⟨⟨hv3i3, hv3j3⟩, hv3x0⟩ := hv3
  have hk4 := hv4
  have hk5 := hv5
  obtain ⟨⟨hv5i0, hv5j0⟩, hv5a6⟩ := hv5
  have hk6 := hv6
  have hk7 := hv7
  obtain ⟨⟨hv7i0, hv7j0⟩, ⟨hv7i4, hv7j4⟩, ⟨hv7i5, hv7j5⟩, ⟨hv7i6, hv7j6⟩, ⟨hv7i7, hv7j7⟩, hv7a3, hv7a4, hv7a5, hv7a6⟩ := hv7
  have hk8 := hv8
  obtain ⟨⟨hv8i0, hv8j0⟩, ⟨hv8i4, hv8j4⟩, ⟨hv8i5, hv8j5⟩, ⟨hv8i6, hv8j6⟩, ⟨hv8i7, hv8j7⟩, hv8a3, hv8a4, hv8a5, hv8a6⟩ := hv8
  have hk9 := hv9
  obtain ⟨⟨hv9i0, hv9j0⟩, ⟨hv9i4, hv9j4⟩, ⟨hv9i5, hv9j5⟩, ⟨hv9i6, hv9j6⟩, ⟨hv9i7, hv9j7⟩, hv9a3, hv9a4, hv9a5, hv9a6⟩ := hv9
  have hnm : ((st 4).1 0).toInt = ((st 9).1 9).toInt := by rw [hR1.1]
  refine lv_aload_n hx hb dL_law_497 rfl (lv_at hl 1 rfl) ?_
  refine lv_aload_n hx hb dL_law_498 rfl (lv_at hl 0 rfl) ?_
  refine lv_iload_n hx hb dL_law_499 rfl (lv_at hl 3 rfl) ?_
  refine lv_iconst (v := 1) hx hb dL_law_500 (by decide) ?_
  refine lv_iadd hx hb dL_law_501 ?_
  refine lv_topi (fun t1 et1 => ?_)
  try have ht1 : t1.toInt = x3.toInt + 1 := z_add et1 rfl (by decide) (by omega -splitDisjunctions) (by omega -splitDisjunctions)
  have hi2 : vp_in t1 L := z_in (i := t1.toInt) rfl (by omega) (by omega)
  refine va_sld hx hb hX hbl hbA hS hi2 dL_law_502 ?_
  refine lv_topi (fun t3 et3 => ?_)
  refine lv_aload_n hx hb dL_law_503 rfl (lv_at hl 0 rfl) ?_
  refine lv_iload_n hx hb dL_law_504 rfl (lv_at hl 3 rfl) ?_
  refine lv_iconst (v := 2) hx hb dL_law_505 (by decide) ?_
  refine lv_iadd hx hb dL_law_506 ?_
  refine lv_topi (fun t4 et4 => ?_)
  try have ht4 : t4.toInt = x3.toInt + 2 := z_add et4 rfl (by decide) (by omega -splitDisjunctions) (by omega -splitDisjunctions)
  have hi5 : vp_in t4 L := z_in (i := t4.toInt) rfl (by omega) (by omega)
  refine va_sld hx hb hX hbl hbA hS hi5 dL_law_507 ?_
  refine lv_topi (fun t6 et6 => ?_)
  have hPD9 := pf_0_6_4 ca rs st rest hP hD
  refine z_iV (As := [.int t3, .int t6]) (rest := []) hF (c_X8_release l D ca sa A (wO_0_6_4 ca rs st rest) (rs 0) (rs 6) (rs 4) (rs 1 0) (rs 2 0) (rs 3 0) (rs 5 0) (rs 7 0) (rs 8 0) (st 0).1 (st 0).2.1 (st 0).2.2.1 (st 0).2.2.2 hk1 (st 6).1 (st 6).2.1 (st 6).2.2.1 (st 6).2.2.2 hk7 (st 4).1 (st 4).2.1 (st 4).2.2.1 (st 4).2.2.2 hk5 t3 t6) (cwV 2 hts gL_law_X8_release rfl rfl rfl (by decide +kernel) ⟨Nat.le_of_ble_eq_true rfl, Nat.le_of_ble_eq_true rfl⟩) hE hPD9.1 hPD9.2 hS 8 0 rfl rfl rfl hl.1 rfl (Nat.le_of_ble_eq_true rfl) dL_law_508 ⟨show 119 + 0 ≤ 119 by decide, show 16966 + 0 ≤ 16966 by decide⟩ (fun t8 u7 H locs hw9 hP hD hS => ?_)
  have hPD := pb_0_6_4 ca rs st rest (st 0) (st 6) (st 4) hP hD
  have hP := hPD.1
  have hD := hPD.2
  refine lv_pop hx hb dL_law_511 rfl ?_
  refine lv_aload_n hx hb dL_law_512 rfl (lv_at hl 2 rfl) ?_
  refine lv_aload_n hx hb dL_law_513 rfl (lv_at hl 0 rfl) ?_
  refine lv_iload_n hx hb dL_law_514 rfl (lv_at hl 3 rfl) ?_
  refine lv_iconst (v := 1) hx hb dL_law_515 (by decide) ?_
  refine lv_iadd hx hb dL_law_516 ?_
  refine lv_topi (fun t10 et10 => ?_)
  try have ht10 : t10.toInt = x3.toInt + 1 := z_add et10 rfl (by decide) (by omega -splitDisjunctions) (by omega -splitDisjunctions)
  have hi11 : vp_in t10 L := z_in (i := t10.toInt) rfl (by omega) (by omega)
  refine va_sld hx hb hX hbl hbA hS hi11 dL_law_517 ?_
  rw [show xs t10.toNatClampNeg = t3 from by rw [et3, et10, et1]]
  refine lv_aload_n hx hb dL_law_518 rfl (lv_at hl 0 rfl) ?_
  refine lv_iload_n hx hb dL_law_519 rfl (lv_at hl 3 rfl) ?_
  refine lv_iconst (v := 2) hx hb dL_law_520 (by decide) ?_
  refine lv_iadd hx hb dL_law_521 ?_
  refine lv_topi (fun t12 et12 => ?_)
  try have ht12 : t12.toInt = x3.toInt + 2 := z_add et12 rfl (by decide) (by omega -splitDisjunctions) (by omega -splitDisjunctions)
  have hi13 : vp_in t12 L := z_in (i := t12.toInt) rfl (by omega) (by omega)
  refine va_sld hx hb hX hbl hbA hS hi13 dL_law_522 ?_
  rw [show xs t12.toNatClampNeg = t6 from by rw [et6, et12, et4]]
  have hP : va_P D vwCl (w_MOD ca (rs 9) (st 9).1 (st 9).2.1 (st 9).2.2.1 (st 9).2.2.2 (wR9 ca rs (zl zS0 [(st 0), (st 1), (st 2), (st 3), (st 4), (st 5), (st 6), (st 7), (st 8), (st 9)]) rest)) H := hP
  have hD : va_D A (w_MOD ca (rs 9) (st 9).1 (st 9).2.1 (st 9).2.2.1 (st 9).2.2.2 (wR9 ca rs (zl zS0 [(st 0), (st 1), (st 2), (st 3), (st 4), (st 5), (st 6), (st 7), (st 8), (st 9)]) rest)) := hD
  refine z_iV (As := [.int t3, .int t6]) (rest := []) hF (c_X9_release l D ca sa A (wR9 ca rs (zl zS0 [(st 0), (st 1), (st 2), (st 3), (st 4), (st 5), (st 6), (st 7), (st 8), (st 9)]) rest) (rs 9) (st 9).1 (st 9).2.1 (st 9).2.2.1 (st 9).2.2.2 hk0 t3 t6) (cwV 2 hts gL_law_X9_release rfl rfl rfl (by decide +kernel) ⟨Nat.le_of_ble_eq_true rfl, Nat.le_of_ble_eq_true rfl⟩) hE hP hD hS 9 0 rfl rfl rfl hl.1 rfl (Nat.le_of_ble_eq_true rfl) dL_law_523 ⟨show 119 + 0 ≤ 119 by decide, show 16966 + 0 ≤ 16966 by decide⟩ (fun t15 u14 H locs hw16 hP hD hS => ?_)
  have hPD := pc9 ca rs (st 0) (st 1) (st 2) (st 3) (st 4) (st 5) (st 6) (st 7) (st 8) (st 9) (st 9) rest hP hD
  refine lv_pop hx hb dL_law_526 rfl ?_
  refine lv_goto (tgt := 761) hx hb dL_law_527 (by decide) ?_
  have hrl17 : ((st 1).1 0).toInt = ((st 9).1 0).toInt := by omega
  have hrl18 : ((st 0).1 0).toInt = ((st 9).1 10).toInt := by omega
  have hrl19 : zR1 ((st 4).1 0) ((st 9).1 9) ((st 4).2.2.1 0) ((st 4).2.2.1 1) ((st 4).2.2.1 2) ((st 4).2.2.1 3) ((st 4).2.2.1 4) ((st 4).2.2.1 5) ((st 4).2.2.1 6) ((st 4).2.2.1 7) ((st 9).2.2.1 2) ((st 9).2.2.1 3) ((st 9).2.2.1 4) ((st 9).2.2.1 5) ((st 9).2.2.1 6) ((st 9).2.2.1 7) ((st 9).2.2.1 9) ((st 9).2.2.1 8) ((st 4).2.2.2 0) := hR1
  have hrl20 : zR4 ((st 1).2.2.1 0) ((st 9).2.2.1 0) := hR4
  exact kk (zl zS0 [(st 0), (st 1), (st 2), (st 3), (st 4), (st 5), (st 6), (st 7), (st 8), (st 9)]) _ _ ls ⟨hPD.1, hPD.2, hk0, hk1, hk2, hk3, hk4, hk5, hk6, hk7, hk8, hk9, hrl17, hrl18, hrl19, hrl20⟩ hS (lv_sub hl [0, 1, 2, 3] rfl)

set_option maxHeartbeats 8000000 in
set_option maxRecDepth 100000 in
theorem law_12 {p : Program} {e : Env} {s : State} {m : MethodId} {below : List Frame} {meth : Method} {c : Code} (l : Launch) {b L : Nat} {xs : Nat → Int32} (hL : L ≤ 3072) (C0 : lw_At p s m meth c b L xs) {D : va_G} {ca : Nat → ClassId} {sa : Nat → Nat} {A : Nat → Prop} (hbA : ¬ A b) (hE : zE D ca sa A s s.heap) (rs : Nat → Nat → Nat) (rest : va_W) (st : Nat → zS) (x3 : Int32) (hi : 0 ≤ x3.toInt ∧ x3.toInt + 6 ≤ (L : Int)) (H : Heap) (locs : List Loc) (ls : Array Slot) (hZ : zLaw D ca A rs rest st H) (hS : va_S A s.heap H locs) (hl : lv_has ls 4 [(0, .ref b), (1, .ref (rs 0 0)), (2, .ref (rs 9 0)), (3, .int x3)])
    (kk : ∀ (st : Nat → zS) (H : Heap) (locs : List Loc) (ls : Array Slot), zLaw D ca A rs rest st H → va_S A s.heap H locs → lv_has ls 4 [(0, .ref b), (1, .ref (rs 0 0)), (2, .ref (rs 9 0)), (3, .int x3)] → W p l e room_1 s m #[Value.ref b] below meth c H locs 119 16966 (lw_Z below #[Value.ref b] s) (F0 m 761 ls [])) : W p l e room_1 s m #[Value.ref b] below meth c H locs 119 16966 (lw_Z below #[Value.ref b] s) (F0 m 530 ls []) := by
  obtain ⟨hx, hb, hr, hml, hown, hts0, hX, hbl, hlocks, hgv⟩ := C0
  have hts : ∀ w ∈ wsL_law, w.before #[Value.ref b] s = true := fun w h => hts0 w (wsL_law_in w h)
  have hK := hE.1
  have hF : CallFix p m c cL_law 4 s #[Value.ref b] wsL_law RL := ⟨hx, hb, hml, hown, hts⟩
  obtain ⟨hP, hD, hv0, hv1, hv2, hv3, hv4, hv5, hv6, hv7, hv8, hv9, hrel0, hrel1, hR1, hR4⟩ := hZ
  have hk0 := hv0
  obtain ⟨⟨hv0i0, hv0j0⟩, ⟨hv0i1, hv0j1⟩, ⟨hv0i5, hv0j5⟩, ⟨hv0i9, hv0j9⟩, hv0a6, hv0a8, hv0a9, hv0a23, hv0a27, hv0a28, hv0x0, hv0y0⟩ := hv0
  have hk1 := hv1
  have hk2 := hv2
  obtain ⟨hv2i0, hv2j0⟩ := hv2
  have hk3 := hv3
  obtain ⟨⟨hv3i3, hv3j3⟩, hv3x0⟩ := hv3
  have hk4 := hv4
  have hk5 := hv5
  obtain ⟨⟨hv5i0, hv5j0⟩, hv5a6⟩ := hv5
  have hk6 := hv6
  have hk7 := hv7
  obtain ⟨⟨hv7i0, hv7j0⟩, ⟨hv7i4, hv7j4⟩, ⟨hv7i5, hv7j5⟩, ⟨hv7i6, hv7j6⟩, ⟨hv7i7, hv7j7⟩, hv7a3, hv7a4, hv7a5, hv7a6⟩ := hv7
  have hk8 := hv8
  obtain ⟨⟨hv8i0, hv8j0⟩, ⟨hv8i4, hv8j4⟩, ⟨hv8i5, hv8j5⟩, ⟨hv8i6, hv8j6⟩, ⟨hv8i7, hv8j7⟩, hv8a3, hv8a4, hv8a5, hv8a6⟩ := hv8
  have hk9 := hv9
  obtain ⟨⟨hv9i0, hv9j0⟩, ⟨hv9i4, hv9j4⟩, ⟨hv9i5, hv9j5⟩, ⟨hv9i6, hv9j6⟩, ⟨hv9i7, hv9j7⟩, hv9a3, hv9a4, hv9a5, hv9a6⟩ := hv9
  have hnm : ((st 4).1 0).toInt = ((st 9).1 9).toInt := by rw [hR1.1]
  refine lv_aload_n hx hb dL_law_530 rfl (lv_at hl 1 rfl) ?_
  refine lv_aload_n hx hb dL_law_531 rfl (lv_at hl 0 rfl) ?_
  refine lv_iload_n hx hb dL_law_532 rfl (lv_at hl 3 rfl) ?_
  refine lv_iconst (v := 1) hx hb dL_law_533 (by decide) ?_
  refine lv_iadd hx hb dL_law_534 ?_
  refine lv_topi (fun t1 et1 => ?_)
  try have ht1 : t1.toInt = x3.toInt + 1 := z_add et1 rfl (by decide) (by omega -splitDisjunctions) (by omega -splitDisjunctions)
  have hi2 : vp_in t1 L := z_in (i := t1.toInt) rfl (by omega) (by omega)
  refine va_sld hx hb hX hbl hbA hS hi2 dL_law_535 ?_
  refine lv_topi (fun t3 et3 => ?_)
  have hPD9 := pf_0_6_4 ca rs st rest hP hD
  refine z_lV (As := [.int t3]) (rest := []) hF (c_X8_has l D ca sa A (wO_0_6_4 ca rs st rest) (rs 0) (rs 6) (rs 4) (rs 1 0) (rs 2 0) (rs 3 0) (rs 5 0) (rs 7 0) (rs 8 0) (st 0).1 (st 0).2.1 (st 0).2.2.1 (st 0).2.2.2 hk1 (st 6).1 (st 6).2.1 (st 6).2.2.1 (st 6).2.2.2 hk7 (st 4).1 (st 4).2.1 (st 4).2.2.1 (st 4).2.2.2 hk5 t3) (cwV 1 hts gL_law_X8_has rfl rfl rfl (by decide +kernel) ⟨Nat.le_of_ble_eq_true rfl, Nat.le_of_ble_eq_true rfl⟩) hE hPD9.1 hPD9.2 hS 8 0 rfl rfl rfl hl.1 rfl (Nat.le_of_ble_eq_true rfl) dL_law_536 ⟨show 119 + 0 ≤ 119 by decide, show 16966 + 0 ≤ 16966 by decide⟩ (fun t5 u4 H locs hw6 hP hD hS => ?_)
  have hPD := pb_0_6_4 ca rs st rest (st 0) (st 6) (st 4) hP hD
  have hP := hPD.1
  have hD := hPD.2
  refine lv_pop2_2 hx hb dL_law_539 rfl ?_
  refine lv_aload_n hx hb dL_law_540 rfl (lv_at hl 2 rfl) ?_
  refine lv_aload_n hx hb dL_law_541 rfl (lv_at hl 0 rfl) ?_
  refine lv_iload_n hx hb dL_law_542 rfl (lv_at hl 3 rfl) ?_
  refine lv_iconst (v := 1) hx hb dL_law_543 (by decide) ?_
  refine lv_iadd hx hb dL_law_544 ?_
  refine lv_topi (fun t7 et7 => ?_)
  try have ht7 : t7.toInt = x3.toInt + 1 := z_add et7 rfl (by decide) (by omega -splitDisjunctions) (by omega -splitDisjunctions)
  have hi8 : vp_in t7 L := z_in (i := t7.toInt) rfl (by omega) (by omega)
  refine va_sld hx hb hX hbl hbA hS hi8 dL_law_545 ?_
  rw [show xs t7.toNatClampNeg = t3 from by rw [et3, et7, et1]]
  have hP : va_P D vwCl (w_MOD ca (rs 9) (st 9).1 (st 9).2.1 (st 9).2.2.1 (st 9).2.2.2 (wR9 ca rs (zl zS0 [(st 0), (st 1), (st 2), (st 3), (st 4), (st 5), (st 6), (st 7), (st 8), (st 9)]) rest)) H := hP
  have hD : va_D A (w_MOD ca (rs 9) (st 9).1 (st 9).2.1 (st 9).2.2.1 (st 9).2.2.2 (wR9 ca rs (zl zS0 [(st 0), (st 1), (st 2), (st 3), (st 4), (st 5), (st 6), (st 7), (st 8), (st 9)]) rest)) := hD
  refine z_lV (As := [.int t3]) (rest := []) hF (c_X9_has l D ca sa A (wR9 ca rs (zl zS0 [(st 0), (st 1), (st 2), (st 3), (st 4), (st 5), (st 6), (st 7), (st 8), (st 9)]) rest) (rs 9) (st 9).1 (st 9).2.1 (st 9).2.2.1 (st 9).2.2.2 hk0 t3) (cwV 1 hts gL_law_X9_has rfl rfl rfl (by decide +kernel) ⟨Nat.le_of_ble_eq_true rfl, Nat.le_of_ble_eq_true rfl⟩) hE hP hD hS 9 0 rfl rfl rfl hl.1 rfl (Nat.le_of_ble_eq_true rfl) dL_law_546 ⟨show 119 + 0 ≤ 119 by decide, show 16966 + 0 ≤ 16966 by decide⟩ (fun t10 u9 H locs hw11 hP hD hS => ?_)
  have hPD := pc9 ca rs (st 0) (st 1) (st 2) (st 3) (st 4) (st 5) (st 6) (st 7) (st 8) (st 9) (st 9) rest hP hD
  refine lv_pop2_2 hx hb dL_law_549 rfl ?_
  refine lv_goto (tgt := 761) hx hb dL_law_550 (by decide) ?_
  have hrl12 : ((st 1).1 0).toInt = ((st 9).1 0).toInt := by omega
  have hrl13 : ((st 0).1 0).toInt = ((st 9).1 10).toInt := by omega
  have hrl14 : zR1 ((st 4).1 0) ((st 9).1 9) ((st 4).2.2.1 0) ((st 4).2.2.1 1) ((st 4).2.2.1 2) ((st 4).2.2.1 3) ((st 4).2.2.1 4) ((st 4).2.2.1 5) ((st 4).2.2.1 6) ((st 4).2.2.1 7) ((st 9).2.2.1 2) ((st 9).2.2.1 3) ((st 9).2.2.1 4) ((st 9).2.2.1 5) ((st 9).2.2.1 6) ((st 9).2.2.1 7) ((st 9).2.2.1 9) ((st 9).2.2.1 8) ((st 4).2.2.2 0) := hR1
  have hrl15 : zR4 ((st 1).2.2.1 0) ((st 9).2.2.1 0) := hR4
  exact kk (zl zS0 [(st 0), (st 1), (st 2), (st 3), (st 4), (st 5), (st 6), (st 7), (st 8), (st 9)]) _ _ ls ⟨hPD.1, hPD.2, hk0, hk1, hk2, hk3, hk4, hk5, hk6, hk7, hk8, hk9, hrl12, hrl13, hrl14, hrl15⟩ hS (lv_sub hl [0, 1, 2, 3] rfl)

set_option maxHeartbeats 8000000 in
set_option maxRecDepth 100000 in
theorem law_13 {p : Program} {e : Env} {s : State} {m : MethodId} {below : List Frame} {meth : Method} {c : Code} (l : Launch) {b L : Nat} {xs : Nat → Int32} (hL : L ≤ 3072) (C0 : lw_At p s m meth c b L xs) {D : va_G} {ca : Nat → ClassId} {sa : Nat → Nat} {A : Nat → Prop} (hbA : ¬ A b) (hE : zE D ca sa A s s.heap) (rs : Nat → Nat → Nat) (rest : va_W) (st : Nat → zS) (x3 : Int32) (hi : 0 ≤ x3.toInt ∧ x3.toInt + 6 ≤ (L : Int)) (H : Heap) (locs : List Loc) (ls : Array Slot) (hZ : zLaw D ca A rs rest st H) (hS : va_S A s.heap H locs) (hl : lv_has ls 4 [(0, .ref b), (1, .ref (rs 0 0)), (2, .ref (rs 9 0)), (3, .int x3)])
    (kk : ∀ (st : Nat → zS) (H : Heap) (locs : List Loc) (ls : Array Slot), zLaw D ca A rs rest st H → va_S A s.heap H locs → lv_has ls 4 [(0, .ref b), (1, .ref (rs 0 0)), (2, .ref (rs 9 0)), (3, .int x3)] → W p l e room_1 s m #[Value.ref b] below meth c H locs 119 16966 (lw_Z below #[Value.ref b] s) (F0 m 761 ls [])) : W p l e room_1 s m #[Value.ref b] below meth c H locs 119 16966 (lw_Z below #[Value.ref b] s) (F0 m 553 ls []) := by
  obtain ⟨hx, hb, hr, hml, hown, hts0, hX, hbl, hlocks, hgv⟩ := C0
  have hts : ∀ w ∈ wsL_law, w.before #[Value.ref b] s = true := fun w h => hts0 w (wsL_law_in w h)
  have hK := hE.1
  have hF : CallFix p m c cL_law 4 s #[Value.ref b] wsL_law RL := ⟨hx, hb, hml, hown, hts⟩
  obtain ⟨hP, hD, hv0, hv1, hv2, hv3, hv4, hv5, hv6, hv7, hv8, hv9, hrel0, hrel1, hR1, hR4⟩ := hZ
  have hk0 := hv0
  obtain ⟨⟨hv0i0, hv0j0⟩, ⟨hv0i1, hv0j1⟩, ⟨hv0i5, hv0j5⟩, ⟨hv0i9, hv0j9⟩, hv0a6, hv0a8, hv0a9, hv0a23, hv0a27, hv0a28, hv0x0, hv0y0⟩ := hv0
  have hk1 := hv1
  have hk2 := hv2
  obtain ⟨hv2i0, hv2j0⟩ := hv2
  have hk3 := hv3
  obtain ⟨⟨hv3i3, hv3j3⟩, hv3x0⟩ := hv3
  have hk4 := hv4
  have hk5 := hv5
  obtain ⟨⟨hv5i0, hv5j0⟩, hv5a6⟩ := hv5
  have hk6 := hv6
  have hk7 := hv7
  obtain ⟨⟨hv7i0, hv7j0⟩, ⟨hv7i4, hv7j4⟩, ⟨hv7i5, hv7j5⟩, ⟨hv7i6, hv7j6⟩, ⟨hv7i7, hv7j7⟩, hv7a3, hv7a4, hv7a5, hv7a6⟩ := hv7
  have hk8 := hv8
  obtain ⟨⟨hv8i0, hv8j0⟩, ⟨hv8i4, hv8j4⟩, ⟨hv8i5, hv8j5⟩, ⟨hv8i6, hv8j6⟩, ⟨hv8i7, hv8j7⟩, hv8a3, hv8a4, hv8a5, hv8a6⟩ := hv8
  have hk9 := hv9
  obtain ⟨⟨hv9i0, hv9j0⟩, ⟨hv9i4, hv9j4⟩, ⟨hv9i5, hv9j5⟩, ⟨hv9i6, hv9j6⟩, ⟨hv9i7, hv9j7⟩, hv9a3, hv9a4, hv9a5, hv9a6⟩ := hv9
  have hnm : ((st 4).1 0).toInt = ((st 9).1 9).toInt := by rw [hR1.1]
  refine lv_aload_n hx hb dL_law_553 rfl (lv_at hl 1 rfl) ?_
  refine lv_aload_n hx hb dL_law_554 rfl (lv_at hl 0 rfl) ?_
  refine lv_iload_n hx hb dL_law_555 rfl (lv_at hl 3 rfl) ?_
  refine lv_iconst (v := 1) hx hb dL_law_556 (by decide) ?_
  refine lv_iadd hx hb dL_law_557 ?_
  refine lv_topi (fun t1 et1 => ?_)
  try have ht1 : t1.toInt = x3.toInt + 1 := z_add et1 rfl (by decide) (by omega -splitDisjunctions) (by omega -splitDisjunctions)
  have hi2 : vp_in t1 L := z_in (i := t1.toInt) rfl (by omega) (by omega)
  refine va_sld hx hb hX hbl hbA hS hi2 dL_law_558 ?_
  refine lv_topi (fun t3 et3 => ?_)
  have hPD9 := pf_0_6_4 ca rs st rest hP hD
  refine z_iV (As := [.int t3]) (rest := []) hF (c_X8_sum l D ca sa A (wO_0_6_4 ca rs st rest) (rs 0) (rs 6) (rs 4) (rs 1 0) (rs 2 0) (rs 3 0) (rs 5 0) (rs 7 0) (rs 8 0) (st 0).1 (st 0).2.1 (st 0).2.2.1 (st 0).2.2.2 hk1 (st 6).1 (st 6).2.1 (st 6).2.2.1 (st 6).2.2.2 hk7 (st 4).1 (st 4).2.1 (st 4).2.2.1 (st 4).2.2.2 hk5 t3) (cwV 1 hts gL_law_X8_sum rfl rfl rfl (by decide +kernel) ⟨Nat.le_of_ble_eq_true rfl, Nat.le_of_ble_eq_true rfl⟩) hE hPD9.1 hPD9.2 hS 8 0 rfl rfl rfl hl.1 rfl (Nat.le_of_ble_eq_true rfl) dL_law_559 ⟨show 119 + 0 ≤ 119 by decide, show 16966 + 0 ≤ 16966 by decide⟩ (fun t5 u4 H locs hw6 hP hD hS => ?_)
  have hPD := pb_0_6_4 ca rs st rest (st 0) (st 6) (st 4) hP hD
  have hP := hPD.1
  have hD := hPD.2
  refine lv_pop hx hb dL_law_562 rfl ?_
  refine lv_aload_n hx hb dL_law_563 rfl (lv_at hl 2 rfl) ?_
  refine lv_aload_n hx hb dL_law_564 rfl (lv_at hl 0 rfl) ?_
  refine lv_iload_n hx hb dL_law_565 rfl (lv_at hl 3 rfl) ?_
  refine lv_iconst (v := 1) hx hb dL_law_566 (by decide) ?_
  refine lv_iadd hx hb dL_law_567 ?_
  refine lv_topi (fun t7 et7 => ?_)
  try have ht7 : t7.toInt = x3.toInt + 1 := z_add et7 rfl (by decide) (by omega -splitDisjunctions) (by omega -splitDisjunctions)
  have hi8 : vp_in t7 L := z_in (i := t7.toInt) rfl (by omega) (by omega)
  refine va_sld hx hb hX hbl hbA hS hi8 dL_law_568 ?_
  rw [show xs t7.toNatClampNeg = t3 from by rw [et3, et7, et1]]
  have hP : va_P D vwCl (w_MOD ca (rs 9) (st 9).1 (st 9).2.1 (st 9).2.2.1 (st 9).2.2.2 (wR9 ca rs (zl zS0 [(st 0), (st 1), (st 2), (st 3), (st 4), (st 5), (st 6), (st 7), (st 8), (st 9)]) rest)) H := hP
  have hD : va_D A (w_MOD ca (rs 9) (st 9).1 (st 9).2.1 (st 9).2.2.1 (st 9).2.2.2 (wR9 ca rs (zl zS0 [(st 0), (st 1), (st 2), (st 3), (st 4), (st 5), (st 6), (st 7), (st 8), (st 9)]) rest)) := hD
  refine z_iV (As := [.int t3]) (rest := []) hF (c_X9_sum l D ca sa A (wR9 ca rs (zl zS0 [(st 0), (st 1), (st 2), (st 3), (st 4), (st 5), (st 6), (st 7), (st 8), (st 9)]) rest) (rs 9) (st 9).1 (st 9).2.1 (st 9).2.2.1 (st 9).2.2.2 hk0 t3) (cwV 1 hts gL_law_X9_sum rfl rfl rfl (by decide +kernel) ⟨Nat.le_of_ble_eq_true rfl, Nat.le_of_ble_eq_true rfl⟩) hE hP hD hS 9 0 rfl rfl rfl hl.1 rfl (Nat.le_of_ble_eq_true rfl) dL_law_569 ⟨show 119 + 0 ≤ 119 by decide, show 16966 + 0 ≤ 16966 by decide⟩ (fun t10 u9 H locs hw11 hP hD hS => ?_)
  have hPD := pc9 ca rs (st 0) (st 1) (st 2) (st 3) (st 4) (st 5) (st 6) (st 7) (st 8) (st 9) (st 9) rest hP hD
  refine lv_pop hx hb dL_law_572 rfl ?_
  refine lv_goto (tgt := 761) hx hb dL_law_573 (by decide) ?_
  have hrl12 : ((st 1).1 0).toInt = ((st 9).1 0).toInt := by omega
  have hrl13 : ((st 0).1 0).toInt = ((st 9).1 10).toInt := by omega
  have hrl14 : zR1 ((st 4).1 0) ((st 9).1 9) ((st 4).2.2.1 0) ((st 4).2.2.1 1) ((st 4).2.2.1 2) ((st 4).2.2.1 3) ((st 4).2.2.1 4) ((st 4).2.2.1 5) ((st 4).2.2.1 6) ((st 4).2.2.1 7) ((st 9).2.2.1 2) ((st 9).2.2.1 3) ((st 9).2.2.1 4) ((st 9).2.2.1 5) ((st 9).2.2.1 6) ((st 9).2.2.1 7) ((st 9).2.2.1 9) ((st 9).2.2.1 8) ((st 4).2.2.2 0) := hR1
  have hrl15 : zR4 ((st 1).2.2.1 0) ((st 9).2.2.1 0) := hR4
  exact kk (zl zS0 [(st 0), (st 1), (st 2), (st 3), (st 4), (st 5), (st 6), (st 7), (st 8), (st 9)]) _ _ ls ⟨hPD.1, hPD.2, hk0, hk1, hk2, hk3, hk4, hk5, hk6, hk7, hk8, hk9, hrl12, hrl13, hrl14, hrl15⟩ hS (lv_sub hl [0, 1, 2, 3] rfl)

set_option maxHeartbeats 8000000 in
set_option maxRecDepth 100000 in
theorem law_14 {p : Program} {e : Env} {s : State} {m : MethodId} {below : List Frame} {meth : Method} {c : Code} (l : Launch) {b L : Nat} {xs : Nat → Int32} (hL : L ≤ 3072) (C0 : lw_At p s m meth c b L xs) {D : va_G} {ca : Nat → ClassId} {sa : Nat → Nat} {A : Nat → Prop} (hbA : ¬ A b) (hE : zE D ca sa A s s.heap) (rs : Nat → Nat → Nat) (rest : va_W) (st : Nat → zS) (x3 : Int32) (hi : 0 ≤ x3.toInt ∧ x3.toInt + 6 ≤ (L : Int)) (H : Heap) (locs : List Loc) (ls : Array Slot) (hZ : zLaw D ca A rs rest st H) (hS : va_S A s.heap H locs) (hl : lv_has ls 4 [(0, .ref b), (1, .ref (rs 0 0)), (2, .ref (rs 9 0)), (3, .int x3)])
    (kk : ∀ (st : Nat → zS) (H : Heap) (locs : List Loc) (ls : Array Slot), zLaw D ca A rs rest st H → va_S A s.heap H locs → lv_has ls 4 [(0, .ref b), (1, .ref (rs 0 0)), (2, .ref (rs 9 0)), (3, .int x3)] → W p l e room_1 s m #[Value.ref b] below meth c H locs 119 16966 (lw_Z below #[Value.ref b] s) (F0 m 761 ls [])) : W p l e room_1 s m #[Value.ref b] below meth c H locs 119 16966 (lw_Z below #[Value.ref b] s) (F0 m 576 ls []) := by
  obtain ⟨hx, hb, hr, hml, hown, hts0, hX, hbl, hlocks, hgv⟩ := C0
  have hts : ∀ w ∈ wsL_law, w.before #[Value.ref b] s = true := fun w h => hts0 w (wsL_law_in w h)
  have hK := hE.1
  have hF : CallFix p m c cL_law 4 s #[Value.ref b] wsL_law RL := ⟨hx, hb, hml, hown, hts⟩
  obtain ⟨hP, hD, hv0, hv1, hv2, hv3, hv4, hv5, hv6, hv7, hv8, hv9, hrel0, hrel1, hR1, hR4⟩ := hZ
  have hk0 := hv0
  obtain ⟨⟨hv0i0, hv0j0⟩, ⟨hv0i1, hv0j1⟩, ⟨hv0i5, hv0j5⟩, ⟨hv0i9, hv0j9⟩, hv0a6, hv0a8, hv0a9, hv0a23, hv0a27, hv0a28, hv0x0, hv0y0⟩ := hv0
  have hk1 := hv1
  have hk2 := hv2
  obtain ⟨hv2i0, hv2j0⟩ := hv2
  have hk3 := hv3
  obtain ⟨⟨hv3i3, hv3j3⟩, hv3x0⟩ := hv3
  have hk4 := hv4
  have hk5 := hv5
  obtain ⟨⟨hv5i0, hv5j0⟩, hv5a6⟩ := hv5
  have hk6 := hv6
  have hk7 := hv7
  obtain ⟨⟨hv7i0, hv7j0⟩, ⟨hv7i4, hv7j4⟩, ⟨hv7i5, hv7j5⟩, ⟨hv7i6, hv7j6⟩, ⟨hv7i7, hv7j7⟩, hv7a3, hv7a4, hv7a5, hv7a6⟩ := hv7
  have hk8 := hv8
  obtain ⟨⟨hv8i0, hv8j0⟩, ⟨hv8i4, hv8j4⟩, ⟨hv8i5, hv8j5⟩, ⟨hv8i6, hv8j6⟩, ⟨hv8i7, hv8j7⟩, hv8a3, hv8a4, hv8a5, hv8a6⟩ := hv8
  have hk9 := hv9
  obtain ⟨⟨hv9i0, hv9j0⟩, ⟨hv9i4, hv9j4⟩, ⟨hv9i5, hv9j5⟩, ⟨hv9i6, hv9j6⟩, ⟨hv9i7, hv9j7⟩, hv9a3, hv9a4, hv9a5, hv9a6⟩ := hv9
  have hnm : ((st 4).1 0).toInt = ((st 9).1 9).toInt := by rw [hR1.1]
  refine lv_aload_n hx hb dL_law_576 rfl (lv_at hl 1 rfl) ?_
  refine lv_aload_n hx hb dL_law_577 rfl (lv_at hl 0 rfl) ?_
  refine lv_iload_n hx hb dL_law_578 rfl (lv_at hl 3 rfl) ?_
  refine lv_iconst (v := 1) hx hb dL_law_579 (by decide) ?_
  refine lv_iadd hx hb dL_law_580 ?_
  refine lv_topi (fun t1 et1 => ?_)
  try have ht1 : t1.toInt = x3.toInt + 1 := z_add et1 rfl (by decide) (by omega -splitDisjunctions) (by omega -splitDisjunctions)
  have hi2 : vp_in t1 L := z_in (i := t1.toInt) rfl (by omega) (by omega)
  refine va_sld hx hb hX hbl hbA hS hi2 dL_law_581 ?_
  refine lv_topi (fun t3 et3 => ?_)
  refine lv_aload_n hx hb dL_law_582 rfl (lv_at hl 0 rfl) ?_
  refine lv_iload_n hx hb dL_law_583 rfl (lv_at hl 3 rfl) ?_
  refine lv_iconst (v := 2) hx hb dL_law_584 (by decide) ?_
  refine lv_iadd hx hb dL_law_585 ?_
  refine lv_topi (fun t4 et4 => ?_)
  try have ht4 : t4.toInt = x3.toInt + 2 := z_add et4 rfl (by decide) (by omega -splitDisjunctions) (by omega -splitDisjunctions)
  have hi5 : vp_in t4 L := z_in (i := t4.toInt) rfl (by omega) (by omega)
  refine va_sld hx hb hX hbl hbA hS hi5 dL_law_586 ?_
  refine lv_topi (fun t6 et6 => ?_)
  have hPD9 := pf_0_3_7_8_4 ca rs st rest hP hD
  refine z_iV (As := [.int t3, .int t6]) (rest := []) hF (c_X8_parts l D ca sa A (wO_0_3_7_8_4 ca rs st rest) (rs 0) (rs 3) (rs 7) (rs 8) (rs 4) (rs 1 0) (rs 2 0) (rs 5 0) (rs 6 0) (st 0).1 (st 0).2.1 (st 0).2.2.1 (st 0).2.2.2 hk1 (st 3).1 (st 3).2.1 (st 3).2.2.1 (st 3).2.2.2 hk4 (st 7).1 (st 7).2.1 (st 7).2.2.1 (st 7).2.2.2 hk8 (st 8).1 (st 8).2.1 (st 8).2.2.1 (st 8).2.2.2 hk9 (st 4).1 (st 4).2.1 (st 4).2.2.1 (st 4).2.2.2 hk5 t3 t6) (cwV 2 hts gL_law_X8_parts rfl rfl rfl (by decide +kernel) ⟨Nat.le_of_ble_eq_true rfl, Nat.le_of_ble_eq_true rfl⟩) hE hPD9.1 hPD9.2 hS 8 0 rfl rfl rfl hl.1 rfl (Nat.le_of_ble_eq_true rfl) dL_law_587 ⟨show 119 + 0 ≤ 119 by decide, show 16966 + 0 ≤ 16966 by decide⟩ (fun t8 u7 H locs hw9 hP hD hS => ?_)
  obtain ⟨⟨im10, lm10, am10, bm10⟩, ⟨im11, lm11, am11, bm11⟩⟩ := u7
  have hokm10 := hw9.1
  have hokm11 := hw9.2
  have hw9 : ((0 ≤ (im10 0).toInt ∧ (im10 0).toInt ≤ 1) ∧ (0 ≤ (im10 4).toInt ∧ (im10 4).toInt ≤ 60) ∧ (0 ≤ (im10 5).toInt ∧ (im10 5).toInt ≤ 60) ∧ (0 ≤ (im10 6).toInt ∧ (im10 6).toInt ≤ 60) ∧ (0 ≤ (im10 7).toInt ∧ (im10 7).toInt ≤ 259) ∧ z_rng 0 60 (am10 3) ∧ z_rng 0 59 (am10 4) ∧ z_rng 0 59 (am10 5) ∧ z_rng 0 59 (am10 6)) ∧ ((0 ≤ (im11 0).toInt ∧ (im11 0).toInt ≤ 1) ∧ (0 ≤ (im11 4).toInt ∧ (im11 4).toInt ≤ 60) ∧ (0 ≤ (im11 5).toInt ∧ (im11 5).toInt ≤ 60) ∧ (0 ≤ (im11 6).toInt ∧ (im11 6).toInt ≤ 60) ∧ (0 ≤ (im11 7).toInt ∧ (im11 7).toInt ≤ 259) ∧ z_rng 0 60 (am11 3) ∧ z_rng 0 59 (am11 4) ∧ z_rng 0 59 (am11 5) ∧ z_rng 0 59 (am11 6)) := hw9
  obtain ⟨⟨⟨hm10i0, hm10j0⟩, ⟨hm10i4, hm10j4⟩, ⟨hm10i5, hm10j5⟩, ⟨hm10i6, hm10j6⟩, ⟨hm10i7, hm10j7⟩, hm10a3, hm10a4, hm10a5, hm10a6⟩, ⟨⟨hm11i0, hm11j0⟩, ⟨hm11i4, hm11j4⟩, ⟨hm11i5, hm11j5⟩, ⟨hm11i6, hm11j6⟩, ⟨hm11i7, hm11j7⟩, hm11a3, hm11a4, hm11a5, hm11a6⟩⟩ := hw9
  have hPD := pb_0_3_7_8_4 ca rs st rest (st 0) (st 3) (im10, lm10, am10, bm10) (im11, lm11, am11, bm11) (st 4) hP hD
  have hP := hPD.1
  have hD := hPD.2
  refine lv_pop hx hb dL_law_590 rfl ?_
  refine lv_aload_n hx hb dL_law_591 rfl (lv_at hl 2 rfl) ?_
  refine lv_aload_n hx hb dL_law_592 rfl (lv_at hl 0 rfl) ?_
  refine lv_iload_n hx hb dL_law_593 rfl (lv_at hl 3 rfl) ?_
  refine lv_iconst (v := 1) hx hb dL_law_594 (by decide) ?_
  refine lv_iadd hx hb dL_law_595 ?_
  refine lv_topi (fun t12 et12 => ?_)
  try have ht12 : t12.toInt = x3.toInt + 1 := z_add et12 rfl (by decide) (by omega -splitDisjunctions) (by omega -splitDisjunctions)
  have hi13 : vp_in t12 L := z_in (i := t12.toInt) rfl (by omega) (by omega)
  refine va_sld hx hb hX hbl hbA hS hi13 dL_law_596 ?_
  rw [show xs t12.toNatClampNeg = t3 from by rw [et3, et12, et1]]
  refine lv_aload_n hx hb dL_law_597 rfl (lv_at hl 0 rfl) ?_
  refine lv_iload_n hx hb dL_law_598 rfl (lv_at hl 3 rfl) ?_
  refine lv_iconst (v := 2) hx hb dL_law_599 (by decide) ?_
  refine lv_iadd hx hb dL_law_600 ?_
  refine lv_topi (fun t14 et14 => ?_)
  try have ht14 : t14.toInt = x3.toInt + 2 := z_add et14 rfl (by decide) (by omega -splitDisjunctions) (by omega -splitDisjunctions)
  have hi15 : vp_in t14 L := z_in (i := t14.toInt) rfl (by omega) (by omega)
  refine va_sld hx hb hX hbl hbA hS hi15 dL_law_601 ?_
  rw [show xs t14.toNatClampNeg = t6 from by rw [et6, et14, et4]]
  have hP : va_P D vwCl (w_MOD ca (rs 9) (st 9).1 (st 9).2.1 (st 9).2.2.1 (st 9).2.2.2 (wR9 ca rs (zl zS0 [(st 0), (st 1), (st 2), (st 3), (st 4), (st 5), (st 6), (im10, lm10, am10, bm10), (im11, lm11, am11, bm11), (st 9)]) rest)) H := hP
  have hD : va_D A (w_MOD ca (rs 9) (st 9).1 (st 9).2.1 (st 9).2.2.1 (st 9).2.2.2 (wR9 ca rs (zl zS0 [(st 0), (st 1), (st 2), (st 3), (st 4), (st 5), (st 6), (im10, lm10, am10, bm10), (im11, lm11, am11, bm11), (st 9)]) rest)) := hD
  refine z_iV (As := [.int t3, .int t6]) (rest := []) hF (c_X9_parts l D ca sa A (wR9 ca rs (zl zS0 [(st 0), (st 1), (st 2), (st 3), (st 4), (st 5), (st 6), (im10, lm10, am10, bm10), (im11, lm11, am11, bm11), (st 9)]) rest) (rs 9) (st 9).1 (st 9).2.1 (st 9).2.2.1 (st 9).2.2.2 hk0 t3 t6) (cwV 2 hts gL_law_X9_parts rfl rfl rfl (by decide +kernel) ⟨Nat.le_of_ble_eq_true rfl, Nat.le_of_ble_eq_true rfl⟩) hE hP hD hS 9 0 rfl rfl rfl hl.1 rfl (Nat.le_of_ble_eq_true rfl) dL_law_602 ⟨show 119 + 0 ≤ 119 by decide, show 16966 + 0 ≤ 16966 by decide⟩ (fun t17 u16 H locs hw18 hP hD hS => ?_)
  obtain ⟨im19, lm19, am19, bm19⟩ := u16
  have hokm19 := hw18
  have hw18 : ((0 ≤ ((st 9).1 0).toInt ∧ ((st 9).1 0).toInt ≤ 600) ∧ (0 ≤ ((st 9).1 1).toInt ∧ ((st 9).1 1).toInt ≤ 600) ∧ (0 ≤ ((st 9).1 5).toInt ∧ ((st 9).1 5).toInt ≤ 600) ∧ (0 ≤ ((st 9).1 9).toInt ∧ ((st 9).1 9).toInt ≤ 60) ∧ z_rng (-1) 59 ((st 9).2.2.1 6) ∧ z_rng 0 59 ((st 9).2.2.1 8) ∧ z_rng 0 3 ((st 9).2.2.1 9) ∧ z_rng 0 269 (am19 23) ∧ z_rng 0 5 (am19 27) ∧ z_rng 0 59 (am19 28) ∧ (((st 9).1 2).toInt = 1 → 0 ≤ ((st 9).1 3).toInt) ∧ zOkR ((st 9).2.2.1 1) (am19 27)) := hw18
  obtain ⟨-, -, -, -, -, -, -, hm19a23, hm19a27, hm19a28, -, hm19y0⟩ := hw18
  have hPD := pc9 ca rs (st 0) (st 1) (st 2) (st 3) (st 4) (st 5) (st 6) (im10, lm10, am10, bm10) (im11, lm11, am11, bm11) (st 9) (zx [] (st 9).1 im19, zx [] (st 9).2.1 lm19, zx [10, 11, 12, 13, 14, 15, 16, 17, 18, 19, 20, 21, 22, 23, 24, 25, 26, 27, 28] (st 9).2.2.1 am19, zx [0, 1, 2] (st 9).2.2.2 bm19) rest hP hD
  refine lv_pop hx hb dL_law_605 rfl ?_
  refine lv_goto (tgt := 761) hx hb dL_law_606 (by decide) ?_
  have hrl20 : ((st 1).1 0).toInt = ((st 9).1 0).toInt := by omega
  have hrl21 : ((st 0).1 0).toInt = ((st 9).1 10).toInt := by omega
  have hrl22 : zR1 ((st 4).1 0) ((st 9).1 9) ((st 4).2.2.1 0) ((st 4).2.2.1 1) ((st 4).2.2.1 2) ((st 4).2.2.1 3) ((st 4).2.2.1 4) ((st 4).2.2.1 5) ((st 4).2.2.1 6) ((st 4).2.2.1 7) ((st 9).2.2.1 2) ((st 9).2.2.1 3) ((st 9).2.2.1 4) ((st 9).2.2.1 5) ((st 9).2.2.1 6) ((st 9).2.2.1 7) ((st 9).2.2.1 9) ((st 9).2.2.1 8) ((st 4).2.2.2 0) := hR1
  have hrl23 : zR4 ((st 1).2.2.1 0) ((st 9).2.2.1 0) := hR4
  exact kk (zl zS0 [(st 0), (st 1), (st 2), (st 3), (st 4), (st 5), (st 6), (im10, lm10, am10, bm10), (im11, lm11, am11, bm11), (zx [] (st 9).1 im19, zx [] (st 9).2.1 lm19, zx [10, 11, 12, 13, 14, 15, 16, 17, 18, 19, 20, 21, 22, 23, 24, 25, 26, 27, 28] (st 9).2.2.1 am19, zx [0, 1, 2] (st 9).2.2.2 bm19)]) _ _ ls ⟨hPD.1, hPD.2, hokm19, hk1, hk2, hk3, hk4, hk5, hk6, hk7, hokm10, hokm11, hrl20, hrl21, hrl22, hrl23⟩ hS (lv_sub hl [0, 1, 2, 3] rfl)

set_option maxHeartbeats 8000000 in
set_option maxRecDepth 100000 in
theorem law_15 {p : Program} {e : Env} {s : State} {m : MethodId} {below : List Frame} {meth : Method} {c : Code} (l : Launch) {b L : Nat} {xs : Nat → Int32} (hL : L ≤ 3072) (C0 : lw_At p s m meth c b L xs) {D : va_G} {ca : Nat → ClassId} {sa : Nat → Nat} {A : Nat → Prop} (hbA : ¬ A b) (hE : zE D ca sa A s s.heap) (rs : Nat → Nat → Nat) (rest : va_W) (st : Nat → zS) (x3 : Int32) (hi : 0 ≤ x3.toInt ∧ x3.toInt + 6 ≤ (L : Int)) (H : Heap) (locs : List Loc) (ls : Array Slot) (hZ : zLaw D ca A rs rest st H) (hS : va_S A s.heap H locs) (hl : lv_has ls 4 [(0, .ref b), (1, .ref (rs 0 0)), (2, .ref (rs 9 0)), (3, .int x3)])
    (kk : ∀ (st : Nat → zS) (H : Heap) (locs : List Loc) (ls : Array Slot), zLaw D ca A rs rest st H → va_S A s.heap H locs → lv_has ls 4 [(0, .ref b), (1, .ref (rs 0 0)), (2, .ref (rs 9 0)), (3, .int x3)] → W p l e room_1 s m #[Value.ref b] below meth c H locs 119 16966 (lw_Z below #[Value.ref b] s) (F0 m 761 ls [])) : W p l e room_1 s m #[Value.ref b] below meth c H locs 119 16966 (lw_Z below #[Value.ref b] s) (F0 m 609 ls []) := by
  obtain ⟨hx, hb, hr, hml, hown, hts0, hX, hbl, hlocks, hgv⟩ := C0
  have hts : ∀ w ∈ wsL_law, w.before #[Value.ref b] s = true := fun w h => hts0 w (wsL_law_in w h)
  have hK := hE.1
  have hF : CallFix p m c cL_law 4 s #[Value.ref b] wsL_law RL := ⟨hx, hb, hml, hown, hts⟩
  obtain ⟨hP, hD, hv0, hv1, hv2, hv3, hv4, hv5, hv6, hv7, hv8, hv9, hrel0, hrel1, hR1, hR4⟩ := hZ
  have hk0 := hv0
  obtain ⟨⟨hv0i0, hv0j0⟩, ⟨hv0i1, hv0j1⟩, ⟨hv0i5, hv0j5⟩, ⟨hv0i9, hv0j9⟩, hv0a6, hv0a8, hv0a9, hv0a23, hv0a27, hv0a28, hv0x0, hv0y0⟩ := hv0
  have hk1 := hv1
  have hk2 := hv2
  obtain ⟨hv2i0, hv2j0⟩ := hv2
  have hk3 := hv3
  obtain ⟨⟨hv3i3, hv3j3⟩, hv3x0⟩ := hv3
  have hk4 := hv4
  have hk5 := hv5
  obtain ⟨⟨hv5i0, hv5j0⟩, hv5a6⟩ := hv5
  have hk6 := hv6
  have hk7 := hv7
  obtain ⟨⟨hv7i0, hv7j0⟩, ⟨hv7i4, hv7j4⟩, ⟨hv7i5, hv7j5⟩, ⟨hv7i6, hv7j6⟩, ⟨hv7i7, hv7j7⟩, hv7a3, hv7a4, hv7a5, hv7a6⟩ := hv7
  have hk8 := hv8
  obtain ⟨⟨hv8i0, hv8j0⟩, ⟨hv8i4, hv8j4⟩, ⟨hv8i5, hv8j5⟩, ⟨hv8i6, hv8j6⟩, ⟨hv8i7, hv8j7⟩, hv8a3, hv8a4, hv8a5, hv8a6⟩ := hv8
  have hk9 := hv9
  obtain ⟨⟨hv9i0, hv9j0⟩, ⟨hv9i4, hv9j4⟩, ⟨hv9i5, hv9j5⟩, ⟨hv9i6, hv9j6⟩, ⟨hv9i7, hv9j7⟩, hv9a3, hv9a4, hv9a5, hv9a6⟩ := hv9
  have hnm : ((st 4).1 0).toInt = ((st 9).1 9).toInt := by rw [hR1.1]
  refine lv_aload_n hx hb dL_law_609 rfl (lv_at hl 1 rfl) ?_
  refine lv_aload_n hx hb dL_law_610 rfl (lv_at hl 0 rfl) ?_
  refine lv_iload_n hx hb dL_law_611 rfl (lv_at hl 3 rfl) ?_
  refine lv_iconst (v := 1) hx hb dL_law_612 (by decide) ?_
  refine lv_iadd hx hb dL_law_613 ?_
  refine lv_topi (fun t1 et1 => ?_)
  try have ht1 : t1.toInt = x3.toInt + 1 := z_add et1 rfl (by decide) (by omega -splitDisjunctions) (by omega -splitDisjunctions)
  have hi2 : vp_in t1 L := z_in (i := t1.toInt) rfl (by omega) (by omega)
  refine va_sld hx hb hX hbl hbA hS hi2 dL_law_614 ?_
  refine lv_topi (fun t3 et3 => ?_)
  refine lv_aload_n hx hb dL_law_615 rfl (lv_at hl 0 rfl) ?_
  refine lv_iload_n hx hb dL_law_616 rfl (lv_at hl 3 rfl) ?_
  refine lv_iconst (v := 2) hx hb dL_law_617 (by decide) ?_
  refine lv_iadd hx hb dL_law_618 ?_
  refine lv_topi (fun t4 et4 => ?_)
  try have ht4 : t4.toInt = x3.toInt + 2 := z_add et4 rfl (by decide) (by omega -splitDisjunctions) (by omega -splitDisjunctions)
  have hi5 : vp_in t4 L := z_in (i := t4.toInt) rfl (by omega) (by omega)
  refine va_sld hx hb hX hbl hbA hS hi5 dL_law_619 ?_
  refine lv_topi (fun t6 et6 => ?_)
  refine lv_aload_n hx hb dL_law_620 rfl (lv_at hl 0 rfl) ?_
  refine lv_iload_n hx hb dL_law_621 rfl (lv_at hl 3 rfl) ?_
  refine lv_iconst (v := 3) hx hb dL_law_622 (by decide) ?_
  refine lv_iadd hx hb dL_law_623 ?_
  refine lv_topi (fun t7 et7 => ?_)
  try have ht7 : t7.toInt = x3.toInt + 3 := z_add et7 rfl (by decide) (by omega -splitDisjunctions) (by omega -splitDisjunctions)
  have hi8 : vp_in t7 L := z_in (i := t7.toInt) rfl (by omega) (by omega)
  refine va_sld hx hb hX hbl hbA hS hi8 dL_law_624 ?_
  refine lv_topi (fun t9 et9 => ?_)
  refine lv_aload_n hx hb dL_law_625 rfl (lv_at hl 0 rfl) ?_
  refine lv_iload_n hx hb dL_law_626 rfl (lv_at hl 3 rfl) ?_
  refine lv_iconst (v := 4) hx hb dL_law_627 (by decide) ?_
  refine lv_iadd hx hb dL_law_628 ?_
  refine lv_topi (fun t10 et10 => ?_)
  try have ht10 : t10.toInt = x3.toInt + 4 := z_add et10 rfl (by decide) (by omega -splitDisjunctions) (by omega -splitDisjunctions)
  have hi11 : vp_in t10 L := z_in (i := t10.toInt) rfl (by omega) (by omega)
  refine va_sld hx hb hX hbl hbA hS hi11 dL_law_629 ?_
  refine lv_topi (fun t12 et12 => ?_)
  have hPD9 := pf_0_5 ca rs st rest hP hD
  refine z_iV (As := [.int t3, .int t6, .int t9, .int t12]) (rest := []) hF (c_X8_prices l D ca sa A (wO_0_5 ca rs st rest) (rs 0) (rs 5) (rs 1 0) (rs 2 0) (rs 3 0) (rs 4 0) (rs 6 0) (rs 7 0) (rs 8 0) (st 0).1 (st 0).2.1 (st 0).2.2.1 (st 0).2.2.2 hk1 (st 5).1 (st 5).2.1 (st 5).2.2.1 (st 5).2.2.2 hk6 t3 t6 t9 t12) (cwV 4 hts gL_law_X8_prices rfl rfl rfl (by decide +kernel) ⟨Nat.le_of_ble_eq_true rfl, Nat.le_of_ble_eq_true rfl⟩) hE hPD9.1 hPD9.2 hS 8 0 rfl rfl rfl hl.1 rfl (Nat.le_of_ble_eq_true rfl) dL_law_630 ⟨show 119 + 0 ≤ 119 by decide, show 16966 + 0 ≤ 16966 by decide⟩ (fun t14 u13 H locs hw15 hP hD hS => ?_)
  obtain ⟨im16, lm16, am16, bm16⟩ := u13
  have hokm16 := hw15.1
  have hw15 : (True) ∧ (((0 ≤ t3.toInt ∧ t3.toInt ≤ 1000 ∧ 0 ≤ t6.toInt ∧ t6.toInt ≤ 1000 ∧ 0 ≤ t9.toInt ∧ t9.toInt ≤ 1000 ∧ 0 ≤ t12.toInt ∧ t12.toInt ≤ 1000) ∧ t14.toInt = 1) ∨ (¬ (0 ≤ t3.toInt ∧ t3.toInt ≤ 1000 ∧ 0 ≤ t6.toInt ∧ t6.toInt ≤ 1000 ∧ 0 ≤ t9.toInt ∧ t9.toInt ≤ 1000 ∧ 0 ≤ t12.toInt ∧ t12.toInt ≤ 1000) ∧ t14.toInt = -2)) := hw15
  obtain ⟨-, hq17⟩ := hw15
  have hPD := pb_0_5 ca rs st rest (st 0) (im16, lm16, am16, bm16) hP hD
  have hP := hPD.1
  have hD := hPD.2
  refine lv_pop hx hb dL_law_633 rfl ?_
  refine lv_aload_n hx hb dL_law_634 rfl (lv_at hl 2 rfl) ?_
  refine lv_aload_n hx hb dL_law_635 rfl (lv_at hl 0 rfl) ?_
  refine lv_iload_n hx hb dL_law_636 rfl (lv_at hl 3 rfl) ?_
  refine lv_iconst (v := 1) hx hb dL_law_637 (by decide) ?_
  refine lv_iadd hx hb dL_law_638 ?_
  refine lv_topi (fun t18 et18 => ?_)
  try have ht18 : t18.toInt = x3.toInt + 1 := z_add et18 rfl (by decide) (by omega -splitDisjunctions) (by omega -splitDisjunctions)
  have hi19 : vp_in t18 L := z_in (i := t18.toInt) rfl (by omega) (by omega)
  refine va_sld hx hb hX hbl hbA hS hi19 dL_law_639 ?_
  rw [show xs t18.toNatClampNeg = t3 from by rw [et3, et18, et1]]
  refine lv_aload_n hx hb dL_law_640 rfl (lv_at hl 0 rfl) ?_
  refine lv_iload_n hx hb dL_law_641 rfl (lv_at hl 3 rfl) ?_
  refine lv_iconst (v := 2) hx hb dL_law_642 (by decide) ?_
  refine lv_iadd hx hb dL_law_643 ?_
  refine lv_topi (fun t20 et20 => ?_)
  try have ht20 : t20.toInt = x3.toInt + 2 := z_add et20 rfl (by decide) (by omega -splitDisjunctions) (by omega -splitDisjunctions)
  have hi21 : vp_in t20 L := z_in (i := t20.toInt) rfl (by omega) (by omega)
  refine va_sld hx hb hX hbl hbA hS hi21 dL_law_644 ?_
  rw [show xs t20.toNatClampNeg = t6 from by rw [et6, et20, et4]]
  refine lv_aload_n hx hb dL_law_645 rfl (lv_at hl 0 rfl) ?_
  refine lv_iload_n hx hb dL_law_646 rfl (lv_at hl 3 rfl) ?_
  refine lv_iconst (v := 3) hx hb dL_law_647 (by decide) ?_
  refine lv_iadd hx hb dL_law_648 ?_
  refine lv_topi (fun t22 et22 => ?_)
  try have ht22 : t22.toInt = x3.toInt + 3 := z_add et22 rfl (by decide) (by omega -splitDisjunctions) (by omega -splitDisjunctions)
  have hi23 : vp_in t22 L := z_in (i := t22.toInt) rfl (by omega) (by omega)
  refine va_sld hx hb hX hbl hbA hS hi23 dL_law_649 ?_
  rw [show xs t22.toNatClampNeg = t9 from by rw [et9, et22, et7]]
  refine lv_aload_n hx hb dL_law_650 rfl (lv_at hl 0 rfl) ?_
  refine lv_iload_n hx hb dL_law_651 rfl (lv_at hl 3 rfl) ?_
  refine lv_iconst (v := 4) hx hb dL_law_652 (by decide) ?_
  refine lv_iadd hx hb dL_law_653 ?_
  refine lv_topi (fun t24 et24 => ?_)
  try have ht24 : t24.toInt = x3.toInt + 4 := z_add et24 rfl (by decide) (by omega -splitDisjunctions) (by omega -splitDisjunctions)
  have hi25 : vp_in t24 L := z_in (i := t24.toInt) rfl (by omega) (by omega)
  refine va_sld hx hb hX hbl hbA hS hi25 dL_law_654 ?_
  rw [show xs t24.toNatClampNeg = t12 from by rw [et12, et24, et10]]
  have hP : va_P D vwCl (w_MOD ca (rs 9) (st 9).1 (st 9).2.1 (st 9).2.2.1 (st 9).2.2.2 (wR9 ca rs (zl zS0 [(st 0), (st 1), (st 2), (st 3), (st 4), (im16, lm16, am16, bm16), (st 6), (st 7), (st 8), (st 9)]) rest)) H := hP
  have hD : va_D A (w_MOD ca (rs 9) (st 9).1 (st 9).2.1 (st 9).2.2.1 (st 9).2.2.2 (wR9 ca rs (zl zS0 [(st 0), (st 1), (st 2), (st 3), (st 4), (im16, lm16, am16, bm16), (st 6), (st 7), (st 8), (st 9)]) rest)) := hD
  refine z_iV (As := [.int t3, .int t6, .int t9, .int t12]) (rest := []) hF (c_X9_prices l D ca sa A (wR9 ca rs (zl zS0 [(st 0), (st 1), (st 2), (st 3), (st 4), (im16, lm16, am16, bm16), (st 6), (st 7), (st 8), (st 9)]) rest) (rs 9) (st 9).1 (st 9).2.1 (st 9).2.2.1 (st 9).2.2.2 hk0 t3 t6 t9 t12) (cwV 4 hts gL_law_X9_prices rfl rfl rfl (by decide +kernel) ⟨Nat.le_of_ble_eq_true rfl, Nat.le_of_ble_eq_true rfl⟩) hE hP hD hS 9 0 rfl rfl rfl hl.1 rfl (Nat.le_of_ble_eq_true rfl) dL_law_655 ⟨show 119 + 0 ≤ 119 by decide, show 16966 + 0 ≤ 16966 by decide⟩ (fun t27 u26 H locs hw28 hP hD hS => ?_)
  obtain ⟨im29, lm29, am29, bm29⟩ := u26
  have hokm29 := hw28.1
  have hw28 : ((0 ≤ ((st 9).1 0).toInt ∧ ((st 9).1 0).toInt ≤ 600) ∧ (0 ≤ ((st 9).1 1).toInt ∧ ((st 9).1 1).toInt ≤ 600) ∧ (0 ≤ ((st 9).1 5).toInt ∧ ((st 9).1 5).toInt ≤ 600) ∧ (0 ≤ ((st 9).1 9).toInt ∧ ((st 9).1 9).toInt ≤ 60) ∧ z_rng (-1) 59 ((st 9).2.2.1 6) ∧ z_rng 0 59 ((st 9).2.2.1 8) ∧ z_rng 0 3 ((st 9).2.2.1 9) ∧ z_rng 0 269 ((st 9).2.2.1 23) ∧ z_rng 0 5 ((st 9).2.2.1 27) ∧ z_rng 0 59 ((st 9).2.2.1 28) ∧ (((st 9).1 2).toInt = 1 → 0 ≤ ((st 9).1 3).toInt) ∧ zOkR ((st 9).2.2.1 1) ((st 9).2.2.1 27)) ∧ (((0 ≤ t3.toInt ∧ t3.toInt ≤ 1000 ∧ 0 ≤ t6.toInt ∧ t6.toInt ≤ 1000 ∧ 0 ≤ t9.toInt ∧ t9.toInt ≤ 1000 ∧ 0 ≤ t12.toInt ∧ t12.toInt ≤ 1000) ∧ t27.toInt = 1) ∨ (¬ (0 ≤ t3.toInt ∧ t3.toInt ≤ 1000 ∧ 0 ≤ t6.toInt ∧ t6.toInt ≤ 1000 ∧ 0 ≤ t9.toInt ∧ t9.toInt ≤ 1000 ∧ 0 ≤ t12.toInt ∧ t12.toInt ≤ 1000) ∧ t27.toInt = -2)) := hw28
  obtain ⟨⟨-, -, -, -, -, -, -, -, -, -, -, -⟩, hq30⟩ := hw28
  have hPD := pc9 ca rs (st 0) (st 1) (st 2) (st 3) (st 4) (im16, lm16, am16, bm16) (st 6) (st 7) (st 8) (st 9) (zx [] (st 9).1 im29, zx [] (st 9).2.1 lm29, zx [29] (st 9).2.2.1 am29, zx [] (st 9).2.2.2 bm29) rest hP hD
  refine lv_pop hx hb dL_law_658 rfl ?_
  refine lv_goto (tgt := 761) hx hb dL_law_659 (by decide) ?_
  have hrl31 : ((st 1).1 0).toInt = ((st 9).1 0).toInt := by omega
  have hrl32 : ((st 0).1 0).toInt = ((st 9).1 10).toInt := by omega
  have hrl33 : zR1 ((st 4).1 0) ((st 9).1 9) ((st 4).2.2.1 0) ((st 4).2.2.1 1) ((st 4).2.2.1 2) ((st 4).2.2.1 3) ((st 4).2.2.1 4) ((st 4).2.2.1 5) ((st 4).2.2.1 6) ((st 4).2.2.1 7) ((st 9).2.2.1 2) ((st 9).2.2.1 3) ((st 9).2.2.1 4) ((st 9).2.2.1 5) ((st 9).2.2.1 6) ((st 9).2.2.1 7) ((st 9).2.2.1 9) ((st 9).2.2.1 8) ((st 4).2.2.2 0) := hR1
  have hrl34 : zR4 ((st 1).2.2.1 0) ((st 9).2.2.1 0) := hR4
  exact kk (zl zS0 [(st 0), (st 1), (st 2), (st 3), (st 4), (im16, lm16, am16, bm16), (st 6), (st 7), (st 8), (zx [] (st 9).1 im29, zx [] (st 9).2.1 lm29, zx [29] (st 9).2.2.1 am29, zx [] (st 9).2.2.2 bm29)]) _ _ ls ⟨hPD.1, hPD.2, hokm29, hk1, hk2, hk3, hk4, hk5, hokm16, hk7, hk8, hk9, hrl31, hrl32, hrl33, hrl34⟩ hS (lv_sub hl [0, 1, 2, 3] rfl)

set_option maxHeartbeats 8000000 in
set_option maxRecDepth 100000 in
theorem law_16 {p : Program} {e : Env} {s : State} {m : MethodId} {below : List Frame} {meth : Method} {c : Code} (l : Launch) {b L : Nat} {xs : Nat → Int32} (hL : L ≤ 3072) (C0 : lw_At p s m meth c b L xs) {D : va_G} {ca : Nat → ClassId} {sa : Nat → Nat} {A : Nat → Prop} (hbA : ¬ A b) (hE : zE D ca sa A s s.heap) (rs : Nat → Nat → Nat) (rest : va_W) (st : Nat → zS) (x3 : Int32) (hi : 0 ≤ x3.toInt ∧ x3.toInt + 6 ≤ (L : Int)) (H : Heap) (locs : List Loc) (ls : Array Slot) (hZ : zLaw D ca A rs rest st H) (hS : va_S A s.heap H locs) (hl : lv_has ls 4 [(0, .ref b), (1, .ref (rs 0 0)), (2, .ref (rs 9 0)), (3, .int x3)])
    (kk : ∀ (st : Nat → zS) (H : Heap) (locs : List Loc) (ls : Array Slot), zLaw D ca A rs rest st H → va_S A s.heap H locs → lv_has ls 4 [(0, .ref b), (1, .ref (rs 0 0)), (2, .ref (rs 9 0)), (3, .int x3)] → W p l e room_1 s m #[Value.ref b] below meth c H locs 119 16966 (lw_Z below #[Value.ref b] s) (F0 m 761 ls [])) : W p l e room_1 s m #[Value.ref b] below meth c H locs 119 16966 (lw_Z below #[Value.ref b] s) (F0 m 662 ls []) := by
  obtain ⟨hx, hb, hr, hml, hown, hts0, hX, hbl, hlocks, hgv⟩ := C0
  have hts : ∀ w ∈ wsL_law, w.before #[Value.ref b] s = true := fun w h => hts0 w (wsL_law_in w h)
  have hK := hE.1
  have hF : CallFix p m c cL_law 4 s #[Value.ref b] wsL_law RL := ⟨hx, hb, hml, hown, hts⟩
  obtain ⟨hP, hD, hv0, hv1, hv2, hv3, hv4, hv5, hv6, hv7, hv8, hv9, hrel0, hrel1, hR1, hR4⟩ := hZ
  have hk0 := hv0
  obtain ⟨⟨hv0i0, hv0j0⟩, ⟨hv0i1, hv0j1⟩, ⟨hv0i5, hv0j5⟩, ⟨hv0i9, hv0j9⟩, hv0a6, hv0a8, hv0a9, hv0a23, hv0a27, hv0a28, hv0x0, hv0y0⟩ := hv0
  have hk1 := hv1
  have hk2 := hv2
  obtain ⟨hv2i0, hv2j0⟩ := hv2
  have hk3 := hv3
  obtain ⟨⟨hv3i3, hv3j3⟩, hv3x0⟩ := hv3
  have hk4 := hv4
  have hk5 := hv5
  obtain ⟨⟨hv5i0, hv5j0⟩, hv5a6⟩ := hv5
  have hk6 := hv6
  have hk7 := hv7
  obtain ⟨⟨hv7i0, hv7j0⟩, ⟨hv7i4, hv7j4⟩, ⟨hv7i5, hv7j5⟩, ⟨hv7i6, hv7j6⟩, ⟨hv7i7, hv7j7⟩, hv7a3, hv7a4, hv7a5, hv7a6⟩ := hv7
  have hk8 := hv8
  obtain ⟨⟨hv8i0, hv8j0⟩, ⟨hv8i4, hv8j4⟩, ⟨hv8i5, hv8j5⟩, ⟨hv8i6, hv8j6⟩, ⟨hv8i7, hv8j7⟩, hv8a3, hv8a4, hv8a5, hv8a6⟩ := hv8
  have hk9 := hv9
  obtain ⟨⟨hv9i0, hv9j0⟩, ⟨hv9i4, hv9j4⟩, ⟨hv9i5, hv9j5⟩, ⟨hv9i6, hv9j6⟩, ⟨hv9i7, hv9j7⟩, hv9a3, hv9a4, hv9a5, hv9a6⟩ := hv9
  have hnm : ((st 4).1 0).toInt = ((st 9).1 9).toInt := by rw [hR1.1]
  refine lv_aload_n hx hb dL_law_662 rfl (lv_at hl 1 rfl) ?_
  refine lv_aload_n hx hb dL_law_663 rfl (lv_at hl 0 rfl) ?_
  refine lv_iload_n hx hb dL_law_664 rfl (lv_at hl 3 rfl) ?_
  refine lv_iconst (v := 1) hx hb dL_law_665 (by decide) ?_
  refine lv_iadd hx hb dL_law_666 ?_
  refine lv_topi (fun t1 et1 => ?_)
  try have ht1 : t1.toInt = x3.toInt + 1 := z_add et1 rfl (by decide) (by omega -splitDisjunctions) (by omega -splitDisjunctions)
  have hi2 : vp_in t1 L := z_in (i := t1.toInt) rfl (by omega) (by omega)
  refine va_sld hx hb hX hbl hbA hS hi2 dL_law_667 ?_
  refine lv_topi (fun t3 et3 => ?_)
  have hPD9 := pf_0_3_7_4_5 ca rs st rest hP hD
  refine z_iV (As := [.int t3]) (rest := []) hF (c_X8_costs l D ca sa A (wO_0_3_7_4_5 ca rs st rest) (rs 0) (rs 3) (rs 7) (rs 4) (rs 5) (rs 1 0) (rs 2 0) (rs 6 0) (rs 8 0) (st 0).1 (st 0).2.1 (st 0).2.2.1 (st 0).2.2.2 hk1 (st 3).1 (st 3).2.1 (st 3).2.2.1 (st 3).2.2.2 hk4 (st 7).1 (st 7).2.1 (st 7).2.2.1 (st 7).2.2.2 hk8 (st 4).1 (st 4).2.1 (st 4).2.2.1 (st 4).2.2.2 hk5 (st 5).1 (st 5).2.1 (st 5).2.2.1 (st 5).2.2.2 hk6 t3) (cwV 1 hts gL_law_X8_costs rfl rfl rfl (by decide +kernel) ⟨Nat.le_of_ble_eq_true rfl, Nat.le_of_ble_eq_true rfl⟩) hE hPD9.1 hPD9.2 hS 8 0 rfl rfl rfl hl.1 rfl (Nat.le_of_ble_eq_true rfl) dL_law_668 ⟨show 119 + 0 ≤ 119 by decide, show 16966 + 0 ≤ 16966 by decide⟩ (fun t5 u4 H locs hw6 hP hD hS => ?_)
  obtain ⟨im7, lm7, am7, bm7⟩ := u4
  have hokm7 := hw6
  have hw6 : ((0 ≤ (im7 0).toInt ∧ (im7 0).toInt ≤ 1) ∧ (0 ≤ (im7 4).toInt ∧ (im7 4).toInt ≤ 60) ∧ (0 ≤ (im7 5).toInt ∧ (im7 5).toInt ≤ 60) ∧ (0 ≤ (im7 6).toInt ∧ (im7 6).toInt ≤ 60) ∧ (0 ≤ (im7 7).toInt ∧ (im7 7).toInt ≤ 259) ∧ z_rng 0 60 (am7 3) ∧ z_rng 0 59 (am7 4) ∧ z_rng 0 59 (am7 5) ∧ z_rng 0 59 (am7 6)) := hw6
  obtain ⟨⟨hm7i0, hm7j0⟩, ⟨hm7i4, hm7j4⟩, ⟨hm7i5, hm7j5⟩, ⟨hm7i6, hm7j6⟩, ⟨hm7i7, hm7j7⟩, hm7a3, hm7a4, hm7a5, hm7a6⟩ := hw6
  have hPD := pb_0_3_7_4_5 ca rs st rest (st 0) (st 3) (im7, lm7, am7, bm7) (st 4) (st 5) hP hD
  have hP := hPD.1
  have hD := hPD.2
  refine lv_pop hx hb dL_law_671 rfl ?_
  refine lv_aload_n hx hb dL_law_672 rfl (lv_at hl 2 rfl) ?_
  refine lv_aload_n hx hb dL_law_673 rfl (lv_at hl 0 rfl) ?_
  refine lv_iload_n hx hb dL_law_674 rfl (lv_at hl 3 rfl) ?_
  refine lv_iconst (v := 1) hx hb dL_law_675 (by decide) ?_
  refine lv_iadd hx hb dL_law_676 ?_
  refine lv_topi (fun t8 et8 => ?_)
  try have ht8 : t8.toInt = x3.toInt + 1 := z_add et8 rfl (by decide) (by omega -splitDisjunctions) (by omega -splitDisjunctions)
  have hi9 : vp_in t8 L := z_in (i := t8.toInt) rfl (by omega) (by omega)
  refine va_sld hx hb hX hbl hbA hS hi9 dL_law_677 ?_
  rw [show xs t8.toNatClampNeg = t3 from by rw [et3, et8, et1]]
  have hP : va_P D vwCl (w_MOD ca (rs 9) (st 9).1 (st 9).2.1 (st 9).2.2.1 (st 9).2.2.2 (wR9 ca rs (zl zS0 [(st 0), (st 1), (st 2), (st 3), (st 4), (st 5), (st 6), (im7, lm7, am7, bm7), (st 8), (st 9)]) rest)) H := hP
  have hD : va_D A (w_MOD ca (rs 9) (st 9).1 (st 9).2.1 (st 9).2.2.1 (st 9).2.2.2 (wR9 ca rs (zl zS0 [(st 0), (st 1), (st 2), (st 3), (st 4), (st 5), (st 6), (im7, lm7, am7, bm7), (st 8), (st 9)]) rest)) := hD
  refine z_iV (As := [.int t3]) (rest := []) hF (c_X9_costs l D ca sa A (wR9 ca rs (zl zS0 [(st 0), (st 1), (st 2), (st 3), (st 4), (st 5), (st 6), (im7, lm7, am7, bm7), (st 8), (st 9)]) rest) (rs 9) (st 9).1 (st 9).2.1 (st 9).2.2.1 (st 9).2.2.2 hk0 t3) (cwV 1 hts gL_law_X9_costs rfl rfl rfl (by decide +kernel) ⟨Nat.le_of_ble_eq_true rfl, Nat.le_of_ble_eq_true rfl⟩) hE hP hD hS 9 0 rfl rfl rfl hl.1 rfl (Nat.le_of_ble_eq_true rfl) dL_law_678 ⟨show 119 + 0 ≤ 119 by decide, show 16966 + 0 ≤ 16966 by decide⟩ (fun t11 u10 H locs hw12 hP hD hS => ?_)
  obtain ⟨im13, lm13, am13, bm13⟩ := u10
  have hokm13 := hw12
  have hw12 : ((0 ≤ ((st 9).1 0).toInt ∧ ((st 9).1 0).toInt ≤ 600) ∧ (0 ≤ ((st 9).1 1).toInt ∧ ((st 9).1 1).toInt ≤ 600) ∧ (0 ≤ ((st 9).1 5).toInt ∧ ((st 9).1 5).toInt ≤ 600) ∧ (0 ≤ ((st 9).1 9).toInt ∧ ((st 9).1 9).toInt ≤ 60) ∧ z_rng (-1) 59 ((st 9).2.2.1 6) ∧ z_rng 0 59 ((st 9).2.2.1 8) ∧ z_rng 0 3 ((st 9).2.2.1 9) ∧ z_rng 0 269 (am13 23) ∧ z_rng 0 5 (am13 27) ∧ z_rng 0 59 (am13 28) ∧ (((st 9).1 2).toInt = 1 → 0 ≤ ((st 9).1 3).toInt) ∧ zOkR ((st 9).2.2.1 1) (am13 27)) := hw12
  obtain ⟨-, -, -, -, -, -, -, hm13a23, hm13a27, hm13a28, -, hm13y0⟩ := hw12
  have hPD := pc9 ca rs (st 0) (st 1) (st 2) (st 3) (st 4) (st 5) (st 6) (im7, lm7, am7, bm7) (st 8) (st 9) (zx [] (st 9).1 im13, zx [] (st 9).2.1 lm13, zx [10, 11, 12, 13, 14, 15, 16, 17, 18, 19, 20, 21, 22, 23, 24, 25, 26, 27, 28] (st 9).2.2.1 am13, zx [0, 1, 2] (st 9).2.2.2 bm13) rest hP hD
  refine lv_pop hx hb dL_law_681 rfl ?_
  refine lv_goto (tgt := 761) hx hb dL_law_682 (by decide) ?_
  have hrl14 : ((st 1).1 0).toInt = ((st 9).1 0).toInt := by omega
  have hrl15 : ((st 0).1 0).toInt = ((st 9).1 10).toInt := by omega
  have hrl16 : zR1 ((st 4).1 0) ((st 9).1 9) ((st 4).2.2.1 0) ((st 4).2.2.1 1) ((st 4).2.2.1 2) ((st 4).2.2.1 3) ((st 4).2.2.1 4) ((st 4).2.2.1 5) ((st 4).2.2.1 6) ((st 4).2.2.1 7) ((st 9).2.2.1 2) ((st 9).2.2.1 3) ((st 9).2.2.1 4) ((st 9).2.2.1 5) ((st 9).2.2.1 6) ((st 9).2.2.1 7) ((st 9).2.2.1 9) ((st 9).2.2.1 8) ((st 4).2.2.2 0) := hR1
  have hrl17 : zR4 ((st 1).2.2.1 0) ((st 9).2.2.1 0) := hR4
  exact kk (zl zS0 [(st 0), (st 1), (st 2), (st 3), (st 4), (st 5), (st 6), (im7, lm7, am7, bm7), (st 8), (zx [] (st 9).1 im13, zx [] (st 9).2.1 lm13, zx [10, 11, 12, 13, 14, 15, 16, 17, 18, 19, 20, 21, 22, 23, 24, 25, 26, 27, 28] (st 9).2.2.1 am13, zx [0, 1, 2] (st 9).2.2.2 bm13)]) _ _ ls ⟨hPD.1, hPD.2, hokm13, hk1, hk2, hk3, hk4, hk5, hk6, hk7, hokm7, hk9, hrl14, hrl15, hrl16, hrl17⟩ hS (lv_sub hl [0, 1, 2, 3] rfl)

set_option maxHeartbeats 8000000 in
set_option maxRecDepth 100000 in
theorem law_17 {p : Program} {e : Env} {s : State} {m : MethodId} {below : List Frame} {meth : Method} {c : Code} (l : Launch) {b L : Nat} {xs : Nat → Int32} (hL : L ≤ 3072) (C0 : lw_At p s m meth c b L xs) {D : va_G} {ca : Nat → ClassId} {sa : Nat → Nat} {A : Nat → Prop} (hbA : ¬ A b) (hE : zE D ca sa A s s.heap) (rs : Nat → Nat → Nat) (rest : va_W) (st : Nat → zS) (x3 : Int32) (hi : 0 ≤ x3.toInt ∧ x3.toInt + 6 ≤ (L : Int)) (H : Heap) (locs : List Loc) (ls : Array Slot) (hZ : zLaw D ca A rs rest st H) (hS : va_S A s.heap H locs) (hl : lv_has ls 4 [(0, .ref b), (1, .ref (rs 0 0)), (2, .ref (rs 9 0)), (3, .int x3)])
    (kk : ∀ (st : Nat → zS) (H : Heap) (locs : List Loc) (ls : Array Slot), zLaw D ca A rs rest st H → va_S A s.heap H locs → lv_has ls 4 [(0, .ref b), (1, .ref (rs 0 0)), (2, .ref (rs 9 0)), (3, .int x3)] → W p l e room_1 s m #[Value.ref b] below meth c H locs 119 16966 (lw_Z below #[Value.ref b] s) (F0 m 761 ls [])) : W p l e room_1 s m #[Value.ref b] below meth c H locs 119 16966 (lw_Z below #[Value.ref b] s) (F0 m 685 ls []) := by
  obtain ⟨hx, hb, hr, hml, hown, hts0, hX, hbl, hlocks, hgv⟩ := C0
  have hts : ∀ w ∈ wsL_law, w.before #[Value.ref b] s = true := fun w h => hts0 w (wsL_law_in w h)
  have hK := hE.1
  have hF : CallFix p m c cL_law 4 s #[Value.ref b] wsL_law RL := ⟨hx, hb, hml, hown, hts⟩
  obtain ⟨hP, hD, hv0, hv1, hv2, hv3, hv4, hv5, hv6, hv7, hv8, hv9, hrel0, hrel1, hR1, hR4⟩ := hZ
  have hk0 := hv0
  obtain ⟨⟨hv0i0, hv0j0⟩, ⟨hv0i1, hv0j1⟩, ⟨hv0i5, hv0j5⟩, ⟨hv0i9, hv0j9⟩, hv0a6, hv0a8, hv0a9, hv0a23, hv0a27, hv0a28, hv0x0, hv0y0⟩ := hv0
  have hk1 := hv1
  have hk2 := hv2
  obtain ⟨hv2i0, hv2j0⟩ := hv2
  have hk3 := hv3
  obtain ⟨⟨hv3i3, hv3j3⟩, hv3x0⟩ := hv3
  have hk4 := hv4
  have hk5 := hv5
  obtain ⟨⟨hv5i0, hv5j0⟩, hv5a6⟩ := hv5
  have hk6 := hv6
  have hk7 := hv7
  obtain ⟨⟨hv7i0, hv7j0⟩, ⟨hv7i4, hv7j4⟩, ⟨hv7i5, hv7j5⟩, ⟨hv7i6, hv7j6⟩, ⟨hv7i7, hv7j7⟩, hv7a3, hv7a4, hv7a5, hv7a6⟩ := hv7
  have hk8 := hv8
  obtain ⟨⟨hv8i0, hv8j0⟩, ⟨hv8i4, hv8j4⟩, ⟨hv8i5, hv8j5⟩, ⟨hv8i6, hv8j6⟩, ⟨hv8i7, hv8j7⟩, hv8a3, hv8a4, hv8a5, hv8a6⟩ := hv8
  have hk9 := hv9
  obtain ⟨⟨hv9i0, hv9j0⟩, ⟨hv9i4, hv9j4⟩, ⟨hv9i5, hv9j5⟩, ⟨hv9i6, hv9j6⟩, ⟨hv9i7, hv9j7⟩, hv9a3, hv9a4, hv9a5, hv9a6⟩ := hv9
  have hnm : ((st 4).1 0).toInt = ((st 9).1 9).toInt := by rw [hR1.1]
  refine lv_aload_n hx hb dL_law_685 rfl (lv_at hl 1 rfl) ?_
  refine lv_aload_n hx hb dL_law_686 rfl (lv_at hl 0 rfl) ?_
  refine lv_iload_n hx hb dL_law_687 rfl (lv_at hl 3 rfl) ?_
  refine lv_iconst (v := 1) hx hb dL_law_688 (by decide) ?_
  refine lv_iadd hx hb dL_law_689 ?_
  refine lv_topi (fun t1 et1 => ?_)
  try have ht1 : t1.toInt = x3.toInt + 1 := z_add et1 rfl (by decide) (by omega -splitDisjunctions) (by omega -splitDisjunctions)
  have hi2 : vp_in t1 L := z_in (i := t1.toInt) rfl (by omega) (by omega)
  refine va_sld hx hb hX hbl hbA hS hi2 dL_law_690 ?_
  refine lv_topi (fun t3 et3 => ?_)
  refine lv_aload_n hx hb dL_law_691 rfl (lv_at hl 0 rfl) ?_
  refine lv_iload_n hx hb dL_law_692 rfl (lv_at hl 3 rfl) ?_
  refine lv_iconst (v := 2) hx hb dL_law_693 (by decide) ?_
  refine lv_iadd hx hb dL_law_694 ?_
  refine lv_topi (fun t4 et4 => ?_)
  try have ht4 : t4.toInt = x3.toInt + 2 := z_add et4 rfl (by decide) (by omega -splitDisjunctions) (by omega -splitDisjunctions)
  have hi5 : vp_in t4 L := z_in (i := t4.toInt) rfl (by omega) (by omega)
  refine va_sld hx hb hX hbl hbA hS hi5 dL_law_695 ?_
  refine lv_topi (fun t6 et6 => ?_)
  refine lv_aload_n hx hb dL_law_696 rfl (lv_at hl 0 rfl) ?_
  refine lv_iload_n hx hb dL_law_697 rfl (lv_at hl 3 rfl) ?_
  refine lv_iconst (v := 3) hx hb dL_law_698 (by decide) ?_
  refine lv_iadd hx hb dL_law_699 ?_
  refine lv_topi (fun t7 et7 => ?_)
  try have ht7 : t7.toInt = x3.toInt + 3 := z_add et7 rfl (by decide) (by omega -splitDisjunctions) (by omega -splitDisjunctions)
  have hi8 : vp_in t7 L := z_in (i := t7.toInt) rfl (by omega) (by omega)
  refine va_sld hx hb hX hbl hbA hS hi8 dL_law_700 ?_
  refine lv_topi (fun t9 et9 => ?_)
  refine lv_aload_n hx hb dL_law_701 rfl (lv_at hl 0 rfl) ?_
  refine lv_iload_n hx hb dL_law_702 rfl (lv_at hl 3 rfl) ?_
  refine lv_iconst (v := 4) hx hb dL_law_703 (by decide) ?_
  refine lv_iadd hx hb dL_law_704 ?_
  refine lv_topi (fun t10 et10 => ?_)
  try have ht10 : t10.toInt = x3.toInt + 4 := z_add et10 rfl (by decide) (by omega -splitDisjunctions) (by omega -splitDisjunctions)
  have hi11 : vp_in t10 L := z_in (i := t10.toInt) rfl (by omega) (by omega)
  refine va_sld hx hb hX hbl hbA hS hi11 dL_law_705 ?_
  refine lv_topi (fun t12 et12 => ?_)
  have hPD9 := pf_0_3_7_4_5 ca rs st rest hP hD
  refine z_iV (As := [.int t3, .int t6, .int t9, .int t12]) (rest := []) hF (c_X8_best l D ca sa A (wO_0_3_7_4_5 ca rs st rest) (rs 0) (rs 3) (rs 7) (rs 4) (rs 5) (rs 1 0) (rs 2 0) (rs 6 0) (rs 8 0) (st 0).1 (st 0).2.1 (st 0).2.2.1 (st 0).2.2.2 hk1 (st 3).1 (st 3).2.1 (st 3).2.2.1 (st 3).2.2.2 hk4 (st 7).1 (st 7).2.1 (st 7).2.2.1 (st 7).2.2.2 hk8 (st 4).1 (st 4).2.1 (st 4).2.2.1 (st 4).2.2.2 hk5 (st 5).1 (st 5).2.1 (st 5).2.2.1 (st 5).2.2.2 hk6 t3 t6 t9 t12) (cwV 4 hts gL_law_X8_best rfl rfl rfl (by decide +kernel) ⟨Nat.le_of_ble_eq_true rfl, Nat.le_of_ble_eq_true rfl⟩) hE hPD9.1 hPD9.2 hS 8 0 rfl rfl rfl hl.1 rfl (Nat.le_of_ble_eq_true rfl) dL_law_706 ⟨show 119 + 0 ≤ 119 by decide, show 16966 + 0 ≤ 16966 by decide⟩ (fun t14 u13 H locs hw15 hP hD hS => ?_)
  obtain ⟨im16, lm16, am16, bm16⟩ := u13
  have hokm16 := hw15
  have hw15 : ((0 ≤ (im16 0).toInt ∧ (im16 0).toInt ≤ 1) ∧ (0 ≤ (im16 4).toInt ∧ (im16 4).toInt ≤ 60) ∧ (0 ≤ (im16 5).toInt ∧ (im16 5).toInt ≤ 60) ∧ (0 ≤ (im16 6).toInt ∧ (im16 6).toInt ≤ 60) ∧ (0 ≤ (im16 7).toInt ∧ (im16 7).toInt ≤ 259) ∧ z_rng 0 60 (am16 3) ∧ z_rng 0 59 (am16 4) ∧ z_rng 0 59 (am16 5) ∧ z_rng 0 59 (am16 6)) := hw15
  obtain ⟨⟨hm16i0, hm16j0⟩, ⟨hm16i4, hm16j4⟩, ⟨hm16i5, hm16j5⟩, ⟨hm16i6, hm16j6⟩, ⟨hm16i7, hm16j7⟩, hm16a3, hm16a4, hm16a5, hm16a6⟩ := hw15
  have hPD := pb_0_3_7_4_5 ca rs st rest (st 0) (st 3) (im16, lm16, am16, bm16) (st 4) (st 5) hP hD
  have hP := hPD.1
  have hD := hPD.2
  refine lv_pop hx hb dL_law_709 rfl ?_
  refine lv_aload_n hx hb dL_law_710 rfl (lv_at hl 2 rfl) ?_
  refine lv_aload_n hx hb dL_law_711 rfl (lv_at hl 0 rfl) ?_
  refine lv_iload_n hx hb dL_law_712 rfl (lv_at hl 3 rfl) ?_
  refine lv_iconst (v := 1) hx hb dL_law_713 (by decide) ?_
  refine lv_iadd hx hb dL_law_714 ?_
  refine lv_topi (fun t17 et17 => ?_)
  try have ht17 : t17.toInt = x3.toInt + 1 := z_add et17 rfl (by decide) (by omega -splitDisjunctions) (by omega -splitDisjunctions)
  have hi18 : vp_in t17 L := z_in (i := t17.toInt) rfl (by omega) (by omega)
  refine va_sld hx hb hX hbl hbA hS hi18 dL_law_715 ?_
  rw [show xs t17.toNatClampNeg = t3 from by rw [et3, et17, et1]]
  refine lv_aload_n hx hb dL_law_716 rfl (lv_at hl 0 rfl) ?_
  refine lv_iload_n hx hb dL_law_717 rfl (lv_at hl 3 rfl) ?_
  refine lv_iconst (v := 2) hx hb dL_law_718 (by decide) ?_
  refine lv_iadd hx hb dL_law_719 ?_
  refine lv_topi (fun t19 et19 => ?_)
  try have ht19 : t19.toInt = x3.toInt + 2 := z_add et19 rfl (by decide) (by omega -splitDisjunctions) (by omega -splitDisjunctions)
  have hi20 : vp_in t19 L := z_in (i := t19.toInt) rfl (by omega) (by omega)
  refine va_sld hx hb hX hbl hbA hS hi20 dL_law_720 ?_
  rw [show xs t19.toNatClampNeg = t6 from by rw [et6, et19, et4]]
  refine lv_aload_n hx hb dL_law_721 rfl (lv_at hl 0 rfl) ?_
  refine lv_iload_n hx hb dL_law_722 rfl (lv_at hl 3 rfl) ?_
  refine lv_iconst (v := 3) hx hb dL_law_723 (by decide) ?_
  refine lv_iadd hx hb dL_law_724 ?_
  refine lv_topi (fun t21 et21 => ?_)
  try have ht21 : t21.toInt = x3.toInt + 3 := z_add et21 rfl (by decide) (by omega -splitDisjunctions) (by omega -splitDisjunctions)
  have hi22 : vp_in t21 L := z_in (i := t21.toInt) rfl (by omega) (by omega)
  refine va_sld hx hb hX hbl hbA hS hi22 dL_law_725 ?_
  rw [show xs t21.toNatClampNeg = t9 from by rw [et9, et21, et7]]
  refine lv_aload_n hx hb dL_law_726 rfl (lv_at hl 0 rfl) ?_
  refine lv_iload_n hx hb dL_law_727 rfl (lv_at hl 3 rfl) ?_
  refine lv_iconst (v := 4) hx hb dL_law_728 (by decide) ?_
  refine lv_iadd hx hb dL_law_729 ?_
  refine lv_topi (fun t23 et23 => ?_)
  try have ht23 : t23.toInt = x3.toInt + 4 := z_add et23 rfl (by decide) (by omega -splitDisjunctions) (by omega -splitDisjunctions)
  have hi24 : vp_in t23 L := z_in (i := t23.toInt) rfl (by omega) (by omega)
  refine va_sld hx hb hX hbl hbA hS hi24 dL_law_730 ?_
  rw [show xs t23.toNatClampNeg = t12 from by rw [et12, et23, et10]]
  have hP : va_P D vwCl (w_MOD ca (rs 9) (st 9).1 (st 9).2.1 (st 9).2.2.1 (st 9).2.2.2 (wR9 ca rs (zl zS0 [(st 0), (st 1), (st 2), (st 3), (st 4), (st 5), (st 6), (im16, lm16, am16, bm16), (st 8), (st 9)]) rest)) H := hP
  have hD : va_D A (w_MOD ca (rs 9) (st 9).1 (st 9).2.1 (st 9).2.2.1 (st 9).2.2.2 (wR9 ca rs (zl zS0 [(st 0), (st 1), (st 2), (st 3), (st 4), (st 5), (st 6), (im16, lm16, am16, bm16), (st 8), (st 9)]) rest)) := hD
  refine z_iV (As := [.int t3, .int t6, .int t9, .int t12]) (rest := []) hF (c_X9_best l D ca sa A (wR9 ca rs (zl zS0 [(st 0), (st 1), (st 2), (st 3), (st 4), (st 5), (st 6), (im16, lm16, am16, bm16), (st 8), (st 9)]) rest) (rs 9) (st 9).1 (st 9).2.1 (st 9).2.2.1 (st 9).2.2.2 hk0 t3 t6 t9 t12) (cwV 4 hts gL_law_X9_best rfl rfl rfl (by decide +kernel) ⟨Nat.le_of_ble_eq_true rfl, Nat.le_of_ble_eq_true rfl⟩) hE hP hD hS 9 0 rfl rfl rfl hl.1 rfl (Nat.le_of_ble_eq_true rfl) dL_law_731 ⟨show 119 + 0 ≤ 119 by decide, show 16966 + 0 ≤ 16966 by decide⟩ (fun t26 u25 H locs hw27 hP hD hS => ?_)
  obtain ⟨im28, lm28, am28, bm28⟩ := u25
  have hokm28 := hw27
  have hw27 : ((0 ≤ ((st 9).1 0).toInt ∧ ((st 9).1 0).toInt ≤ 600) ∧ (0 ≤ ((st 9).1 1).toInt ∧ ((st 9).1 1).toInt ≤ 600) ∧ (0 ≤ ((st 9).1 5).toInt ∧ ((st 9).1 5).toInt ≤ 600) ∧ (0 ≤ ((st 9).1 9).toInt ∧ ((st 9).1 9).toInt ≤ 60) ∧ z_rng (-1) 59 ((st 9).2.2.1 6) ∧ z_rng 0 59 ((st 9).2.2.1 8) ∧ z_rng 0 3 ((st 9).2.2.1 9) ∧ z_rng 0 269 (am28 23) ∧ z_rng 0 5 (am28 27) ∧ z_rng 0 59 (am28 28) ∧ (((st 9).1 2).toInt = 1 → 0 ≤ ((st 9).1 3).toInt) ∧ zOkR (am28 1) (am28 27)) := hw27
  obtain ⟨-, -, -, -, -, -, -, hm28a23, hm28a27, hm28a28, -, hm28y0⟩ := hw27
  have hPD := pc9 ca rs (st 0) (st 1) (st 2) (st 3) (st 4) (st 5) (st 6) (im16, lm16, am16, bm16) (st 8) (st 9) (zx [] (st 9).1 im28, zx [] (st 9).2.1 lm28, zx [1, 10, 11, 12, 13, 14, 15, 16, 17, 18, 19, 20, 21, 22, 23, 24, 25, 26, 27, 28] (st 9).2.2.1 am28, zx [0, 1, 2] (st 9).2.2.2 bm28) rest hP hD
  refine lv_pop hx hb dL_law_734 rfl ?_
  refine lv_goto (tgt := 761) hx hb dL_law_735 (by decide) ?_
  have hrl29 : ((st 1).1 0).toInt = ((st 9).1 0).toInt := by omega
  have hrl30 : ((st 0).1 0).toInt = ((st 9).1 10).toInt := by omega
  have hrl31 : zR1 ((st 4).1 0) ((st 9).1 9) ((st 4).2.2.1 0) ((st 4).2.2.1 1) ((st 4).2.2.1 2) ((st 4).2.2.1 3) ((st 4).2.2.1 4) ((st 4).2.2.1 5) ((st 4).2.2.1 6) ((st 4).2.2.1 7) ((st 9).2.2.1 2) ((st 9).2.2.1 3) ((st 9).2.2.1 4) ((st 9).2.2.1 5) ((st 9).2.2.1 6) ((st 9).2.2.1 7) ((st 9).2.2.1 9) ((st 9).2.2.1 8) ((st 4).2.2.2 0) := hR1
  have hrl32 : zR4 ((st 1).2.2.1 0) ((st 9).2.2.1 0) := hR4
  exact kk (zl zS0 [(st 0), (st 1), (st 2), (st 3), (st 4), (st 5), (st 6), (im16, lm16, am16, bm16), (st 8), (zx [] (st 9).1 im28, zx [] (st 9).2.1 lm28, zx [1, 10, 11, 12, 13, 14, 15, 16, 17, 18, 19, 20, 21, 22, 23, 24, 25, 26, 27, 28] (st 9).2.2.1 am28, zx [0, 1, 2] (st 9).2.2.2 bm28)]) _ _ ls ⟨hPD.1, hPD.2, hokm28, hk1, hk2, hk3, hk4, hk5, hk6, hk7, hokm16, hk9, hrl29, hrl30, hrl31, hrl32⟩ hS (lv_sub hl [0, 1, 2, 3] rfl)

set_option maxHeartbeats 8000000 in
set_option maxRecDepth 100000 in
theorem law_18 {p : Program} {e : Env} {s : State} {m : MethodId} {below : List Frame} {meth : Method} {c : Code} (l : Launch) {b L : Nat} {xs : Nat → Int32} (hL : L ≤ 3072) (C0 : lw_At p s m meth c b L xs) {D : va_G} {ca : Nat → ClassId} {sa : Nat → Nat} {A : Nat → Prop} (hbA : ¬ A b) (hE : zE D ca sa A s s.heap) (rs : Nat → Nat → Nat) (rest : va_W) (st : Nat → zS) (x3 : Int32) (hi : 0 ≤ x3.toInt ∧ x3.toInt + 6 ≤ (L : Int)) (H : Heap) (locs : List Loc) (ls : Array Slot) (hZ : zLaw D ca A rs rest st H) (hS : va_S A s.heap H locs) (hl : lv_has ls 4 [(0, .ref b), (1, .ref (rs 0 0)), (2, .ref (rs 9 0)), (3, .int x3)])
    (kk : ∀ (st : Nat → zS) (H : Heap) (locs : List Loc) (ls : Array Slot), zLaw D ca A rs rest st H → va_S A s.heap H locs → lv_has ls 4 [(0, .ref b), (1, .ref (rs 0 0)), (2, .ref (rs 9 0)), (3, .int x3)] → W p l e room_1 s m #[Value.ref b] below meth c H locs 119 16966 (lw_Z below #[Value.ref b] s) (F0 m 761 ls [])) : W p l e room_1 s m #[Value.ref b] below meth c H locs 119 16966 (lw_Z below #[Value.ref b] s) (F0 m 738 ls []) := by
  obtain ⟨hx, hb, hr, hml, hown, hts0, hX, hbl, hlocks, hgv⟩ := C0
  have hts : ∀ w ∈ wsL_law, w.before #[Value.ref b] s = true := fun w h => hts0 w (wsL_law_in w h)
  have hK := hE.1
  have hF : CallFix p m c cL_law 4 s #[Value.ref b] wsL_law RL := ⟨hx, hb, hml, hown, hts⟩
  obtain ⟨hP, hD, hv0, hv1, hv2, hv3, hv4, hv5, hv6, hv7, hv8, hv9, hrel0, hrel1, hR1, hR4⟩ := hZ
  have hk0 := hv0
  obtain ⟨⟨hv0i0, hv0j0⟩, ⟨hv0i1, hv0j1⟩, ⟨hv0i5, hv0j5⟩, ⟨hv0i9, hv0j9⟩, hv0a6, hv0a8, hv0a9, hv0a23, hv0a27, hv0a28, hv0x0, hv0y0⟩ := hv0
  have hk1 := hv1
  have hk2 := hv2
  obtain ⟨hv2i0, hv2j0⟩ := hv2
  have hk3 := hv3
  obtain ⟨⟨hv3i3, hv3j3⟩, hv3x0⟩ := hv3
  have hk4 := hv4
  have hk5 := hv5
  obtain ⟨⟨hv5i0, hv5j0⟩, hv5a6⟩ := hv5
  have hk6 := hv6
  have hk7 := hv7
  obtain ⟨⟨hv7i0, hv7j0⟩, ⟨hv7i4, hv7j4⟩, ⟨hv7i5, hv7j5⟩, ⟨hv7i6, hv7j6⟩, ⟨hv7i7, hv7j7⟩, hv7a3, hv7a4, hv7a5, hv7a6⟩ := hv7
  have hk8 := hv8
  obtain ⟨⟨hv8i0, hv8j0⟩, ⟨hv8i4, hv8j4⟩, ⟨hv8i5, hv8j5⟩, ⟨hv8i6, hv8j6⟩, ⟨hv8i7, hv8j7⟩, hv8a3, hv8a4, hv8a5, hv8a6⟩ := hv8
  have hk9 := hv9
  obtain ⟨⟨hv9i0, hv9j0⟩, ⟨hv9i4, hv9j4⟩, ⟨hv9i5, hv9j5⟩, ⟨hv9i6, hv9j6⟩, ⟨hv9i7, hv9j7⟩, hv9a3, hv9a4, hv9a5, hv9a6⟩ := hv9
  have hnm : ((st 4).1 0).toInt = ((st 9).1 9).toInt := by rw [hR1.1]
  refine lv_aload_n hx hb dL_law_738 rfl (lv_at hl 1 rfl) ?_
  refine lv_aload_n hx hb dL_law_739 rfl (lv_at hl 0 rfl) ?_
  refine lv_iload_n hx hb dL_law_740 rfl (lv_at hl 3 rfl) ?_
  refine lv_iconst (v := 1) hx hb dL_law_741 (by decide) ?_
  refine lv_iadd hx hb dL_law_742 ?_
  refine lv_topi (fun t1 et1 => ?_)
  try have ht1 : t1.toInt = x3.toInt + 1 := z_add et1 rfl (by decide) (by omega -splitDisjunctions) (by omega -splitDisjunctions)
  have hi2 : vp_in t1 L := z_in (i := t1.toInt) rfl (by omega) (by omega)
  refine va_sld hx hb hX hbl hbA hS hi2 dL_law_743 ?_
  refine lv_topi (fun t3 et3 => ?_)
  have hPD9 := pf_0_4_1 ca rs st rest hP hD
  refine z_iV (As := [.int t3]) (rest := []) hF (c_X8_count_R l D ca sa A (wO_0_4_1 ca rs st rest) (rs 0) (rs 4) (rs 1) (rs 2 0) (rs 3 0) (rs 5 0) (rs 6 0) (rs 7 0) (rs 8 0) (st 0).1 (st 0).2.1 (st 0).2.2.1 (st 0).2.2.2 hk1 (st 4).1 (st 4).2.1 (st 4).2.2.1 (st 4).2.2.2 hk5 (st 1).1 (st 1).2.1 (st 1).2.2.1 (st 1).2.2.2 hk2 t3) (cwV 1 hts gL_law_X8_count rfl rfl rfl (by decide +kernel) ⟨Nat.le_of_ble_eq_true rfl, Nat.le_of_ble_eq_true rfl⟩) hE hPD9.1 hPD9.2 hS 8 0 rfl rfl rfl hl.1 rfl (Nat.le_of_ble_eq_true rfl) dL_law_744 ⟨show 119 + 0 ≤ 119 by decide, show 16966 + 0 ≤ 16966 by decide⟩ (fun t5 u4 H locs hw6 hP hD hS => ?_)
  have hw6 : ((t3.toInt = 0 ∧ t5.toInt = ((st 4).1 0).toInt) ∨ (t3.toInt = 1 ∧ t5.toInt = ((st 1).1 0).toInt) ∨ (t3.toInt = 2 ∧ t5.toInt = ((st 0).1 0).toInt) ∨ (t3.toInt ≠ 0 ∧ t3.toInt ≠ 1 ∧ t3.toInt ≠ 2 ∧ t5.toInt = -1)) := hw6
  have hq7 := hw6
  have hPD := pb_0_4_1 ca rs st rest (st 0) (st 4) (st 1) hP hD
  have hP := hPD.1
  have hD := hPD.2
  refine lv_aload_n hx hb dL_law_747 rfl (lv_at hl 2 rfl) ?_
  refine lv_aload_n hx hb dL_law_748 rfl (lv_at hl 0 rfl) ?_
  refine lv_iload_n hx hb dL_law_749 rfl (lv_at hl 3 rfl) ?_
  refine lv_iconst (v := 1) hx hb dL_law_750 (by decide) ?_
  refine lv_iadd hx hb dL_law_751 ?_
  refine lv_topi (fun t8 et8 => ?_)
  try have ht8 : t8.toInt = x3.toInt + 1 := z_add et8 rfl (by decide) (by omega -splitDisjunctions) (by omega -splitDisjunctions)
  have hi9 : vp_in t8 L := z_in (i := t8.toInt) rfl (by omega) (by omega)
  refine va_sld hx hb hX hbl hbA hS hi9 dL_law_752 ?_
  rw [show xs t8.toNatClampNeg = t3 from by rw [et3, et8, et1]]
  have hP : va_P D vwCl (w_MOD ca (rs 9) (st 9).1 (st 9).2.1 (st 9).2.2.1 (st 9).2.2.2 (wR9 ca rs (zl zS0 [(st 0), (st 1), (st 2), (st 3), (st 4), (st 5), (st 6), (st 7), (st 8), (st 9)]) rest)) H := hP
  have hD : va_D A (w_MOD ca (rs 9) (st 9).1 (st 9).2.1 (st 9).2.2.1 (st 9).2.2.2 (wR9 ca rs (zl zS0 [(st 0), (st 1), (st 2), (st 3), (st 4), (st 5), (st 6), (st 7), (st 8), (st 9)]) rest)) := hD
  refine z_iV (As := [.int t3]) (rest := [.int t5]) hF (c_X9_count_R l D ca sa A (wR9 ca rs (zl zS0 [(st 0), (st 1), (st 2), (st 3), (st 4), (st 5), (st 6), (st 7), (st 8), (st 9)]) rest) (rs 9) (st 9).1 (st 9).2.1 (st 9).2.2.1 (st 9).2.2.2 hk0 t3) (cwV 1 hts gL_law_X9_count rfl rfl rfl (by decide +kernel) ⟨Nat.le_of_ble_eq_true rfl, Nat.le_of_ble_eq_true rfl⟩) hE hP hD hS 9 0 rfl rfl rfl hl.1 rfl (Nat.le_of_ble_eq_true rfl) dL_law_753 ⟨show 119 + 0 ≤ 119 by decide, show 16966 + 0 ≤ 16966 by decide⟩ (fun t11 u10 H locs hw12 hP hD hS => ?_)
  have hw12 : ((t3.toInt = 0 ∧ t11.toInt = ((st 9).1 9).toInt) ∨ (t3.toInt = 1 ∧ t11.toInt = ((st 9).1 0).toInt) ∨ (t3.toInt = 2 ∧ t11.toInt = ((st 9).1 10).toInt) ∨ (t3.toInt ≠ 0 ∧ t3.toInt ≠ 1 ∧ t3.toInt ≠ 2 ∧ t11.toInt = -1)) := hw12
  have hq13 := hw12
  have hPD := pc9 ca rs (st 0) (st 1) (st 2) (st 3) (st 4) (st 5) (st 6) (st 7) (st 8) (st 9) (st 9) rest hP hD
  refine lv_icmp_eq (tgt := 761) hx hb dL_law_756 (by decide) (fun c14 => ?_) (fun c14 => ?_)
  ·
    have c14 := z_eq (i := t5.toInt) (j := t11.toInt) rfl rfl c14
    have hrl15 : ((st 1).1 0).toInt = ((st 9).1 0).toInt := by omega
    have hrl16 : ((st 0).1 0).toInt = ((st 9).1 10).toInt := by omega
    have hrl17 : zR1 ((st 4).1 0) ((st 9).1 9) ((st 4).2.2.1 0) ((st 4).2.2.1 1) ((st 4).2.2.1 2) ((st 4).2.2.1 3) ((st 4).2.2.1 4) ((st 4).2.2.1 5) ((st 4).2.2.1 6) ((st 4).2.2.1 7) ((st 9).2.2.1 2) ((st 9).2.2.1 3) ((st 9).2.2.1 4) ((st 9).2.2.1 5) ((st 9).2.2.1 6) ((st 9).2.2.1 7) ((st 9).2.2.1 9) ((st 9).2.2.1 8) ((st 4).2.2.2 0) := hR1
    have hrl18 : zR4 ((st 1).2.2.1 0) ((st 9).2.2.1 0) := hR4
    exact kk (zl zS0 [(st 0), (st 1), (st 2), (st 3), (st 4), (st 5), (st 6), (st 7), (st 8), (st 9)]) _ _ ls ⟨hPD.1, hPD.2, hk0, hk1, hk2, hk3, hk4, hk5, hk6, hk7, hk8, hk9, hrl15, hrl16, hrl17, hrl18⟩ hS (lv_sub hl [0, 1, 2, 3] rfl)
  ·
    have c14 := z_ne (i := t5.toInt) (j := t11.toInt) rfl rfl c14
    exfalso; omega
