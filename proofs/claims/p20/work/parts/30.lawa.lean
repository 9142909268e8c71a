set_option maxHeartbeats 8000000 in
set_option maxRecDepth 100000 in
theorem law_0 {p : Program} {e : Env} {s : State} {m : MethodId} {below : List Frame} {meth : Method} {c : Code} (l : Launch) {b L : Nat} {xs : Nat → Int32} (hL : L ≤ 3072) (C0 : lw_At p s m meth c b L xs) {D : va_G} {ca : Nat → ClassId} {sa : Nat → Nat} {A : Nat → Prop} (hbA : ¬ A b) (hE : zE D ca sa A s s.heap) (rs : Nat → Nat → Nat) (rest : va_W) (st : Nat → zS) (x3 : Int32) (hi : 0 ≤ x3.toInt ∧ x3.toInt + 6 ≤ (L : Int)) (H : Heap) (locs : List Loc) (ls : Array Slot) (hZ : zLaw D ca A rs rest st H) (hS : va_S A s.heap H locs) (hl : lv_has ls 4 [(0, .ref b), (1, .ref (rs 0 0)), (2, .ref (rs 9 0)), (3, .int x3)])
    (kk : ∀ (st : Nat → zS) (H : Heap) (locs : List Loc) (ls : Array Slot), zLaw D ca A rs rest st H → va_S A s.heap H locs → lv_has ls 4 [(0, .ref b), (1, .ref (rs 0 0)), (2, .ref (rs 9 0)), (3, .int x3)] → W p l e room_1 s m #[Value.ref b] below meth c H locs 119 16966 (lw_Z below #[Value.ref b] s) (F0 m 761 ls [])) : W p l e room_1 s m #[Value.ref b] below meth c H locs 119 16966 (lw_Z below #[Value.ref b] s) (F0 m 124 ls []) := by
  obtain ⟨hx, hb, hr, hml, hown, hts0, hX, hbl, hlocks, hgv⟩ := C0
  have hts : ∀ w ∈ wsL_law, w.before #[Value.ref b] s = true := fun w h => hts0 w (wsL_law_in w h)
  have hK := hE.1
  have hF : CallFix p m c cL_law 4 s #[Value.ref b] wsL_law RL := ⟨hx, hb, hml, hown, hts⟩
  obtain ⟨hP, hD, hv0, hv1, hv2, hv3, hv4, hv5, hv6, hv7, hv8, hv9, hrel0, hrel1, hR1, hR4⟩ := hZ
  have hk0 := hv0
  obtain ⟨⟨hv0i0, hv0j0⟩, ⟨hv0i1, hv0j1⟩, ⟨hv0i5, hv0j5⟩, ⟨hv0i9, hv0j9⟩, hv0a6, hv0a8, hv0a9, hv0a23, hv0a27, hv0a28, hv0x0, hv0y0⟩ := hv0
  have hk1 := hv1
  have hk2 := hv2
  obtain ⟨hv2i0, hv2j0⟩ := hv2
  have hk3 := hv3
  obtain ⟨⟨hv3i3, hv3j3⟩, hv3x0⟩ := hv3
  have hk4 := hv4
  have hk5 := hv5
  obtain ⟨⟨hv5i0, hv5j0⟩, hv5a6⟩ := hv5
  have hk6 := hv6
  have hk7 := hv7
  obtain ⟨⟨hv7i0, hv7j0⟩, ⟨hv7i4, hv7j4⟩, ⟨hv7i5, hv7j5⟩, ⟨hv7i6, hv7j6⟩, ⟨hv7i7, hv7j7⟩, hv7a3, hv7a4, hv7a5, hv7a6⟩ := hv7
  have hk8 := hv8
  obtain ⟨⟨hv8i0, hv8j0⟩, ⟨hv8i4, hv8j4⟩, ⟨hv8i5, hv8j5⟩, ⟨hv8i6, hv8j6⟩, ⟨hv8i7, hv8j7⟩, hv8a3, hv8a4, hv8a5, hv8a6⟩ := hv8
  have hk9 := hv9
  obtain ⟨⟨hv9i0, hv9j0⟩, ⟨hv9i4, hv9j4⟩, ⟨hv9i5, hv9j5⟩, ⟨hv9i6, hv9j6⟩, ⟨hv9i7, hv9j7⟩, hv9a3, hv9a4, hv9a5, hv9a6⟩ := hv9
  have hnm : ((st 4).1 0).toInt = ((st 9).1 9).toInt := by rw [hR1.1]
  refine lv_aload_n hx hb dL_law_124 rfl (lv_at hl 1 rfl) ?_
  refine lv_aload_n hx hb dL_law_125 rfl (lv_at hl 0 rfl) ?_
  refine lv_iload_n hx hb dL_law_126 rfl (lv_at hl 3 rfl) ?_
  refine lv_iconst (v := 1) hx hb dL_law_127 (by decide) ?_
  refine lv_iadd hx hb dL_law_128 ?_
  refine lv_topi (fun t1 et1 => ?_)
  try have ht1 : t1.toInt = x3.toInt + 1 := z_add et1 rfl (by decide) (by omega -splitDisjunctions) (by omega -splitDisjunctions)
  have hi2 : vp_in t1 L := z_in (i := t1.toInt) rfl (by omega) (by omega)
  refine va_sld hx hb hX hbl hbA hS hi2 dL_law_129 ?_
  refine lv_topi (fun t3 et3 => ?_)
  refine lv_aload_n hx hb dL_law_130 rfl (lv_at hl 0 rfl) ?_
  refine lv_iload_n hx hb dL_law_131 rfl (lv_at hl 3 rfl) ?_
  refine lv_iconst (v := 2) hx hb dL_law_132 (by decide) ?_
  refine lv_iadd hx hb dL_law_133 ?_
  refine lv_topi (fun t4 et4 => ?_)
  try have ht4 : t4.toInt = x3.toInt + 2 := z_add et4 rfl (by decide) (by omega -splitDisjunctions) (by omega -splitDisjunctions)
  have hi5 : vp_in t4 L := z_in (i := t4.toInt) rfl (by omega) (by omega)
  refine va_sld hx hb hX hbl hbA hS hi5 dL_law_134 ?_
  refine lv_topi (fun t6 et6 => ?_)
  refine lv_aload_n hx hb dL_law_135 rfl (lv_at hl 0 rfl) ?_
  refine lv_iload_n hx hb dL_law_136 rfl (lv_at hl 3 rfl) ?_
  refine lv_iconst (v := 3) hx hb dL_law_137 (by decide) ?_
  refine lv_iadd hx hb dL_law_138 ?_
  refine lv_topi (fun t7 et7 => ?_)
  try have ht7 : t7.toInt = x3.toInt + 3 := z_add et7 rfl (by decide) (by omega -splitDisjunctions) (by omega -splitDisjunctions)
  have hi8 : vp_in t7 L := z_in (i := t7.toInt) rfl (by omega) (by omega)
  refine va_sld hx hb hX hbl hbA hS hi8 dL_law_139 ?_
  refine lv_topi (fun t9 et9 => ?_)
  refine lv_aload_n hx hb dL_law_140 rfl (lv_at hl 0 rfl) ?_
  refine lv_iload_n hx hb dL_law_141 rfl (lv_at hl 3 rfl) ?_
  refine lv_iconst (v := 4) hx hb dL_law_142 (by decide) ?_
  refine lv_iadd hx hb dL_law_143 ?_
  refine lv_topi (fun t10 et10 => ?_)
  try have ht10 : t10.toInt = x3.toInt + 4 := z_add et10 rfl (by decide) (by omega -splitDisjunctions) (by omega -splitDisjunctions)
  have hi11 : vp_in t10 L := z_in (i := t10.toInt) rfl (by omega) (by omega)
  refine va_sld hx hb hX hbl hbA hS hi11 dL_law_144 ?_
  refine lv_topi (fun t12 et12 => ?_)
  refine lv_aload_n hx hb dL_law_145 rfl (lv_at hl 0 rfl) ?_
  refine lv_iload_n hx hb dL_law_146 rfl (lv_at hl 3 rfl) ?_
  refine lv_iconst (v := 5) hx hb dL_law_147 (by decide) ?_
  refine lv_iadd hx hb dL_law_148 ?_
  refine lv_topi (fun t13 et13 => ?_)
  try have ht13 : t13.toInt = x3.toInt + 5 := z_add et13 rfl (by decide) (by omega -splitDisjunctions) (by omega -splitDisjunctions)
  have hi14 : vp_in t13 L := z_in (i := t13.toInt) rfl (by omega) (by omega)
  refine va_sld hx hb hX hbl hbA hS hi14 dL_law_149 ?_
  refine lv_topi (fun t15 et15 => ?_)
  have hPD9 := pf_0_1 ca rs st rest hP hD
  refine z_iV (As := [.int t3, .int t6, .int t9, .int t12, .int t15]) (rest := []) hF (c_X8_feed_R l D ca sa A (wO_0_1 ca rs st rest) (rs 0) (rs 1) (rs 2 0) (rs 3 0) (rs 4 0) (rs 5 0) (rs 6 0) (rs 7 0) (rs 8 0) (st 0).1 (st 0).2.1 (st 0).2.2.1 (st 0).2.2.2 hk1 (st 1).1 (st 1).2.1 (st 1).2.2.1 (st 1).2.2.2 hk2 t3 t6 t9 t12 t15) (cwV 5 hts gL_law_X8_feed rfl rfl rfl (by decide +kernel) ⟨Nat.le_of_ble_eq_true rfl, Nat.le_of_ble_eq_true rfl⟩) hE hPD9.1 hPD9.2 hS 8 0 rfl rfl rfl hl.1 rfl (Nat.le_of_ble_eq_true rfl) dL_law_150 ⟨show 119 + 0 ≤ 119 by decide, show 16966 + 0 ≤ 16966 by decide⟩ (fun t17 u16 H locs hw18 hP hD hS => ?_)
  obtain ⟨im19, lm19, am19, bm19⟩ := u16
  have hokm19 := hw18.1
  have hw18 : ((0 ≤ (im19 0).toInt ∧ (im19 0).toInt ≤ 600)) ∧ ((((st 1).1 0).toInt + 20 ≤ 600 ∧ t17.toInt = ((st 1).1 0).toInt + 20 ∧ (im19 0).toInt = ((st 1).1 0).toInt + 20) ∨ (600 < ((st 1).1 0).toInt + 20 ∧ t17.toInt = -3 ∧ (im19 0).toInt = ((st 1).1 0).toInt)) ∧ (((t17).toInt = -3 ∧ (am19 0) = ((st 1).2.2.1 0)) ∨ (¬ (t17).toInt = -3 ∧ (am19 0) = zFd ((st 1).2.2.1 0) (((st 1).1 0)).toNatClampNeg (zVs t3 t6 t9 t12 t15) 5)) := hw18
  obtain ⟨⟨hm19i0, hm19j0⟩, hq20, hq21⟩ := hw18
  have hPD := pb_0_1 ca rs st rest (st 0) (zx [0] (st 1).1 im19, zx [] (st 1).2.1 lm19, zx [0] (st 1).2.2.1 am19, zx [] (st 1).2.2.2 bm19) hP hD
  have hP := hPD.1
  have hD := hPD.2
  refine lv_pop hx hb dL_law_153 rfl ?_
  refine lv_aload_n hx hb dL_law_154 rfl (lv_at hl 2 rfl) ?_
  refine lv_aload_n hx hb dL_law_155 rfl (lv_at hl 0 rfl) ?_
  refine lv_iload_n hx hb dL_law_156 rfl (lv_at hl 3 rfl) ?_
  refine lv_iconst (v := 1) hx hb dL_law_157 (by decide) ?_
  refine lv_iadd hx hb dL_law_158 ?_
  refine lv_topi (fun t22 et22 => ?_)
  try have ht22 : t22.toInt = x3.toInt + 1 := z_add et22 rfl (by decide) (by omega -splitDisjunctions) (by omega -splitDisjunctions)
  have hi23 : vp_in t22 L := z_in (i := t22.toInt) rfl (by omega) (by omega)
  refine va_sld hx hb hX hbl hbA hS hi23 dL_law_159 ?_
  rw [show xs t22.toNatClampNeg = t3 from by rw [et3, et22, et1]]
  refine lv_aload_n hx hb dL_law_160 rfl (lv_at hl 0 rfl) ?_
  refine lv_iload_n hx hb dL_law_161 rfl (lv_at hl 3 rfl) ?_
  refine lv_iconst (v := 2) hx hb dL_law_162 (by decide) ?_
  refine lv_iadd hx hb dL_law_163 ?_
  refine lv_topi (fun t24 et24 => ?_)
  try have ht24 : t24.toInt = x3.toInt + 2 := z_add et24 rfl (by decide) (by omega -splitDisjunctions) (by omega -splitDisjunctions)
  have hi25 : vp_in t24 L := z_in (i := t24.toInt) rfl (by omega) (by omega)
  refine va_sld hx hb hX hbl hbA hS hi25 dL_law_164 ?_
  rw [show xs t24.toNatClampNeg = t6 from by rw [et6, et24, et4]]
  refine lv_aload_n hx hb dL_law_165 rfl (lv_at hl 0 rfl) ?_
  refine lv_iload_n hx hb dL_law_166 rfl (lv_at hl 3 rfl) ?_
  refine lv_iconst (v := 3) hx hb dL_law_167 (by decide) ?_
  refine lv_iadd hx hb dL_law_168 ?_
  refine lv_topi (fun t26 et26 => ?_)
  try have ht26 : t26.toInt = x3.toInt + 3 := z_add et26 rfl (by decide) (by omega -splitDisjunctions) (by omega -splitDisjunctions)
  have hi27 : vp_in t26 L := z_in (i := t26.toInt) rfl (by omega) (by omega)
  refine va_sld hx hb hX hbl hbA hS hi27 dL_law_169 ?_
  rw [show xs t26.toNatClampNeg = t9 from by rw [et9, et26, et7]]
  refine lv_aload_n hx hb dL_law_170 rfl (lv_at hl 0 rfl) ?_
  refine lv_iload_n hx hb dL_law_171 rfl (lv_at hl 3 rfl) ?_
  refine lv_iconst (v := 4) hx hb dL_law_172 (by decide) ?_
  refine lv_iadd hx hb dL_law_173 ?_
  refine lv_topi (fun t28 et28 => ?_)
  try have ht28 : t28.toInt = x3.toInt + 4 := z_add et28 rfl (by decide) (by omega -splitDisjunctions) (by omega -splitDisjunctions)
  have hi29 : vp_in t28 L := z_in (i := t28.toInt) rfl (by omega) (by omega)
  refine va_sld hx hb hX hbl hbA hS hi29 dL_law_174 ?_
  rw [show xs t28.toNatClampNeg = t12 from by rw [et12, et28, et10]]
  refine lv_aload_n hx hb dL_law_175 rfl (lv_at hl 0 rfl) ?_
  refine lv_iload_n hx hb dL_law_176 rfl (lv_at hl 3 rfl) ?_
  refine lv_iconst (v := 5) hx hb dL_law_177 (by decide) ?_
  refine lv_iadd hx hb dL_law_178 ?_
  refine lv_topi (fun t30 et30 => ?_)
  try have ht30 : t30.toInt = x3.toInt + 5 := z_add et30 rfl (by decide) (by omega -splitDisjunctions) (by omega -splitDisjunctions)
  have hi31 : vp_in t30 L := z_in (i := t30.toInt) rfl (by omega) (by omega)
  refine va_sld hx hb hX hbl hbA hS hi31 dL_law_179 ?_
  rw [show xs t30.toNatClampNeg = t15 from by rw [et15, et30, et13]]
  have hP : va_P D vwCl (w_MOD ca (rs 9) (st 9).1 (st 9).2.1 (st 9).2.2.1 (st 9).2.2.2 (wR9 ca rs (zl zS0 [(st 0), (zx [0] (st 1).1 im19, zx [] (st 1).2.1 lm19, zx [0] (st 1).2.2.1 am19, zx [] (st 1).2.2.2 bm19), (st 2), (st 3), (st 4), (st 5), (st 6), (st 7), (st 8), (st 9)]) rest)) H := hP
  have hD : va_D A (w_MOD ca (rs 9) (st 9).1 (st 9).2.1 (st 9).2.2.1 (st 9).2.2.2 (wR9 ca rs (zl zS0 [(st 0), (zx [0] (st 1).1 im19, zx [] (st 1).2.1 lm19, zx [0] (st 1).2.2.1 am19, zx [] (st 1).2.2.2 bm19), (st 2), (st 3), (st 4), (st 5), (st 6), (st 7), (st 8), (st 9)]) rest)) := hD
  refine z_iV (As := [.int t3, .int t6, .int t9, .int t12, .int t15]) (rest := []) hF (c_X9_feed_R l D ca sa A (wR9 ca rs (zl zS0 [(st 0), (zx [0] (st 1).1 im19, zx [] (st 1).2.1 lm19, zx [0] (st 1).2.2.1 am19, zx [] (st 1).2.2.2 bm19), (st 2), (st 3), (st 4), (st 5), (st 6), (st 7), (st 8), (st 9)]) rest) (rs 9) (st 9).1 (st 9).2.1 (st 9).2.2.1 (st 9).2.2.2 hk0 t3 t6 t9 t12 t15) (cwV 5 hts gL_law_X9_feed rfl rfl rfl (by decide +kernel) ⟨Nat.le_of_ble_eq_true rfl, Nat.le_of_ble_eq_true rfl⟩) hE hP hD hS 9 0 rfl rfl rfl hl.1 rfl (Nat.le_of_ble_eq_true rfl) dL_law_180 ⟨show 119 + 0 ≤ 119 by decide, show 16966 + 0 ≤ 16966 by decide⟩ (fun t33 u32 H locs hw34 hP hD hS => ?_)
  obtain ⟨im35, lm35, am35, bm35⟩ := u32
  have hokm35 := hw34.1
  have hw34 : ((0 ≤ (im35 0).toInt ∧ (im35 0).toInt ≤ 600) ∧ (0 ≤ ((st 9).1 1).toInt ∧ ((st 9).1 1).toInt ≤ 600) ∧ (0 ≤ ((st 9).1 5).toInt ∧ ((st 9).1 5).toInt ≤ 600) ∧ (0 ≤ ((st 9).1 9).toInt ∧ ((st 9).1 9).toInt ≤ 60) ∧ z_rng (-1) 59 ((st 9).2.2.1 6) ∧ z_rng 0 59 ((st 9).2.2.1 8) ∧ z_rng 0 3 ((st 9).2.2.1 9) ∧ z_rng 0 269 ((st 9).2.2.1 23) ∧ z_rng 0 5 ((st 9).2.2.1 27) ∧ z_rng 0 59 ((st 9).2.2.1 28) ∧ (((st 9).1 2).toInt = 1 → 0 ≤ ((st 9).1 3).toInt) ∧ zOkR ((st 9).2.2.1 1) ((st 9).2.2.1 27)) ∧ ((((st 9).1 0).toInt + 20 ≤ 600 ∧ t33.toInt = ((st 9).1 0).toInt + 20 ∧ (im35 0).toInt = ((st 9).1 0).toInt + 20) ∨ (600 < ((st 9).1 0).toInt + 20 ∧ t33.toInt = -3 ∧ (im35 0).toInt = ((st 9).1 0).toInt)) ∧ (((t33).toInt = -3 ∧ (am35 0) = ((st 9).2.2.1 0)) ∨ (¬ (t33).toInt = -3 ∧ (am35 0) = zFd ((st 9).2.2.1 0) (((st 9).1 0)).toNatClampNeg (zVs t3 t6 t9 t12 t15) 5)) := hw34
  obtain ⟨⟨⟨hm35i0, hm35j0⟩, -, -, -, -, -, -, -, -, -, -, -⟩, hq36, hq37⟩ := hw34
  have hPD := pc9 ca rs (st 0) (zx [0] (st 1).1 im19, zx [] (st 1).2.1 lm19, zx [0] (st 1).2.2.1 am19, zx [] (st 1).2.2.2 bm19) (st 2) (st 3) (st 4) (st 5) (st 6) (st 7) (st 8) (st 9) (zx [0] (st 9).1 im35, zx [] (st 9).2.1 lm35, zx [0] (st 9).2.2.1 am35, zx [] (st 9).2.2.2 bm35) rest hP hD
  refine lv_pop hx hb dL_law_183 rfl ?_
  refine lv_goto (tgt := 761) hx hb dL_law_184 (by decide) ?_
  have hrl38 : (im19 0).toInt = (im35 0).toInt := by omega
  have hrl39 : ((st 0).1 0).toInt = ((st 9).1 10).toInt := by omega
  have hrl40 : zR1 ((st 4).1 0) ((st 9).1 9) ((st 4).2.2.1 0) ((st 4).2.2.1 1) ((st 4).2.2.1 2) ((st 4).2.2.1 3) ((st 4).2.2.1 4) ((st 4).2.2.1 5) ((st 4).2.2.1 6) ((st 4).2.2.1 7) ((st 9).2.2.1 2) ((st 9).2.2.1 3) ((st 9).2.2.1 4) ((st 9).2.2.1 5) ((st 9).2.2.1 6) ((st 9).2.2.1 7) ((st 9).2.2.1 9) ((st 9).2.2.1 8) ((st 4).2.2.2 0) := hR1
  have hrl41 : zR4 (am19 0) (am35 0) := zR4_feed hR4 hrel0 hq20 hq21 hq36 hq37
  exact kk (zl zS0 [(st 0), (zx [0] (st 1).1 im19, zx [] (st 1).2.1 lm19, zx [0] (st 1).2.2.1 am19, zx [] (st 1).2.2.2 bm19), (st 2), (st 3), (st 4), (st 5), (st 6), (st 7), (st 8), (zx [0] (st 9).1 im35, zx [] (st 9).2.1 lm35, zx [0] (st 9).2.2.1 am35, zx [] (st 9).2.2.2 bm35)]) _ _ ls ⟨hPD.1, hPD.2, hokm35, hk1, hokm19, hk3, hk4, hk5, hk6, hk7, hk8, hk9, hrl38, hrl39, hrl40, hrl41⟩ hS (lv_sub hl [0, 1, 2, 3] rfl)

set_option maxHeartbeats 8000000 in
set_option maxRecDepth 100000 in
theorem law_1 {p : Program} {e : Env} {s : State} {m : MethodId} {below : List Frame} {meth : Method} {c : Code} (l : Launch) {b L : Nat} {xs : Nat → Int32} (hL : L ≤ 3072) (C0 : lw_At p s m meth c b L xs) {D : va_G} {ca : Nat → ClassId} {sa : Nat → Nat} {A : Nat → Prop} (hbA : ¬ A b) (hE : zE D ca sa A s s.heap) (rs : Nat → Nat → Nat) (rest : va_W) (st : Nat → zS) (x3 : Int32) (hi : 0 ≤ x3.toInt ∧ x3.toInt + 6 ≤ (L : Int)) (H : Heap) (locs : List Loc) (ls : Array Slot) (hZ : zLaw D ca A rs rest st H) (hS : va_S A s.heap H locs) (hl : lv_has ls 4 [(0, .ref b), (1, .ref (rs 0 0)), (2, .ref (rs 9 0)), (3, .int x3)])
    (kk : ∀ (st : Nat → zS) (H : Heap) (locs : List Loc) (ls : Array Slot), zLaw D ca A rs rest st H → va_S A s.heap H locs → lv_has ls 4 [(0, .ref b), (1, .ref (rs 0 0)), (2, .ref (rs 9 0)), (3, .int x3)] → W p l e room_1 s m #[Value.ref b] below meth c H locs 119 16966 (lw_Z below #[Value.ref b] s) (F0 m 761 ls [])) : W p l e room_1 s m #[Value.ref b] below meth c H locs 119 16966 (lw_Z below #[Value.ref b] s) (F0 m 187 ls []) := by
  obtain ⟨hx, hb, hr, hml, hown, hts0, hX, hbl, hlocks, hgv⟩ := C0
  have hts : ∀ w ∈ wsL_law, w.before #[Value.ref b] s = true := fun w h => hts0 w (wsL_law_in w h)
  have hK := hE.1
  have hF : CallFix p m c cL_law 4 s #[Value.ref b] wsL_law RL := ⟨hx, hb, hml, hown, hts⟩
  obtain ⟨hP, hD, hv0, hv1, hv2, hv3, hv4, hv5, hv6, hv7, hv8, hv9, hrel0, hrel1, hR1, hR4⟩ := hZ
  have hk0 := hv0
  obtain ⟨⟨hv0i0, hv0j0⟩, ⟨hv0i1, hv0j1⟩, ⟨hv0i5, hv0j5⟩, ⟨hv0i9, hv0j9⟩, hv0a6, hv0a8, hv0a9, hv0a23, hv0a27, hv0a28, hv0x0, hv0y0⟩ := hv0
  have hk1 := hv1
  have hk2 := hv2
  obtain ⟨hv2i0, hv2j0⟩ := hv2
  have hk3 := hv3
  obtain ⟨⟨hv3i3, hv3j3⟩, hv3x0⟩ := hv3
  have hk4 := hv4
  have hk5 := hv5
  obtain ⟨⟨hv5i0, hv5j0⟩, hv5a6⟩ := hv5
  have hk6 := hv6
  have hk7 := hv7
  obtain ⟨⟨hv7i0, hv7j0⟩, ⟨hv7i4, hv7j4⟩, ⟨hv7i5, hv7j5⟩, ⟨hv7i6, hv7j6⟩, ⟨hv7i7, hv7j7⟩, hv7a3, hv7a4, hv7a5, hv7a6⟩ := hv7
  have hk8 := hv8
  obtain ⟨⟨hv8i0, hv8j0⟩, ⟨hv8i4, hv8j4⟩, ⟨hv8i5, hv8j5⟩, ⟨hv8i6, hv8j6⟩, ⟨hv8i7, hv8j7⟩, hv8a3, hv8a4, hv8a5, hv8a6⟩ := hv8
  have hk9 := hv9
  obtain ⟨⟨hv9i0, hv9j0⟩, ⟨hv9i4, hv9j4⟩, ⟨hv9i5, hv9j5⟩, ⟨hv9i6, hv9j6⟩, ⟨hv9i7, hv9j7⟩, hv9a3, hv9a4, hv9a5, hv9a6⟩ := hv9
  have hnm : ((st 4).1 0).toInt = ((st 9).1 9).toInt := by rw [hR1.1]
  refine lv_aload_n hx hb dL_law_187 rfl (lv_at hl 1 rfl) ?_
  refine lv_aload_n hx hb dL_law_188 rfl (lv_at hl 0 rfl) ?_
  refine lv_iload_n hx hb dL_law_189 rfl (lv_at hl 3 rfl) ?_
  refine lv_iconst (v := 1) hx hb dL_law_190 (by decide) ?_
  refine lv_iadd hx hb dL_law_191 ?_
  refine lv_topi (fun t1 et1 => ?_)
  try have ht1 : t1.toInt = x3.toInt + 1 := z_add et1 rfl (by decide) (by omega -splitDisjunctions) (by omega -splitDisjunctions)
  have hi2 : vp_in t1 L := z_in (i := t1.toInt) rfl (by omega) (by omega)
  refine va_sld hx hb hX hbl hbA hS hi2 dL_law_192 ?_
  refine lv_topi (fun t3 et3 => ?_)
  have hPD9 := pf_0_1 ca rs st rest hP hD
  refine z_iV (As := [.int t3]) (rest := []) hF (c_X8_end_R l D ca sa A (wO_0_1 ca rs st rest) (rs 0) (rs 1) (rs 2 0) (rs 3 0) (rs 4 0) (rs 5 0) (rs 6 0) (rs 7 0) (rs 8 0) (st 0).1 (st 0).2.1 (st 0).2.2.1 (st 0).2.2.2 hk1 (st 1).1 (st 1).2.1 (st 1).2.2.1 (st 1).2.2.2 hk2 t3) (cwV 1 hts gL_law_X8_end rfl rfl rfl (by decide +kernel) ⟨Nat.le_of_ble_eq_true rfl, Nat.le_of_ble_eq_true rfl⟩) hE hPD9.1 hPD9.2 hS 8 0 rfl rfl rfl hl.1 rfl (Nat.le_of_ble_eq_true rfl) dL_law_193 ⟨show 119 + 0 ≤ 119 by decide, show 16966 + 0 ≤ 16966 by decide⟩ (fun t5 u4 H locs hw6 hP hD hS => ?_)
  obtain ⟨im7, lm7, am7, bm7⟩ := u4
  have hokm7 := hw6.1
  have hw6 : ((0 ≤ (im7 0).toInt ∧ (im7 0).toInt ≤ 600)) ∧ (((t3.toInt < 0 ∨ ((st 1).1 0).toInt < t3.toInt) ∧ t5.toInt = -1 ∧ (im7 0).toInt = ((st 1).1 0).toInt) ∨ (0 ≤ t3.toInt ∧ t3.toInt ≤ ((st 1).1 0).toInt ∧ t5.toInt = t3.toInt ∧ (im7 0).toInt = t3.toInt)) := hw6
  obtain ⟨⟨hm7i0, hm7j0⟩, hq8⟩ := hw6
  have hPD := pb_0_1 ca rs st rest (st 0) (zx [0] (st 1).1 im7, zx [] (st 1).2.1 lm7, zx [] (st 1).2.2.1 am7, zx [] (st 1).2.2.2 bm7) hP hD
  have hP := hPD.1
  have hD := hPD.2
  refine lv_pop hx hb dL_law_196 rfl ?_
  refine lv_aload_n hx hb dL_law_197 rfl (lv_at hl 2 rfl) ?_
  refine lv_aload_n hx hb dL_law_198 rfl (lv_at hl 0 rfl) ?_
  refine lv_iload_n hx hb dL_law_199 rfl (lv_at hl 3 rfl) ?_
  refine lv_iconst (v := 1) hx hb dL_law_200 (by decide) ?_
  refine lv_iadd hx hb dL_law_201 ?_
  refine lv_topi (fun t9 et9 => ?_)
  try have ht9 : t9.toInt = x3.toInt + 1 := z_add et9 rfl (by decide) (by omega -splitDisjunctions) (by omega -splitDisjunctions)
  have hi10 : vp_in t9 L := z_in (i := t9.toInt) rfl (by omega) (by omega)
  refine va_sld hx hb hX hbl hbA hS hi10 dL_law_202 ?_
  rw [show xs t9.toNatClampNeg = t3 from by rw [et3, et9, et1]]
  have hP : va_P D vwCl (w_MOD ca (rs 9) (st 9).1 (st 9).2.1 (st 9).2.2.1 (st 9).2.2.2 (wR9 ca rs (zl zS0 [(st 0), (zx [0] (st 1).1 im7, zx [] (st 1).2.1 lm7, zx [] (st 1).2.2.1 am7, zx [] (st 1).2.2.2 bm7), (st 2), (st 3), (st 4), (st 5), (st 6), (st 7), (st 8), (st 9)]) rest)) H := hP
  have hD : va_D A (w_MOD ca (rs 9) (st 9).1 (st 9).2.1 (st 9).2.2.1 (st 9).2.2.2 (wR9 ca rs (zl zS0 [(st 0), (zx [0] (st 1).1 im7, zx [] (st 1).2.1 lm7, zx [] (st 1).2.2.1 am7, zx [] (st 1).2.2.2 bm7), (st 2), (st 3), (st 4), (st 5), (st 6), (st 7), (st 8), (st 9)]) rest)) := hD
  refine z_iV (As := [.int t3]) (rest := []) hF (c_X9_end_R l D ca sa A (wR9 ca rs (zl zS0 [(st 0), (zx [0] (st 1).1 im7, zx [] (st 1).2.1 lm7, zx [] (st 1).2.2.1 am7, zx [] (st 1).2.2.2 bm7), (st 2), (st 3), (st 4), (st 5), (st 6), (st 7), (st 8), (st 9)]) rest) (rs 9) (st 9).1 (st 9).2.1 (st 9).2.2.1 (st 9).2.2.2 hk0 t3) (cwV 1 hts gL_law_X9_end rfl rfl rfl (by decide +kernel) ⟨Nat.le_of_ble_eq_true rfl, Nat.le_of_ble_eq_true rfl⟩) hE hP hD hS 9 0 rfl rfl rfl hl.1 rfl (Nat.le_of_ble_eq_true rfl) dL_law_203 ⟨show 119 + 0 ≤ 119 by decide, show 16966 + 0 ≤ 16966 by decide⟩ (fun t12 u11 H locs hw13 hP hD hS => ?_)
  obtain ⟨im14, lm14, am14, bm14⟩ := u11
  have hokm14 := hw13.1
  have hw13 : ((0 ≤ (im14 0).toInt ∧ (im14 0).toInt ≤ 600) ∧ (0 ≤ ((st 9).1 1).toInt ∧ ((st 9).1 1).toInt ≤ 600) ∧ (0 ≤ ((st 9).1 5).toInt ∧ ((st 9).1 5).toInt ≤ 600) ∧ (0 ≤ ((st 9).1 9).toInt ∧ ((st 9).1 9).toInt ≤ 60) ∧ z_rng (-1) 59 ((st 9).2.2.1 6) ∧ z_rng 0 59 ((st 9).2.2.1 8) ∧ z_rng 0 3 ((st 9).2.2.1 9) ∧ z_rng 0 269 ((st 9).2.2.1 23) ∧ z_rng 0 5 ((st 9).2.2.1 27) ∧ z_rng 0 59 ((st 9).2.2.1 28) ∧ (((st 9).1 2).toInt = 1 → 0 ≤ ((st 9).1 3).toInt) ∧ zOkR ((st 9).2.2.1 1) ((st 9).2.2.1 27)) ∧ (((t3.toInt < 0 ∨ ((st 9).1 0).toInt < t3.toInt) ∧ t12.toInt = -1 ∧ (im14 0).toInt = ((st 9).1 0).toInt) ∨ (0 ≤ t3.toInt ∧ t3.toInt ≤ ((st 9).1 0).toInt ∧ t12.toInt = t3.toInt ∧ (im14 0).toInt = t3.toInt)) := hw13
  obtain ⟨⟨⟨hm14i0, hm14j0⟩, -, -, -, -, -, -, -, -, -, -, -⟩, hq15⟩ := hw13
  have hPD := pc9 ca rs (st 0) (zx [0] (st 1).1 im7, zx [] (st 1).2.1 lm7, zx [] (st 1).2.2.1 am7, zx [] (st 1).2.2.2 bm7) (st 2) (st 3) (st 4) (st 5) (st 6) (st 7) (st 8) (st 9) (zx [0] (st 9).1 im14, zx [] (st 9).2.1 lm14, zx [] (st 9).2.2.1 am14, zx [] (st 9).2.2.2 bm14) rest hP hD
  refine lv_pop hx hb dL_law_206 rfl ?_
  refine lv_goto (tgt := 761) hx hb dL_law_207 (by decide) ?_
  have hrl16 : (im7 0).toInt = (im14 0).toInt := by omega
  have hrl17 : ((st 0).1 0).toInt = ((st 9).1 10).toInt := by omega
  have hrl18 : zR1 ((st 4).1 0) ((st 9).1 9) ((st 4).2.2.1 0) ((st 4).2.2.1 1) ((st 4).2.2.1 2) ((st 4).2.2.1 3) ((st 4).2.2.1 4) ((st 4).2.2.1 5) ((st 4).2.2.1 6) ((st 4).2.2.1 7) ((st 9).2.2.1 2) ((st 9).2.2.1 3) ((st 9).2.2.1 4) ((st 9).2.2.1 5) ((st 9).2.2.1 6) ((st 9).2.2.1 7) ((st 9).2.2.1 9) ((st 9).2.2.1 8) ((st 4).2.2.2 0) := hR1
  have hrl19 : zR4 ((st 1).2.2.1 0) ((st 9).2.2.1 0) := hR4
  exact kk (zl zS0 [(st 0), (zx [0] (st 1).1 im7, zx [] (st 1).2.1 lm7, zx [] (st 1).2.2.1 am7, zx [] (st 1).2.2.2 bm7), (st 2), (st 3), (st 4), (st 5), (st 6), (st 7), (st 8), (zx [0] (st 9).1 im14, zx [] (st 9).2.1 lm14, zx [] (st 9).2.2.1 am14, zx [] (st 9).2.2.2 bm14)]) _ _ ls ⟨hPD.1, hPD.2, hokm14, hk1, hokm7, hk3, hk4, hk5, hk6, hk7, hk8, hk9, hrl16, hrl17, hrl18, hrl19⟩ hS (lv_sub hl [0, 1, 2, 3] rfl)

set_option maxHeartbeats 8000000 in
set_option maxRecDepth 100000 in
theorem law_2 {p : Program} {e : Env} {s : State} {m : MethodId} {below : List Frame} {meth : Method} {c : Code} (l : Launch) {b L : Nat} {xs : Nat → Int32} (hL : L ≤ 3072) (C0 : lw_At p s m meth c b L xs) {D : va_G} {ca : Nat → ClassId} {sa : Nat → Nat} {A : Nat → Prop} (hbA : ¬ A b) (hE : zE D ca sa A s s.heap) (rs : Nat → Nat → Nat) (rest : va_W) (st : Nat → zS) (x3 : Int32) (hi : 0 ≤ x3.toInt ∧ x3.toInt + 6 ≤ (L : Int)) (H : Heap) (locs : List Loc) (ls : Array Slot) (hZ : zLaw D ca A rs rest st H) (hS : va_S A s.heap H locs) (hl : lv_has ls 4 [(0, .ref b), (1, .ref (rs 0 0)), (2, .ref (rs 9 0)), (3, .int x3)])
    (kk : ∀ (st : Nat → zS) (H : Heap) (locs : List Loc) (ls : Array Slot), zLaw D ca A rs rest st H → va_S A s.heap H locs → lv_has ls 4 [(0, .ref b), (1, .ref (rs 0 0)), (2, .ref (rs 9 0)), (3, .int x3)] → W p l e room_1 s m #[Value.ref b] below meth c H locs 119 16966 (lw_Z below #[Value.ref b] s) (F0 m 761 ls [])) : W p l e room_1 s m #[Value.ref b] below meth c H locs 119 16966 (lw_Z below #[Value.ref b] s) (F0 m 210 ls []) := by
  obtain ⟨hx, hb, hr, hml, hown, hts0, hX, hbl, hlocks, hgv⟩ := C0
  have hts : ∀ w ∈ wsL_law, w.before #[Value.ref b] s = true := fun w h => hts0 w (wsL_law_in w h)
  have hK := hE.1
  have hF : CallFix p m c cL_law 4 s #[Value.ref b] wsL_law RL := ⟨hx, hb, hml, hown, hts⟩
  obtain ⟨hP, hD, hv0, hv1, hv2, hv3, hv4, hv5, hv6, hv7, hv8, hv9, hrel0, hrel1, hR1, hR4⟩ := hZ
  have hk0 := hv0
  obtain ⟨⟨hv0i0, hv0j0⟩, ⟨hv0i1, hv0j1⟩, ⟨hv0i5, hv0j5⟩, ⟨hv0i9, hv0j9⟩, hv0a6, hv0a8, hv0a9, hv0a23, hv0a27, hv0a28, hv0x0, hv0y0⟩ := hv0
  have hk1 := hv1
  have hk2 := hv2
  obtain ⟨hv2i0, hv2j0⟩ := hv2
  have hk3 := hv3
  obtain ⟨⟨hv3i3, hv3j3⟩, hv3x0⟩ := hv3
  have hk4 := hv4
  have hk5 := hv5
  obtain ⟨⟨hv5i0, hv5j0⟩, hv5a6⟩ := hv5
  have hk6 := hv6
  have hk7 := hv7
  obtain ⟨⟨hv7i0, hv7j0⟩, ⟨hv7i4, hv7j4⟩, ⟨hv7i5, hv7j5⟩, ⟨hv7i6, hv7j6⟩, ⟨hv7i7, hv7j7⟩, hv7a3, hv7a4, hv7a5, hv7a6⟩ := hv7
  have hk8 := hv8
  obtain ⟨⟨hv8i0, hv8j0⟩, ⟨hv8i4, hv8j4⟩, ⟨hv8i5, hv8j5⟩, ⟨hv8i6, hv8j6⟩, ⟨hv8i7, hv8j7⟩, hv8a3, hv8a4, hv8a5, hv8a6⟩ := hv8
  have hk9 := hv9
  obtain ⟨⟨hv9i0, hv9j0⟩, ⟨hv9i4, hv9j4⟩, ⟨hv9i5, hv9j5⟩, ⟨hv9i6, hv9j6⟩, ⟨hv9i7, hv9j7⟩, hv9a3, hv9a4, hv9a5, hv9a6⟩ := hv9
  have hnm : ((st 4).1 0).toInt = ((st 9).1 9).toInt := by rw [hR1.1]
  refine lv_aload_n hx hb dL_law_210 rfl (lv_at hl 1 rfl) ?_
  refine lv_aload_n hx hb dL_law_211 rfl (lv_at hl 0 rfl) ?_
  refine lv_iload_n hx hb dL_law_212 rfl (lv_at hl 3 rfl) ?_
  refine lv_iconst (v := 1) hx hb dL_law_213 (by decide) ?_
  refine lv_iadd hx hb dL_law_214 ?_
  refine lv_topi (fun t1 et1 => ?_)
  try have ht1 : t1.toInt = x3.toInt + 1 := z_add et1 rfl (by decide) (by omega -splitDisjunctions) (by omega -splitDisjunctions)
  have hi2 : vp_in t1 L := z_in (i := t1.toInt) rfl (by omega) (by omega)
  refine va_sld hx hb hX hbl hbA hS hi2 dL_law_215 ?_
  refine lv_topi (fun t3 et3 => ?_)
  have hPD9 := pf_0_1_2_3 ca rs st rest hP hD
  refine z_iV (As := [.int t3]) (rest := []) hF (c_X8_way_R l D ca sa A (wO_0_1_2_3 ca rs st rest) (rs 0) (rs 1) (rs 2) (rs 3) (rs 4 0) (rs 5 0) (rs 6 0) (rs 7 0) (rs 8 0) (st 0).1 (st 0).2.1 (st 0).2.2.1 (st 0).2.2.2 hk1 (st 1).1 (st 1).2.1 (st 1).2.2.1 (st 1).2.2.2 hk2 (st 2).1 (st 2).2.1 (st 2).2.2.1 (st 2).2.2.2 hk3 (st 3).1 (st 3).2.1 (st 3).2.2.1 (st 3).2.2.2 hk4 t3) (cwV 1 hts gL_law_X8_way rfl rfl rfl (by decide +kernel) ⟨Nat.le_of_ble_eq_true rfl, Nat.le_of_ble_eq_true rfl⟩) hE hPD9.1 hPD9.2 hS 8 0 rfl rfl rfl hl.1 rfl (Nat.le_of_ble_eq_true rfl) dL_law_216 ⟨show 119 + 0 ≤ 119 by decide, show 16966 + 0 ≤ 16966 by decide⟩ (fun t5 u4 H locs hw6 hP hD hS => ?_)
  obtain ⟨⟨im7, lm7, am7, bm7⟩, ⟨im8, lm8, am8, bm8⟩, ⟨im9, lm9, am9, bm9⟩, ⟨im10, lm10, am10, bm10⟩⟩ := u4
  have hokm7 := hw6.1
  have hokm8 := hw6.2.1
  have hokm9 := hw6.2.2.1
  have hokm10 := hw6.2.2.2.1
  have hw6 : (True) ∧ ((0 ≤ (im8 0).toInt ∧ (im8 0).toInt ≤ 600)) ∧ ((0 ≤ (im9 3).toInt ∧ (im9 3).toInt ≤ 7) ∧ ((im9 2).toInt = 1 → (im9 3).toInt ≤ 6)) ∧ (True) ∧ ((im8 0).toInt = 0) ∧ ((¬ (0 ≤ t3.toInt ∧ t3.toInt ≤ 3) ∧ (t5).toInt = -2 ∧ (im9 0) = ((st 2).1 0) ∧ (im9 1) = ((st 2).1 1) ∧ (am10 0) = ((st 3).2.2.1 0) ∧ (im7 0) = ((st 0).1 0)) ∨ ((0 ≤ t3.toInt ∧ t3.toInt ≤ 3) ∧ zWy ((st 1).2.2.1 0) (((st 1).1 0)).toInt ((st 3).2.2.1 0) t3.toNatClampNeg (t5).toInt ((im9 0)).toInt ((im9 1)).toInt (am10 0) ∧ (((im9 0)).toInt = 0 → ((im7 0)).toInt = -1) ∧ (((im9 0)).toInt ≠ 0 → (im7 0) = ((st 0).1 0)))) := hw6
  obtain ⟨-, ⟨hm8i0, hm8j0⟩, ⟨⟨hm9i3, hm9j3⟩, hm9x0⟩, -, hq11, hq12⟩ := hw6
  have hPD := pb_0_1_2_3 ca rs st rest (zx [0] (st 0).1 im7, zx [] (st 0).2.1 lm7, zx [] (st 0).2.2.1 am7, zx [] (st 0).2.2.2 bm7) (zx [0] (st 1).1 im8, zx [] (st 1).2.1 lm8, zx [] (st 1).2.2.1 am8, zx [] (st 1).2.2.2 bm8) (zx [0, 1, 2, 3, 4, 5] (st 2).1 im9, zx [] (st 2).2.1 lm9, zx [0] (st 2).2.2.1 am9, zx [] (st 2).2.2.2 bm9) (zx [] (st 3).1 im10, zx [] (st 3).2.1 lm10, zx [0] (st 3).2.2.1 am10, zx [] (st 3).2.2.2 bm10) hP hD
  have hP := hPD.1
  have hD := hPD.2
  refine lv_pop hx hb dL_law_219 rfl ?_
  refine lv_aload_n hx hb dL_law_220 rfl (lv_at hl 2 rfl) ?_
  refine lv_aload_n hx hb dL_law_221 rfl (lv_at hl 0 rfl) ?_
  refine lv_iload_n hx hb dL_law_222 rfl (lv_at hl 3 rfl) ?_
  refine lv_iconst (v := 1) hx hb dL_law_223 (by decide) ?_
  refine lv_iadd hx hb dL_law_224 ?_
  refine lv_topi (fun t13 et13 => ?_)
  try have ht13 : t13.toInt = x3.toInt + 1 := z_add et13 rfl (by decide) (by omega -splitDisjunctions) (by omega -splitDisjunctions)
  have hi14 : vp_in t13 L := z_in (i := t13.toInt) rfl (by omega) (by omega)
  refine va_sld hx hb hX hbl hbA hS hi14 dL_law_225 ?_
  rw [show xs t13.toNatClampNeg = t3 from by rw [et3, et13, et1]]
  have hP : va_P D vwCl (w_MOD ca (rs 9) (st 9).1 (st 9).2.1 (st 9).2.2.1 (st 9).2.2.2 (wR9 ca rs (zl zS0 [(zx [0] (st 0).1 im7, zx [] (st 0).2.1 lm7, zx [] (st 0).2.2.1 am7, zx [] (st 0).2.2.2 bm7), (zx [0] (st 1).1 im8, zx [] (st 1).2.1 lm8, zx [] (st 1).2.2.1 am8, zx [] (st 1).2.2.2 bm8), (zx [0, 1, 2, 3, 4, 5] (st 2).1 im9, zx [] (st 2).2.1 lm9, zx [0] (st 2).2.2.1 am9, zx [] (st 2).2.2.2 bm9), (zx [] (st 3).1 im10, zx [] (st 3).2.1 lm10, zx [0] (st 3).2.2.1 am10, zx [] (st 3).2.2.2 bm10), (st 4), (st 5), (st 6), (st 7), (st 8), (st 9)]) rest)) H := hP
  have hD : va_D A (w_MOD ca (rs 9) (st 9).1 (st 9).2.1 (st 9).2.2.1 (st 9).2.2.2 (wR9 ca rs (zl zS0 [(zx [0] (st 0).1 im7, zx [] (st 0).2.1 lm7, zx [] (st 0).2.2.1 am7, zx [] (st 0).2.2.2 bm7), (zx [0] (st 1).1 im8, zx [] (st 1).2.1 lm8, zx [] (st 1).2.2.1 am8, zx [] (st 1).2.2.2 bm8), (zx [0, 1, 2, 3, 4, 5] (st 2).1 im9, zx [] (st 2).2.1 lm9, zx [0] (st 2).2.2.1 am9, zx [] (st 2).2.2.2 bm9), (zx [] (st 3).1 im10, zx [] (st 3).2.1 lm10, zx [0] (st 3).2.2.1 am10, zx [] (st 3).2.2.2 bm10), (st 4), (st 5), (st 6), (st 7), (st 8), (st 9)]) rest)) := hD
  have hp15 : zBr ((st 9).2.2.1 0) := hR4.2
  refine z_iV (As := [.int t3]) (rest := []) hF (c_X9_way_R l D ca sa A (wR9 ca rs (zl zS0 [(zx [0] (st 0).1 im7, zx [] (st 0).2.1 lm7, zx [] (st 0).2.2.1 am7, zx [] (st 0).2.2.2 bm7), (zx [0] (st 1).1 im8, zx [] (st 1).2.1 lm8, zx [] (st 1).2.2.1 am8, zx [] (st 1).2.2.2 bm8), (zx [0, 1, 2, 3, 4, 5] (st 2).1 im9, zx [] (st 2).2.1 lm9, zx [0] (st 2).2.2.1 am9, zx [] (st 2).2.2.2 bm9), (zx [] (st 3).1 im10, zx [] (st 3).2.1 lm10, zx [0] (st 3).2.2.1 am10, zx [] (st 3).2.2.2 bm10), (st 4), (st 5), (st 6), (st 7), (st 8), (st 9)]) rest) (rs 9) (st 9).1 (st 9).2.1 (st 9).2.2.1 (st 9).2.2.2 hk0 t3 hp15) (cwV 1 hts gL_law_X9_way rfl rfl rfl (by decide +kernel) ⟨Nat.le_of_ble_eq_true rfl, Nat.le_of_ble_eq_true rfl⟩) hE hP hD hS 9 0 rfl rfl rfl hl.1 rfl (Nat.le_of_ble_eq_true rfl) dL_law_226 ⟨show 119 + 0 ≤ 119 by decide, show 16966 + 0 ≤ 16966 by decide⟩ (fun t17 u16 H locs hw18 hP hD hS => ?_)
  obtain ⟨im19, lm19, am19, bm19⟩ := u16
  have hokm19 := hw18.1
  have hw18 : ((0 ≤ (im19 0).toInt ∧ (im19 0).toInt ≤ 600) ∧ (0 ≤ (im19 1).toInt ∧ (im19 1).toInt ≤ 600) ∧ (0 ≤ (im19 5).toInt ∧ (im19 5).toInt ≤ 600) ∧ (0 ≤ ((st 9).1 9).toInt ∧ ((st 9).1 9).toInt ≤ 60) ∧ z_rng (-1) 59 ((st 9).2.2.1 6) ∧ z_rng 0 59 ((st 9).2.2.1 8) ∧ z_rng 0 3 ((st 9).2.2.1 9) ∧ z_rng 0 269 ((st 9).2.2.1 23) ∧ z_rng 0 5 ((st 9).2.2.1 27) ∧ z_rng 0 59 ((st 9).2.2.1 28) ∧ ((im19 2).toInt = 1 → 0 ≤ (im19 3).toInt) ∧ zOkR (am19 1) ((st 9).2.2.1 27)) ∧ ((im19 0).toInt = 0) ∧ ((¬ (0 ≤ t3.toInt ∧ t3.toInt ≤ 3) ∧ (t17).toInt = -2 ∧ (im19 7) = ((st 9).1 7) ∧ (im19 8) = ((st 9).1 8) ∧ (am19 1) = ((st 9).2.2.1 1) ∧ (im19 10) = ((st 9).1 10)) ∨ ((0 ≤ t3.toInt ∧ t3.toInt ≤ 3) ∧ zWy ((st 9).2.2.1 0) (((st 9).1 0)).toInt ((st 9).2.2.1 1) t3.toNatClampNeg (t17).toInt ((im19 7)).toInt ((im19 8)).toInt (am19 1) ∧ (((im19 7)).toInt = 0 → ((im19 10)).toInt = -1) ∧ (((im19 7)).toInt ≠ 0 → (im19 10) = ((st 9).1 10)))) := hw18
  obtain ⟨⟨⟨hm19i0, hm19j0⟩, ⟨hm19i1, hm19j1⟩, ⟨hm19i5, hm19j5⟩, -, -, -, -, -, -, -, hm19x0, hm19y0⟩, hq20, hq21⟩ := hw18
  have hPD := pc9 ca rs (zx [0] (st 0).1 im7, zx [] (st 0).2.1 lm7, zx [] (st 0).2.2.1 am7, zx [] (st 0).2.2.2 bm7) (zx [0] (st 1).1 im8, zx [] (st 1).2.1 lm8, zx [] (st 1).2.2.1 am8, zx [] (st 1).2.2.2 bm8) (zx [0, 1, 2, 3, 4, 5] (st 2).1 im9, zx [] (st 2).2.1 lm9, zx [0] (st 2).2.2.1 am9, zx [] (st 2).2.2.2 bm9) (zx [] (st 3).1 im10, zx [] (st 3).2.1 lm10, zx [0] (st 3).2.2.1 am10, zx [] (st 3).2.2.2 bm10) (st 4) (st 5) (st 6) (st 7) (st 8) (st 9) (zx [0, 1, 2, 3, 4, 5, 6, 7, 8, 10] (st 9).1 im19, zx [] (st 9).2.1 lm19, zx [1] (st 9).2.2.1 am19, zx [] (st 9).2.2.2 bm19) rest hP hD
  have hwl := zR4_way hR4 hrel0 hq12 hq21
  have hrr := hwl.1
  have hpl := hwl.2.2.2 hrel1
  refine lv_pop hx hb dL_law_229 rfl ?_
  refine lv_goto (tgt := 761) hx hb dL_law_230 (by decide) ?_
  have hrl22 : (im8 0).toInt = (im19 0).toInt := by omega
  have hrl23 : (im7 0).toInt = (im19 10).toInt := by omega
  have hrl24 : zR1 ((st 4).1 0) ((st 9).1 9) ((st 4).2.2.1 0) ((st 4).2.2.1 1) ((st 4).2.2.1 2) ((st 4).2.2.1 3) ((st 4).2.2.1 4) ((st 4).2.2.1 5) ((st 4).2.2.1 6) ((st 4).2.2.1 7) ((st 9).2.2.1 2) ((st 9).2.2.1 3) ((st 9).2.2.1 4) ((st 9).2.2.1 5) ((st 9).2.2.1 6) ((st 9).2.2.1 7) ((st 9).2.2.1 9) ((st 9).2.2.1 8) ((st 4).2.2.2 0) := hR1
  have hrl25 : zR4 ((st 1).2.2.1 0) ((st 9).2.2.1 0) := hR4
  exact kk (zl zS0 [(zx [0] (st 0).1 im7, zx [] (st 0).2.1 lm7, zx [] (st 0).2.2.1 am7, zx [] (st 0).2.2.2 bm7), (zx [0] (st 1).1 im8, zx [] (st 1).2.1 lm8, zx [] (st 1).2.2.1 am8, zx [] (st 1).2.2.2 bm8), (zx [0, 1, 2, 3, 4, 5] (st 2).1 im9, zx [] (st 2).2.1 lm9, zx [0] (st 2).2.2.1 am9, zx [] (st 2).2.2.2 bm9), (zx [] (st 3).1 im10, zx [] (st 3).2.1 lm10, zx [0] (st 3).2.2.1 am10, zx [] (st 3).2.2.2 bm10), (st 4), (st 5), (st 6), (st 7), (st 8), (zx [0, 1, 2, 3, 4, 5, 6, 7, 8, 10] (st 9).1 im19, zx [] (st 9).2.1 lm19, zx [1] (st 9).2.2.1 am19, zx [] (st 9).2.2.2 bm19)]) _ _ ls ⟨hPD.1, hPD.2, hokm19, hokm7, hokm8, hokm9, hokm10, hk5, hk6, hk7, hk8, hk9, hrl22, hrl23, hrl24, hrl25⟩ hS (lv_sub hl [0, 1, 2, 3] rfl)

set_option maxHeartbeats 8000000 in
set_option maxRecDepth 100000 in
theorem law_3 {p : Program} {e : Env} {s : State} {m : MethodId} {below : List Frame} {meth : Method} {c : Code} (l : Launch) {b L : Nat} {xs : Nat → Int32} (hL : L ≤ 3072) (C0 : lw_At p s m meth c b L xs) {D : va_G} {ca : Nat → ClassId} {sa : Nat → Nat} {A : Nat → Prop} (hbA : ¬ A b) (hE : zE D ca sa A s s.heap) (rs : Nat → Nat → Nat) (rest : va_W) (st : Nat → zS) (x3 : Int32) (hi : 0 ≤ x3.toInt ∧ x3.toInt + 6 ≤ (L : Int)) (H : Heap) (locs : List Loc) (ls : Array Slot) (hZ : zLaw D ca A rs rest st H) (hS : va_S A s.heap H locs) (hl : lv_has ls 4 [(0, .ref b), (1, .ref (rs 0 0)), (2, .ref (rs 9 0)), (3, .int x3)])
    (kk : ∀ (st : Nat → zS) (H : Heap) (locs : List Loc) (ls : Array Slot), zLaw D ca A rs rest st H → va_S A s.heap H locs → lv_has ls 4 [(0, .ref b), (1, .ref (rs 0 0)), (2, .ref (rs 9 0)), (3, .int x3)] → W p l e room_1 s m #[Value.ref b] below meth c H locs 119 16966 (lw_Z below #[Value.ref b] s) (F0 m 761 ls [])) : W p l e room_1 s m #[Value.ref b] below meth c H locs 119 16966 (lw_Z below #[Value.ref b] s) (F0 m 233 ls []) := by
  obtain ⟨hx, hb, hr, hml, hown, hts0, hX, hbl, hlocks, hgv⟩ := C0
  have hts : ∀ w ∈ wsL_law, w.before #[Value.ref b] s = true := fun w h => hts0 w (wsL_law_in w h)
  have hK := hE.1
  have hF : CallFix p m c cL_law 4 s #[Value.ref b] wsL_law RL := ⟨hx, hb, hml, hown, hts⟩
  obtain ⟨hP, hD, hv0, hv1, hv2, hv3, hv4, hv5, hv6, hv7, hv8, hv9, hrel0, hrel1, hR1, hR4⟩ := hZ
  have hk0 := hv0
  obtain ⟨⟨hv0i0, hv0j0⟩, ⟨hv0i1, hv0j1⟩, ⟨hv0i5, hv0j5⟩, ⟨hv0i9, hv0j9⟩, hv0a6, hv0a8, hv0a9, hv0a23, hv0a27, hv0a28, hv0x0, hv0y0⟩ := hv0
  have hk1 := hv1
  have hk2 := hv2
  obtain ⟨hv2i0, hv2j0⟩ := hv2
  have hk3 := hv3
  obtain ⟨⟨hv3i3, hv3j3⟩, hv3x0⟩ := hv3
  have hk4 := hv4
  have hk5 := hv5
  obtain ⟨⟨hv5i0, hv5j0⟩, hv5a6⟩ := hv5
  have hk6 := hv6
  have hk7 := hv7
  obtain ⟨⟨hv7i0, hv7j0⟩, ⟨hv7i4, hv7j4⟩, ⟨hv7i5, hv7j5⟩, ⟨hv7i6, hv7j6⟩, ⟨hv7i7, hv7j7⟩, hv7a3, hv7a4, hv7a5, hv7a6⟩ := hv7
  have hk8 := hv8
  obtain ⟨⟨hv8i0, hv8j0⟩, ⟨hv8i4, hv8j4⟩, ⟨hv8i5, hv8j5⟩, ⟨hv8i6, hv8j6⟩, ⟨hv8i7, hv8j7⟩, hv8a3, hv8a4, hv8a5, hv8a6⟩ := hv8
  have hk9 := hv9
  obtain ⟨⟨hv9i0, hv9j0⟩, ⟨hv9i4, hv9j4⟩, ⟨hv9i5, hv9j5⟩, ⟨hv9i6, hv9j6⟩, ⟨hv9i7, hv9j7⟩, hv9a3, hv9a4, hv9a5, hv9a6⟩ := hv9
  have hnm : ((st 4).1 0).toInt = ((st 9).1 9).toInt := by rw [hR1.1]
  refine lv_aload_n hx hb dL_law_233 rfl (lv_at hl 1 rfl) ?_
  refine lv_aload_n hx hb dL_law_234 rfl (lv_at hl 0 rfl) ?_
  refine lv_iload_n hx hb dL_law_235 rfl (lv_at hl 3 rfl) ?_
  refine lv_iconst (v := 1) hx hb dL_law_236 (by decide) ?_
  refine lv_iadd hx hb dL_law_237 ?_
  refine lv_topi (fun t1 et1 => ?_)
  try have ht1 : t1.toInt = x3.toInt + 1 := z_add et1 rfl (by decide) (by omega -splitDisjunctions) (by omega -splitDisjunctions)
  have hi2 : vp_in t1 L := z_in (i := t1.toInt) rfl (by omega) (by omega)
  refine va_sld hx hb hX hbl hbA hS hi2 dL_law_238 ?_
  refine lv_topi (fun t3 et3 => ?_)
  have hPD9 := pf_0_2 ca rs st rest hP hD
  refine z_iV (As := [.int t3]) (rest := []) hF (c_X8_fault_R l D ca sa A (wO_0_2 ca rs st rest) (rs 0) (rs 2) (rs 1 0) (rs 3 0) (rs 4 0) (rs 5 0) (rs 6 0) (rs 7 0) (rs 8 0) (st 0).1 (st 0).2.1 (st 0).2.2.1 (st 0).2.2.2 hk1 (st 2).1 (st 2).2.1 (st 2).2.2.1 (st 2).2.2.2 hk3 t3) (cwV 1 hts gL_law_X8_fault rfl rfl rfl (by decide +kernel) ⟨Nat.le_of_ble_eq_true rfl, Nat.le_of_ble_eq_true rfl⟩) hE hPD9.1 hPD9.2 hS 8 0 rfl rfl rfl hl.1 rfl (Nat.le_of_ble_eq_true rfl) dL_law_239 ⟨show 119 + 0 ≤ 119 by decide, show 16966 + 0 ≤ 16966 by decide⟩ (fun t5 u4 H locs hw6 hP hD hS => ?_)
  have hw6 : ((t3.toInt = 0 ∧ t5.toInt = ((st 2).1 0).toInt) ∨ (t3.toInt = 1 ∧ t5.toInt = ((st 2).1 1).toInt) ∨ (¬ t3.toInt = 0 ∧ ¬ t3.toInt = 1 ∧ t5.toInt = -1)) := hw6
  have hq7 := hw6
  have hPD := pb_0_2 ca rs st rest (st 0) (st 2) hP hD
  have hP := hPD.1
  have hD := hPD.2
  refine lv_pop hx hb dL_law_242 rfl ?_
  refine lv_aload_n hx hb dL_law_243 rfl (lv_at hl 2 rfl) ?_
  refine lv_aload_n hx hb dL_law_244 rfl (lv_at hl 0 rfl) ?_
  refine lv_iload_n hx hb dL_law_245 rfl (lv_at hl 3 rfl) ?_
  refine lv_iconst (v := 1) hx hb dL_law_246 (by decide) ?_
  refine lv_iadd hx hb dL_law_247 ?_
  refine lv_topi (fun t8 et8 => ?_)
  try have ht8 : t8.toInt = x3.toInt + 1 := z_add et8 rfl (by decide) (by omega -splitDisjunctions) (by omega -splitDisjunctions)
  have hi9 : vp_in t8 L := z_in (i := t8.toInt) rfl (by omega) (by omega)
  refine va_sld hx hb hX hbl hbA hS hi9 dL_law_248 ?_
  rw [show xs t8.toNatClampNeg = t3 from by rw [et3, et8, et1]]
  have hP : va_P D vwCl (w_MOD ca (rs 9) (st 9).1 (st 9).2.1 (st 9).2.2.1 (st 9).2.2.2 (wR9 ca rs (zl zS0 [(st 0), (st 1), (st 2), (st 3), (st 4), (st 5), (st 6), (st 7), (st 8), (st 9)]) rest)) H := hP
  have hD : va_D A (w_MOD ca (rs 9) (st 9).1 (st 9).2.1 (st 9).2.2.1 (st 9).2.2.2 (wR9 ca rs (zl zS0 [(st 0), (st 1), (st 2), (st 3), (st 4), (st 5), (st 6), (st 7), (st 8), (st 9)]) rest)) := hD
  refine z_iV (As := [.int t3]) (rest := []) hF (c_X9_fault_R l D ca sa A (wR9 ca rs (zl zS0 [(st 0), (st 1), (st 2), (st 3), (st 4), (st 5), (st 6), (st 7), (st 8), (st 9)]) rest) (rs 9) (st 9).1 (st 9).2.1 (st 9).2.2.1 (st 9).2.2.2 hk0 t3) (cwV 1 hts gL_law_X9_fault rfl rfl rfl (by decide +kernel) ⟨Nat.le_of_ble_eq_true rfl, Nat.le_of_ble_eq_true rfl⟩) hE hP hD hS 9 0 rfl rfl rfl hl.1 rfl (Nat.le_of_ble_eq_true rfl) dL_law_249 ⟨show 119 + 0 ≤ 119 by decide, show 16966 + 0 ≤ 16966 by decide⟩ (fun t11 u10 H locs hw12 hP hD hS => ?_)
  have hw12 : ((t3.toInt = 0 ∧ t11.toInt = ((st 9).1 7).toInt) ∨ (t3.toInt = 1 ∧ t11.toInt = ((st 9).1 8).toInt) ∨ (¬ t3.toInt = 0 ∧ ¬ t3.toInt = 1 ∧ t11.toInt = -1)) := hw12
  have hq13 := hw12
  have hPD := pc9 ca rs (st 0) (st 1) (st 2) (st 3) (st 4) (st 5) (st 6) (st 7) (st 8) (st 9) (st 9) rest hP hD
  refine lv_pop hx hb dL_law_252 rfl ?_
  refine lv_goto (tgt := 761) hx hb dL_law_253 (by decide) ?_
  have hrl14 : ((st 1).1 0).toInt = ((st 9).1 0).toInt := by omega
  have hrl15 : ((st 0).1 0).toInt = ((st 9).1 10).toInt := by omega
  have hrl16 : zR1 ((st 4).1 0) ((st 9).1 9) ((st 4).2.2.1 0) ((st 4).2.2.1 1) ((st 4).2.2.1 2) ((st 4).2.2.1 3) ((st 4).2.2.1 4) ((st 4).2.2.1 5) ((st 4).2.2.1 6) ((st 4).2.2.1 7) ((st 9).2.2.1 2) ((st 9).2.2.1 3) ((st 9).2.2.1 4) ((st 9).2.2.1 5) ((st 9).2.2.1 6) ((st 9).2.2.1 7) ((st 9).2.2.1 9) ((st 9).2.2.1 8) ((st 4).2.2.2 0) := hR1
  have hrl17 : zR4 ((st 1).2.2.1 0) ((st 9).2.2.1 0) := hR4
  exact kk (zl zS0 [(st 0), (st 1), (st 2), (st 3), (st 4), (st 5), (st 6), (st 7), (st 8), (st 9)]) _ _ ls ⟨hPD.1, hPD.2, hk0, hk1, hk2, hk3, hk4, hk5, hk6, hk7, hk8, hk9, hrl14, hrl15, hrl16, hrl17⟩ hS (lv_sub hl [0, 1, 2, 3] rfl)

set_option maxHeartbeats 8000000 in
set_option maxRecDepth 100000 in
theorem law_4 {p : Program} {e : Env} {s : State} {m : MethodId} {below : List Frame} {meth : Method} {c : Code} (l : Launch) {b L : Nat} {xs : Nat → Int32} (hL : L ≤ 3072) (C0 : lw_At p s m meth c b L xs) {D : va_G} {ca : Nat → ClassId} {sa : Nat → Nat} {A : Nat → Prop} (hbA : ¬ A b) (hE : zE D ca sa A s s.heap) (rs : Nat → Nat → Nat) (rest : va_W) (st : Nat → zS) (x3 : Int32) (hi : 0 ≤ x3.toInt ∧ x3.toInt + 6 ≤ (L : Int)) (H : Heap) (locs : List Loc) (ls : Array Slot) (hZ : zLaw D ca A rs rest st H) (hS : va_S A s.heap H locs) (hl : lv_has ls 4 [(0, .ref b), (1, .ref (rs 0 0)), (2, .ref (rs 9 0)), (3, .int x3)])
    (kk : ∀ (st : Nat → zS) (H : Heap) (locs : List Loc) (ls : Array Slot), zLaw D ca A rs rest st H → va_S A s.heap H locs → lv_has ls 4 [(0, .ref b), (1, .ref (rs 0 0)), (2, .ref (rs 9 0)), (3, .int x3)] → W p l e room_1 s m #[Value.ref b] below meth c H locs 119 16966 (lw_Z below #[Value.ref b] s) (F0 m 761 ls [])) : W p l e room_1 s m #[Value.ref b] below meth c H locs 119 16966 (lw_Z below #[Value.ref b] s) (F0 m 256 ls []) := by
  obtain ⟨hx, hb, hr, hml, hown, hts0, hX, hbl, hlocks, hgv⟩ := C0
  have hts : ∀ w ∈ wsL_law, w.before #[Value.ref b] s = true := fun w h => hts0 w (wsL_law_in w h)
  have hK := hE.1
  have hF : CallFix p m c cL_law 4 s #[Value.ref b] wsL_law RL := ⟨hx, hb, hml, hown, hts⟩
  obtain ⟨hP, hD, hv0, hv1, hv2, hv3, hv4, hv5, hv6, hv7, hv8, hv9, hrel0, hrel1, hR1, hR4⟩ := hZ
  have hk0 := hv0
  obtain ⟨⟨hv0i0, hv0j0⟩, ⟨hv0i1, hv0j1⟩, ⟨hv0i5, hv0j5⟩, ⟨hv0i9, hv0j9⟩, hv0a6, hv0a8, hv0a9, hv0a23, hv0a27, hv0a28, hv0x0, hv0y0⟩ := hv0
  have hk1 := hv1
  have hk2 := hv2
  obtain ⟨hv2i0, hv2j0⟩ := hv2
  have hk3 := hv3
  obtain ⟨⟨hv3i3, hv3j3⟩, hv3x0⟩ := hv3
  have hk4 := hv4
  have hk5 := hv5
  obtain ⟨⟨hv5i0, hv5j0⟩, hv5a6⟩ := hv5
  have hk6 := hv6
  have hk7 := hv7
  obtain ⟨⟨hv7i0, hv7j0⟩, ⟨hv7i4, hv7j4⟩, ⟨hv7i5, hv7j5⟩, ⟨hv7i6, hv7j6⟩, ⟨hv7i7, hv7j7⟩, hv7a3, hv7a4, hv7a5, hv7a6⟩ := hv7
  have hk8 := hv8
  obtain ⟨⟨hv8i0, hv8j0⟩, ⟨hv8i4, hv8j4⟩, ⟨hv8i5, hv8j5⟩, ⟨hv8i6, hv8j6⟩, ⟨hv8i7, hv8j7⟩, hv8a3, hv8a4, hv8a5, hv8a6⟩ := hv8
  have hk9 := hv9
  obtain ⟨⟨hv9i0, hv9j0⟩, ⟨hv9i4, hv9j4⟩, ⟨hv9i5, hv9j5⟩, ⟨hv9i6, hv9j6⟩, ⟨hv9i7, hv9j7⟩, hv9a3, hv9a4, hv9a5, hv9a6⟩ := hv9
  have hnm : ((st 4).1 0).toInt = ((st 9).1 9).toInt := by rw [hR1.1]
  refine lv_aload_n hx hb dL_law_256 rfl (lv_at hl 1 rfl) ?_
  refine lv_aload_n hx hb dL_law_257 rfl (lv_at hl 0 rfl) ?_
  refine lv_iload_n hx hb dL_law_258 rfl (lv_at hl 3 rfl) ?_
  refine lv_iconst (v := 1) hx hb dL_law_259 (by decide) ?_
  refine lv_iadd hx hb dL_law_260 ?_
  refine lv_topi (fun t1 et1 => ?_)
  try have ht1 : t1.toInt = x3.toInt + 1 := z_add et1 rfl (by decide) (by omega -splitDisjunctions) (by omega -splitDisjunctions)
  have hi2 : vp_in t1 L := z_in (i := t1.toInt) rfl (by omega) (by omega)
  refine va_sld hx hb hX hbl hbA hS hi2 dL_law_261 ?_
  refine lv_topi (fun t3 et3 => ?_)
  refine lv_aload_n hx hb dL_law_262 rfl (lv_at hl 0 rfl) ?_
  refine lv_iload_n hx hb dL_law_263 rfl (lv_at hl 3 rfl) ?_
  refine lv_iconst (v := 2) hx hb dL_law_264 (by decide) ?_
  refine lv_iadd hx hb dL_law_265 ?_
  refine lv_topi (fun t4 et4 => ?_)
  try have ht4 : t4.toInt = x3.toInt + 2 := z_add et4 rfl (by decide) (by omega -splitDisjunctions) (by omega -splitDisjunctions)
  have hi5 : vp_in t4 L := z_in (i := t4.toInt) rfl (by omega) (by omega)
  refine va_sld hx hb hX hbl hbA hS hi5 dL_law_266 ?_
  refine lv_topi (fun t6 et6 => ?_)
  have hPD9 := pf_0_3 ca rs st rest hP hD
  refine z_iV (As := [.int t3, .int t6]) (rest := []) hF (c_X8_rule_R l D ca sa A (wO_0_3 ca rs st rest) (rs 0) (rs 3) (rs 1 0) (rs 2 0) (rs 4 0) (rs 5 0) (rs 6 0) (rs 7 0) (rs 8 0) (st 0).1 (st 0).2.1 (st 0).2.2.1 (st 0).2.2.2 hk1 (st 3).1 (st 3).2.1 (st 3).2.2.1 (st 3).2.2.2 hk4 t3 t6) (cwV 2 hts gL_law_X8_rule rfl rfl rfl (by decide +kernel) ⟨Nat.le_of_ble_eq_true rfl, Nat.le_of_ble_eq_true rfl⟩) hE hPD9.1 hPD9.2 hS 8 0 rfl rfl rfl hl.1 rfl (Nat.le_of_ble_eq_true rfl) dL_law_267 ⟨show 119 + 0 ≤ 119 by decide, show 16966 + 0 ≤ 16966 by decide⟩ (fun t8 u7 H locs hw9 hP hD hS => ?_)
  have hw9 : (((0 ≤ t3.toInt ∧ t3.toInt ≤ 3 ∧ 0 ≤ t6.toInt ∧ t6.toInt ≤ 7) ∧ t8 = ((st 3).2.2.1 0) (8 * t3.toNatClampNeg + t6.toNatClampNeg)) ∨ (¬ (0 ≤ t3.toInt ∧ t3.toInt ≤ 3 ∧ 0 ≤ t6.toInt ∧ t6.toInt ≤ 7) ∧ (t8).toInt = -9)) := hw9
  have hq10 := hw9
  have hPD := pb_0_3 ca rs st rest (st 0) (st 3) hP hD
  have hP := hPD.1
  have hD := hPD.2
  refine lv_pop hx hb dL_law_270 rfl ?_
  refine lv_aload_n hx hb dL_law_271 rfl (lv_at hl 2 rfl) ?_
  refine lv_aload_n hx hb dL_law_272 rfl (lv_at hl 0 rfl) ?_
  refine lv_iload_n hx hb dL_law_273 rfl (lv_at hl 3 rfl) ?_
  refine lv_iconst (v := 1) hx hb dL_law_274 (by decide) ?_
  refine lv_iadd hx hb dL_law_275 ?_
  refine lv_topi (fun t11 et11 => ?_)
  try have ht11 : t11.toInt = x3.toInt + 1 := z_add et11 rfl (by decide) (by omega -splitDisjunctions) (by omega -splitDisjunctions)
  have hi12 : vp_in t11 L := z_in (i := t11.toInt) rfl (by omega) (by omega)
  refine va_sld hx hb hX hbl hbA hS hi12 dL_law_276 ?_
  rw [show xs t11.toNatClampNeg = t3 from by rw [et3, et11, et1]]
  refine lv_aload_n hx hb dL_law_277 rfl (lv_at hl 0 rfl) ?_
  refine lv_iload_n hx hb dL_law_278 rfl (lv_at hl 3 rfl) ?_
  refine lv_iconst (v := 2) hx hb dL_law_279 (by decide) ?_
  refine lv_iadd hx hb dL_law_280 ?_
  refine lv_topi (fun t13 et13 => ?_)
  try have ht13 : t13.toInt = x3.toInt + 2 := z_add et13 rfl (by decide) (by omega -splitDisjunctions) (by omega -splitDisjunctions)
  have hi14 : vp_in t13 L := z_in (i := t13.toInt) rfl (by omega) (by omega)
  refine va_sld hx hb hX hbl hbA hS hi14 dL_law_281 ?_
  rw [show xs t13.toNatClampNeg = t6 from by rw [et6, et13, et4]]
  have hP : va_P D vwCl (w_MOD ca (rs 9) (st 9).1 (st 9).2.1 (st 9).2.2.1 (st 9).2.2.2 (wR9 ca rs (zl zS0 [(st 0), (st 1), (st 2), (st 3), (st 4), (st 5), (st 6), (st 7), (st 8), (st 9)]) rest)) H := hP
  have hD : va_D A (w_MOD ca (rs 9) (st 9).1 (st 9).2.1 (st 9).2.2.1 (st 9).2.2.2 (wR9 ca rs (zl zS0 [(st 0), (st 1), (st 2), (st 3), (st 4), (st 5), (st 6), (st 7), (st 8), (st 9)]) rest)) := hD
  refine z_iV (As := [.int t3, .int t6]) (rest := []) hF (c_X9_rule_R l D ca sa A (wR9 ca rs (zl zS0 [(st 0), (st 1), (st 2), (st 3), (st 4), (st 5), (st 6), (st 7), (st 8), (st 9)]) rest) (rs 9) (st 9).1 (st 9).2.1 (st 9).2.2.1 (st 9).2.2.2 hk0 t3 t6) (cwV 2 hts gL_law_X9_rule rfl rfl rfl (by decide +kernel) ⟨Nat.le_of_ble_eq_true rfl, Nat.le_of_ble_eq_true rfl⟩) hE hP hD hS 9 0 rfl rfl rfl hl.1 rfl (Nat.le_of_ble_eq_true rfl) dL_law_282 ⟨show 119 + 0 ≤ 119 by decide, show 16966 + 0 ≤ 16966 by decide⟩ (fun t16 u15 H locs hw17 hP hD hS => ?_)
  have hw17 : (((0 ≤ t3.toInt ∧ t3.toInt ≤ 3 ∧ 0 ≤ t6.toInt ∧ t6.toInt ≤ 7) ∧ t16 = ((st 9).2.2.1 1) (8 * t3.toNatClampNeg + t6.toNatClampNeg)) ∨ (¬ (0 ≤ t3.toInt ∧ t3.toInt ≤ 3 ∧ 0 ≤ t6.toInt ∧ t6.toInt ≤ 7) ∧ (t16).toInt = -9)) := hw17
  have hq18 := hw17
  have hPD := pc9 ca rs (st 0) (st 1) (st 2) (st 3) (st 4) (st 5) (st 6) (st 7) (st 8) (st 9) (st 9) rest hP hD
  refine lv_pop hx hb dL_law_285 rfl ?_
  refine lv_goto (tgt := 761) hx hb dL_law_286 (by decide) ?_
  have hrl19 : ((st 1).1 0).toInt = ((st 9).1 0).toInt := by omega
  have hrl20 : ((st 0).1 0).toInt = ((st 9).1 10).toInt := by omega
  have hrl21 : zR1 ((st 4).1 0) ((st 9).1 9) ((st 4).2.2.1 0) ((st 4).2.2.1 1) ((st 4).2.2.1 2) ((st 4).2.2.1 3) ((st 4).2.2.1 4) ((st 4).2.2.1 5) ((st 4).2.2.1 6) ((st 4).2.2.1 7) ((st 9).2.2.1 2) ((st 9).2.2.1 3) ((st 9).2.2.1 4) ((st 9).2.2.1 5) ((st 9).2.2.1 6) ((st 9).2.2.1 7) ((st 9).2.2.1 9) ((st 9).2.2.1 8) ((st 4).2.2.2 0) := hR1
  have hrl22 : zR4 ((st 1).2.2.1 0) ((st 9).2.2.1 0) := hR4
  exact kk (zl zS0 [(st 0), (st 1), (st 2), (st 3), (st 4), (st 5), (st 6), (st 7), (st 8), (st 9)]) _ _ ls ⟨hPD.1, hPD.2, hk0, hk1, hk2, hk3, hk4, hk5, hk6, hk7, hk8, hk9, hrl19, hrl20, hrl21, hrl22⟩ hS (lv_sub hl [0, 1, 2, 3] rfl)

set_option maxHeartbeats 8000000 in
set_option maxRecDepth 100000 in
theorem law_5 {p : Program} {e : Env} {s : State} {m : MethodId} {below : List Frame} {meth : Method} {c : Code} (l : Launch) {b L : Nat} {xs : Nat → Int32} (hL : L ≤ 3072) (C0 : lw_At p s m meth c b L xs) {D : va_G} {ca : Nat → ClassId} {sa : Nat → Nat} {A : Nat → Prop} (hbA : ¬ A b) (hE : zE D ca sa A s s.heap) (rs : Nat → Nat → Nat) (rest : va_W) (st : Nat → zS) (x3 : Int32) (hi : 0 ≤ x3.toInt ∧ x3.toInt + 6 ≤ (L : Int)) (H : Heap) (locs : List Loc) (ls : Array Slot) (hZ : zLaw D ca A rs rest st H) (hS : va_S A s.heap H locs) (hl : lv_has ls 4 [(0, .ref b), (1, .ref (rs 0 0)), (2, .ref (rs 9 0)), (3, .int x3)])
    (kk : ∀ (st : Nat → zS) (H : Heap) (locs : List Loc) (ls : Array Slot), zLaw D ca A rs rest st H → va_S A s.heap H locs → lv_has ls 4 [(0, .ref b), (1, .ref (rs 0 0)), (2, .ref (rs 9 0)), (3, .int x3)] → W p l e room_1 s m #[Value.ref b] below meth c H locs 119 16966 (lw_Z below #[Value.ref b] s) (F0 m 761 ls [])) : W p l e room_1 s m #[Value.ref b] below meth c H locs 119 16966 (lw_Z below #[Value.ref b] s) (F0 m 289 ls []) := by
  obtain ⟨hx, hb, hr, hml, hown, hts0, hX, hbl, hlocks, hgv⟩ := C0
  have hts : ∀ w ∈ wsL_law, w.before #[Value.ref b] s = true := fun w h => hts0 w (wsL_law_in w h)
  have hK := hE.1
  have hF : CallFix p m c cL_law 4 s #[Value.ref b] wsL_law RL := ⟨hx, hb, hml, hown, hts⟩
  obtain ⟨hP, hD, hv0, hv1, hv2, hv3, hv4, hv5, hv6, hv7, hv8, hv9, hrel0, hrel1, hR1, hR4⟩ := hZ
  have hk0 := hv0
  obtain ⟨⟨hv0i0, hv0j0⟩, ⟨hv0i1, hv0j1⟩, ⟨hv0i5, hv0j5⟩, ⟨hv0i9, hv0j9⟩, hv0a6, hv0a8, hv0a9, hv0a23, hv0a27, hv0a28, hv0x0, hv0y0⟩ := hv0
  have hk1 := hv1
  have hk2 := hv2
  obtain ⟨hv2i0, hv2j0⟩ := hv2
  have hk3 := hv3
  obtain ⟨⟨hv3i3, hv3j3⟩, hv3x0⟩ := hv3
  have hk4 := hv4
  have hk5 := hv5
  obtain ⟨⟨hv5i0, hv5j0⟩, hv5a6⟩ := hv5
  have hk6 := hv6
  have hk7 := hv7
  obtain ⟨⟨hv7i0, hv7j0⟩, ⟨hv7i4, hv7j4⟩, ⟨hv7i5, hv7j5⟩, ⟨hv7i6, hv7j6⟩, ⟨hv7i7, hv7j7⟩, hv7a3, hv7a4, hv7a5, hv7a6⟩ := hv7
  have hk8 := hv8
  obtain ⟨⟨hv8i0, hv8j0⟩, ⟨hv8i4, hv8j4⟩, ⟨hv8i5, hv8j5⟩, ⟨hv8i6, hv8j6⟩, ⟨hv8i7, hv8j7⟩, hv8a3, hv8a4, hv8a5, hv8a6⟩ := hv8
  have hk9 := hv9
  obtain ⟨⟨hv9i0, hv9j0⟩, ⟨hv9i4, hv9j4⟩, ⟨hv9i5, hv9j5⟩, ⟨hv9i6, hv9j6⟩, ⟨hv9i7, hv9j7⟩, hv9a3, hv9a4, hv9a5, hv9a6⟩ := hv9
  have hnm : ((st 4).1 0).toInt = ((st 9).1 9).toInt := by rw [hR1.1]
  refine lv_aload_n hx hb dL_law_289 rfl (lv_at hl 1 rfl) ?_
  refine lv_aload_n hx hb dL_law_290 rfl (lv_at hl 0 rfl) ?_
  refine lv_iload_n hx hb dL_law_291 rfl (lv_at hl 3 rfl) ?_
  refine lv_iconst (v := 1) hx hb dL_law_292 (by decide) ?_
  refine lv_iadd hx hb dL_law_293 ?_
  refine lv_topi (fun t1 et1 => ?_)
  try have ht1 : t1.toInt = x3.toInt + 1 := z_add et1 rfl (by decide) (by omega -splitDisjunctions) (by omega -splitDisjunctions)
  have hi2 : vp_in t1 L := z_in (i := t1.toInt) rfl (by omega) (by omega)
  refine va_sld hx hb hX hbl hbA hS hi2 dL_law_294 ?_
  refine lv_topi (fun t3 et3 => ?_)
  refine lv_aload_n hx hb dL_law_295 rfl (lv_at hl 0 rfl) ?_
  refine lv_iload_n hx hb dL_law_296 rfl (lv_at hl 3 rfl) ?_
  refine lv_iconst (v := 2) hx hb dL_law_297 (by decide) ?_
  refine lv_iadd hx hb dL_law_298 ?_
  refine lv_topi (fun t4 et4 => ?_)
  try have ht4 : t4.toInt = x3.toInt + 2 := z_add et4 rfl (by decide) (by omega -splitDisjunctions) (by omega -splitDisjunctions)
  have hi5 : vp_in t4 L := z_in (i := t4.toInt) rfl (by omega) (by omega)
  refine va_sld hx hb hX hbl hbA hS hi5 dL_law_299 ?_
  refine lv_topi (fun t6 et6 => ?_)
  refine lv_aload_n hx hb dL_law_300 rfl (lv_at hl 0 rfl) ?_
  refine lv_iload_n hx hb dL_law_301 rfl (lv_at hl 3 rfl) ?_
  refine lv_iconst (v := 3) hx hb dL_law_302 (by decide) ?_
  refine lv_iadd hx hb dL_law_303 ?_
  refine lv_topi (fun t7 et7 => ?_)
  try have ht7 : t7.toInt = x3.toInt + 3 := z_add et7 rfl (by decide) (by omega -splitDisjunctions) (by omega -splitDisjunctions)
  have hi8 : vp_in t7 L := z_in (i := t7.toInt) rfl (by omega) (by omega)
  refine va_sld hx hb hX hbl hbA hS hi8 dL_law_304 ?_
  refine lv_topi (fun t9 et9 => ?_)
  refine lv_aload_n hx hb dL_law_305 rfl (lv_at hl 0 rfl) ?_
  refine lv_iload_n hx hb dL_law_306 rfl (lv_at hl 3 rfl) ?_
  refine lv_iconst (v := 4) hx hb dL_law_307 (by decide) ?_
  refine lv_iadd hx hb dL_law_308 ?_
  refine lv_topi (fun t10 et10 => ?_)
  try have ht10 : t10.toInt = x3.toInt + 4 := z_add et10 rfl (by decide) (by omega -splitDisjunctions) (by omega -splitDisjunctions)
  have hi11 : vp_in t10 L := z_in (i := t10.toInt) rfl (by omega) (by omega)
  refine va_sld hx hb hX hbl hbA hS hi11 dL_law_309 ?_
  refine lv_topi (fun t12 et12 => ?_)
  have hPD9 := pf_0_4 ca rs st rest hP hD
  refine z_iV (As := [.int t3, .int t6, .int t9, .int t12]) (rest := []) hF (c_X8_change_P l D ca sa A (wO_0_4 ca rs st rest) (rs 0) (rs 4) (rs 1 0) (rs 2 0) (rs 3 0) (rs 5 0) (rs 6 0) (rs 7 0) (rs 8 0) (st 0).1 (st 0).2.1 (st 0).2.2.1 (st 0).2.2.2 hk1 (st 4).1 (st 4).2.1 (st 4).2.2.1 (st 4).2.2.2 hk5 t3 t6 t9 t12) (cwV 4 hts gL_law_X8_change rfl rfl rfl (by decide +kernel) ⟨Nat.le_of_ble_eq_true rfl, Nat.le_of_ble_eq_true rfl⟩) hE hPD9.1 hPD9.2 hS 8 0 rfl rfl rfl hl.1 rfl (Nat.le_of_ble_eq_true rfl) dL_law_310 ⟨show 119 + 0 ≤ 119 by decide, show 16966 + 0 ≤ 16966 by decide⟩ (fun t14 u13 H locs hw15 hP hD hS => ?_)
  obtain ⟨⟨im16, lm16, am16, bm16⟩, ⟨im17, lm17, am17, bm17⟩⟩ := u13
  have hokm16 := hw15.1
  have hokm17 := hw15.2.1
  have hw15 : (True) ∧ ((0 ≤ (im17 0).toInt ∧ (im17 0).toInt ≤ 60) ∧ z_rng 0 3 ((st 4).2.2.1 6)) ∧ (((0 ≤ t3.toInt ∧ t3.toInt ≤ 399 ∧ 1 ≤ t6.toInt ∧ t6.toInt ≤ 1073741823 ∧ 1 ≤ t9.toInt ∧ t9.toInt ≤ 20 ∧ (t12.toInt = -1 ∨ (1 ≤ t12.toInt ∧ t12.toInt ≤ 100))) ∧ ((st 4).1 0).toInt < 60 ∧ t14.toInt = ((st 4).1 0).toInt ∧ (im17 0).toInt = ((st 4).1 0).toInt + 1) ∨ (¬ (0 ≤ t3.toInt ∧ t3.toInt ≤ 399 ∧ 1 ≤ t6.toInt ∧ t6.toInt ≤ 1073741823 ∧ 1 ≤ t9.toInt ∧ t9.toInt ≤ 20 ∧ (t12.toInt = -1 ∨ (1 ≤ t12.toInt ∧ t12.toInt ≤ 100))) ∧ t14.toInt = -2 ∧ (im17 0).toInt = ((st 4).1 0).toInt) ∨ ((0 ≤ t3.toInt ∧ t3.toInt ≤ 399 ∧ 1 ≤ t6.toInt ∧ t6.toInt ≤ 1073741823 ∧ 1 ≤ t9.toInt ∧ t9.toInt ≤ 20 ∧ (t12.toInt = -1 ∨ (1 ≤ t12.toInt ∧ t12.toInt ≤ 100))) ∧ ((st 4).1 0).toInt = 60 ∧ t14.toInt = -3 ∧ (im17 0).toInt = ((st 4).1 0).toInt)) ∧ ((t14.toInt < 0 ∧ (im16 0).toInt = ((st 0).1 0).toInt) ∨ (0 ≤ t14.toInt ∧ (im16 0).toInt = -1)) ∧ (((t14).toInt < 0 ∧ (am17 0) = ((st 4).2.2.1 0) ∧ (am17 1) = ((st 4).2.2.1 1) ∧ (am17 2) = ((st 4).2.2.1 2) ∧ (am17 3) = ((st 4).2.2.1 3) ∧ (am17 4) = ((st 4).2.2.1 4) ∧ (am17 5) = ((st 4).2.2.1 5)) ∨ (0 ≤ (t14).toInt ∧ (am17 0) = upd ((st 4).2.2.1 0) (((st 4).1 0)).toNatClampNeg t3 ∧ (am17 1) = upd ((st 4).2.2.1 1) (((st 4).1 0)).toNatClampNeg t6 ∧ (am17 2) = upd ((st 4).2.2.1 2) (((st 4).1 0)).toNatClampNeg t9 ∧ (am17 3) = upd ((st 4).2.2.1 3) (((st 4).1 0)).toNatClampNeg t12 ∧ (am17 4) = upd ((st 4).2.2.1 4) (((st 4).1 0)).toNatClampNeg (-1) ∧ (am17 5) = upd ((st 4).2.2.1 5) (((st 4).1 0)).toNatClampNeg (-1))) := hw15
  obtain ⟨-, ⟨⟨hm17i0, hm17j0⟩, -⟩, hq18, hq19, hq20⟩ := hw15
  have hPD := pb_0_4 ca rs st rest (zx [0] (st 0).1 im16, zx [] (st 0).2.1 lm16, zx [] (st 0).2.2.1 am16, zx [] (st 0).2.2.2 bm16) (zx [0] (st 4).1 im17, zx [] (st 4).2.1 lm17, zx [0, 1, 2, 3, 4, 5] (st 4).2.2.1 am17, zx [1] (st 4).2.2.2 bm17) hP hD
  have hP := hPD.1
  have hD := hPD.2
  refine lv_pop hx hb dL_law_313 rfl ?_
  refine lv_aload_n hx hb dL_law_314 rfl (lv_at hl 2 rfl) ?_
  refine lv_aload_n hx hb dL_law_315 rfl (lv_at hl 0 rfl) ?_
  refine lv_iload_n hx hb dL_law_316 rfl (lv_at hl 3 rfl) ?_
  refine lv_iconst (v := 1) hx hb dL_law_317 (by decide) ?_
  refine lv_iadd hx hb dL_law_318 ?_
  refine lv_topi (fun t21 et21 => ?_)
  try have ht21 : t21.toInt = x3.toInt + 1 := z_add et21 rfl (by decide) (by omega -splitDisjunctions) (by omega -splitDisjunctions)
  have hi22 : vp_in t21 L := z_in (i := t21.toInt) rfl (by omega) (by omega)
  refine va_sld hx hb hX hbl hbA hS hi22 dL_law_319 ?_
  rw [show xs t21.toNatClampNeg = t3 from by rw [et3, et21, et1]]
  refine lv_aload_n hx hb dL_law_320 rfl (lv_at hl 0 rfl) ?_
  refine lv_iload_n hx hb dL_law_321 rfl (lv_at hl 3 rfl) ?_
  refine lv_iconst (v := 2) hx hb dL_law_322 (by decide) ?_
  refine lv_iadd hx hb dL_law_323 ?_
  refine lv_topi (fun t23 et23 => ?_)
  try have ht23 : t23.toInt = x3.toInt + 2 := z_add et23 rfl (by decide) (by omega -splitDisjunctions) (by omega -splitDisjunctions)
  have hi24 : vp_in t23 L := z_in (i := t23.toInt) rfl (by omega) (by omega)
  refine va_sld hx hb hX hbl hbA hS hi24 dL_law_324 ?_
  rw [show xs t23.toNatClampNeg = t6 from by rw [et6, et23, et4]]
  refine lv_aload_n hx hb dL_law_325 rfl (lv_at hl 0 rfl) ?_
  refine lv_iload_n hx hb dL_law_326 rfl (lv_at hl 3 rfl) ?_
  refine lv_iconst (v := 3) hx hb dL_law_327 (by decide) ?_
  refine lv_iadd hx hb dL_law_328 ?_
  refine lv_topi (fun t25 et25 => ?_)
  try have ht25 : t25.toInt = x3.toInt + 3 := z_add et25 rfl (by decide) (by omega -splitDisjunctions) (by omega -splitDisjunctions)
  have hi26 : vp_in t25 L := z_in (i := t25.toInt) rfl (by omega) (by omega)
  refine va_sld hx hb hX hbl hbA hS hi26 dL_law_329 ?_
  rw [show xs t25.toNatClampNeg = t9 from by rw [et9, et25, et7]]
  refine lv_aload_n hx hb dL_law_330 rfl (lv_at hl 0 rfl) ?_
  refine lv_iload_n hx hb dL_law_331 rfl (lv_at hl 3 rfl) ?_
  refine lv_iconst (v := 4) hx hb dL_law_332 (by decide) ?_
  refine lv_iadd hx hb dL_law_333 ?_
  refine lv_topi (fun t27 et27 => ?_)
  try have ht27 : t27.toInt = x3.toInt + 4 := z_add et27 rfl (by decide) (by omega -splitDisjunctions) (by omega -splitDisjunctions)
  have hi28 : vp_in t27 L := z_in (i := t27.toInt) rfl (by omega) (by omega)
  refine va_sld hx hb hX hbl hbA hS hi28 dL_law_334 ?_
  rw [show xs t27.toNatClampNeg = t12 from by rw [et12, et27, et10]]
  have hP : va_P D vwCl (w_MOD ca (rs 9) (st 9).1 (st 9).2.1 (st 9).2.2.1 (st 9).2.2.2 (wR9 ca rs (zl zS0 [(zx [0] (st 0).1 im16, zx [] (st 0).2.1 lm16, zx [] (st 0).2.2.1 am16, zx [] (st 0).2.2.2 bm16), (st 1), (st 2), (st 3), (zx [0] (st 4).1 im17, zx [] (st 4).2.1 lm17, zx [0, 1, 2, 3, 4, 5] (st 4).2.2.1 am17, zx [1] (st 4).2.2.2 bm17), (st 5), (st 6), (st 7), (st 8), (st 9)]) rest)) H := hP
  have hD : va_D A (w_MOD ca (rs 9) (st 9).1 (st 9).2.1 (st 9).2.2.1 (st 9).2.2.2 (wR9 ca rs (zl zS0 [(zx [0] (st 0).1 im16, zx [] (st 0).2.1 lm16, zx [] (st 0).2.2.1 am16, zx [] (st 0).2.2.2 bm16), (st 1), (st 2), (st 3), (zx [0] (st 4).1 im17, zx [] (st 4).2.1 lm17, zx [0, 1, 2, 3, 4, 5] (st 4).2.2.1 am17, zx [1] (st 4).2.2.2 bm17), (st 5), (st 6), (st 7), (st 8), (st 9)]) rest)) := hD
  refine z_iV (As := [.int t3, .int t6, .int t9, .int t12]) (rest := []) hF (c_X9_change_P l D ca sa A (wR9 ca rs (zl zS0 [(zx [0] (st 0).1 im16, zx [] (st 0).2.1 lm16, zx [] (st 0).2.2.1 am16, zx [] (st 0).2.2.2 bm16), (st 1), (st 2), (st 3), (zx [0] (st 4).1 im17, zx [] (st 4).2.1 lm17, zx [0, 1, 2, 3, 4, 5] (st 4).2.2.1 am17, zx [1] (st 4).2.2.2 bm17), (st 5), (st 6), (st 7), (st 8), (st 9)]) rest) (rs 9) (st 9).1 (st 9).2.1 (st 9).2.2.1 (st 9).2.2.2 hk0 t3 t6 t9 t12) (cwV 4 hts gL_law_X9_change rfl rfl rfl (by decide +kernel) ⟨Nat.le_of_ble_eq_true rfl, Nat.le_of_ble_eq_true rfl⟩) hE hP hD hS 9 0 rfl rfl rfl hl.1 rfl (Nat.le_of_ble_eq_true rfl) dL_law_335 ⟨show 119 + 0 ≤ 119 by decide, show 16966 + 0 ≤ 16966 by decide⟩ (fun t30 u29 H locs hw31 hP hD hS => ?_)
  obtain ⟨im32, lm32, am32, bm32⟩ := u29
  have hokm32 := hw31.1
  have hw31 : ((0 ≤ ((st 9).1 0).toInt ∧ ((st 9).1 0).toInt ≤ 600) ∧ (0 ≤ ((st 9).1 1).toInt ∧ ((st 9).1 1).toInt ≤ 600) ∧ (0 ≤ ((st 9).1 5).toInt ∧ ((st 9).1 5).toInt ≤ 600) ∧ (0 ≤ (im32 9).toInt ∧ (im32 9).toInt ≤ 60) ∧ z_rng (-1) 59 (am32 6) ∧ z_rng 0 59 ((st 9).2.2.1 8) ∧ z_rng 0 3 (am32 9) ∧ z_rng 0 269 ((st 9).2.2.1 23) ∧ z_rng 0 5 ((st 9).2.2.1 27) ∧ z_rng 0 59 ((st 9).2.2.1 28) ∧ (((st 9).1 2).toInt = 1 → 0 ≤ ((st 9).1 3).toInt) ∧ zOkR ((st 9).2.2.1 1) ((st 9).2.2.1 27)) ∧ (((0 ≤ t3.toInt ∧ t3.toInt ≤ 399 ∧ 1 ≤ t6.toInt ∧ t6.toInt ≤ 1073741823 ∧ 1 ≤ t9.toInt ∧ t9.toInt ≤ 20 ∧ (t12.toInt = -1 ∨ (1 ≤ t12.toInt ∧ t12.toInt ≤ 100))) ∧ ((st 9).1 9).toInt < 60 ∧ t30.toInt = ((st 9).1 9).toInt ∧ (im32 9).toInt = ((st 9).1 9).toInt + 1) ∨ (¬ (0 ≤ t3.toInt ∧ t3.toInt ≤ 399 ∧ 1 ≤ t6.toInt ∧ t6.toInt ≤ 1073741823 ∧ 1 ≤ t9.toInt ∧ t9.toInt ≤ 20 ∧ (t12.toInt = -1 ∨ (1 ≤ t12.toInt ∧ t12.toInt ≤ 100))) ∧ t30.toInt = -2 ∧ (im32 9).toInt = ((st 9).1 9).toInt) ∨ ((0 ≤ t3.toInt ∧ t3.toInt ≤ 399 ∧ 1 ≤ t6.toInt ∧ t6.toInt ≤ 1073741823 ∧ 1 ≤ t9.toInt ∧ t9.toInt ≤ 20 ∧ (t12.toInt = -1 ∨ (1 ≤ t12.toInt ∧ t12.toInt ≤ 100))) ∧ ((st 9).1 9).toInt = 60 ∧ t30.toInt = -3 ∧ (im32 9).toInt = ((st 9).1 9).toInt)) ∧ ((t30.toInt < 0 ∧ (im32 10).toInt = ((st 9).1 10).toInt) ∨ (0 ≤ t30.toInt ∧ (im32 10).toInt = -1)) ∧ (((t30).toInt < 0 ∧ (am32 2) = ((st 9).2.2.1 2) ∧ (am32 3) = ((st 9).2.2.1 3) ∧ (am32 4) = ((st 9).2.2.1 4) ∧ (am32 5) = ((st 9).2.2.1 5) ∧ (am32 6) = ((st 9).2.2.1 6) ∧ (am32 7) = ((st 9).2.2.1 7) ∧ (am32 9) = ((st 9).2.2.1 9)) ∨ (0 ≤ (t30).toInt ∧ (am32 2) = upd ((st 9).2.2.1 2) (((st 9).1 9)).toNatClampNeg t3 ∧ (am32 3) = upd ((st 9).2.2.1 3) (((st 9).1 9)).toNatClampNeg t6 ∧ (am32 4) = upd ((st 9).2.2.1 4) (((st 9).1 9)).toNatClampNeg t9 ∧ (am32 5) = upd ((st 9).2.2.1 5) (((st 9).1 9)).toNatClampNeg t12 ∧ (am32 6) = upd ((st 9).2.2.1 6) (((st 9).1 9)).toNatClampNeg (-1) ∧ (am32 7) = upd ((st 9).2.2.1 7) (((st 9).1 9)).toNatClampNeg (-1) ∧ (am32 9) = upd ((st 9).2.2.1 9) (((st 9).1 9)).toNatClampNeg 0)) := hw31
  obtain ⟨⟨-, -, -, ⟨hm32i9, hm32j9⟩, hm32a6, -, hm32a9, -, -, -, -, -⟩, hq33, hq34, hq35⟩ := hw31
  have hPD := pc9 ca rs (zx [0] (st 0).1 im16, zx [] (st 0).2.1 lm16, zx [] (st 0).2.2.1 am16, zx [] (st 0).2.2.2 bm16) (st 1) (st 2) (st 3) (zx [0] (st 4).1 im17, zx [] (st 4).2.1 lm17, zx [0, 1, 2, 3, 4, 5] (st 4).2.2.1 am17, zx [1] (st 4).2.2.2 bm17) (st 5) (st 6) (st 7) (st 8) (st 9) (zx [9, 10] (st 9).1 im32, zx [] (st 9).2.1 lm32, zx [2, 3, 4, 5, 6, 7, 9] (st 9).2.2.1 am32, zx [] (st 9).2.2.2 bm32) rest hP hD
  refine lv_pop hx hb dL_law_338 rfl ?_
  refine lv_goto (tgt := 761) hx hb dL_law_339 (by decide) ?_
  have hrl36 : ((st 1).1 0).toInt = ((st 9).1 0).toInt := by omega
  have hrl37 : (im16 0).toInt = (im32 10).toInt := by omega
  have hrl38 : zR1 (im17 0) (im32 9) (am17 0) (am17 1) (am17 2) (am17 3) (am17 4) (am17 5) ((st 4).2.2.1 6) ((st 4).2.2.1 7) (am32 2) (am32 3) (am32 4) (am32 5) (am32 6) (am32 7) (am32 9) ((st 9).2.2.1 8) ((st 4).2.2.2 0) := zR1_change hR1 (by omega) hq18 hq20 hq33 hq35
  have hrl39 : zR4 ((st 1).2.2.1 0) ((st 9).2.2.1 0) := hR4
  exact kk (zl zS0 [(zx [0] (st 0).1 im16, zx [] (st 0).2.1 lm16, zx [] (st 0).2.2.1 am16, zx [] (st 0).2.2.2 bm16), (st 1), (st 2), (st 3), (zx [0] (st 4).1 im17, zx [] (st 4).2.1 lm17, zx [0, 1, 2, 3, 4, 5] (st 4).2.2.1 am17, zx [1] (st 4).2.2.2 bm17), (st 5), (st 6), (st 7), (st 8), (zx [9, 10] (st 9).1 im32, zx [] (st 9).2.1 lm32, zx [2, 3, 4, 5, 6, 7, 9] (st 9).2.2.1 am32, zx [] (st 9).2.2.2 bm32)]) _ _ ls ⟨hPD.1, hPD.2, hokm32, hokm16, hk2, hk3, hk4, hokm17, hk6, hk7, hk8, hk9, hrl36, hrl37, hrl38, hrl39⟩ hS (lv_sub hl [0, 1, 2, 3] rfl)

set_option maxHeartbeats 8000000 in
set_option maxRecDepth 100000 in
theorem law_6 {p : Program} {e : Env} {s : State} {m : MethodId} {below : List Frame} {meth : Method} {c : Code} (l : Launch) {b L : Nat} {xs : Nat → Int32} (hL : L ≤ 3072) (C0 : lw_At p s m meth c b L xs) {D : va_G} {ca : Nat → ClassId} {sa : Nat → Nat} {A : Nat → Prop} (hbA : ¬ A b) (hE : zE D ca sa A s s.heap) (rs : Nat → Nat → Nat) (rest : va_W) (st : Nat → zS) (x3 : Int32) (hi : 0 ≤ x3.toInt ∧ x3.toInt + 6 ≤ (L : Int)) (H : Heap) (locs : List Loc) (ls : Array Slot) (hZ : zLaw D ca A rs rest st H) (hS : va_S A s.heap H locs) (hl : lv_has ls 4 [(0, .ref b), (1, .ref (rs 0 0)), (2, .ref (rs 9 0)), (3, .int x3)])
    (kk : ∀ (st : Nat → zS) (H : Heap) (locs : List Loc) (ls : Array Slot), zLaw D ca A rs rest st H → va_S A s.heap H locs → lv_has ls 4 [(0, .ref b), (1, .ref (rs 0 0)), (2, .ref (rs 9 0)), (3, .int x3)] → W p l e room_1 s m #[Value.ref b] below meth c H locs 119 16966 (lw_Z below #[Value.ref b] s) (F0 m 761 ls [])) : W p l e room_1 s m #[Value.ref b] below meth c H locs 119 16966 (lw_Z below #[Value.ref b] s) (F0 m 342 ls []) := by
  obtain ⟨hx, hb, hr, hml, hown, hts0, hX, hbl, hlocks, hgv⟩ := C0
  have hts : ∀ w ∈ wsL_law, w.before #[Value.ref b] s = true := fun w h => hts0 w (wsL_law_in w h)
  have hK := hE.1
  have hF : CallFix p m c cL_law 4 s #[Value.ref b] wsL_law RL := ⟨hx, hb, hml, hown, hts⟩
  obtain ⟨hP, hD, hv0, hv1, hv2, hv3, hv4, hv5, hv6, hv7, hv8, hv9, hrel0, hrel1, hR1, hR4⟩ := hZ
  have hk0 := hv0
  obtain ⟨⟨hv0i0, hv0j0⟩, ⟨hv0i1, hv0j1⟩, ⟨hv0i5, hv0j5⟩, ⟨hv0i9, hv0j9⟩, hv0a6, hv0a8, hv0a9, hv0a23, hv0a27, hv0a28, hv0x0, hv0y0⟩ := hv0
  have hk1 := hv1
  have hk2 := hv2
  obtain ⟨hv2i0, hv2j0⟩ := hv2
  have hk3 := hv3
  obtain ⟨⟨hv3i3, hv3j3⟩, hv3x0⟩ := hv3
  have hk4 := hv4
  have hk5 := hv5
  obtain ⟨⟨hv5i0, hv5j0⟩, hv5a6⟩ := hv5
  have hk6 := hv6
  have hk7 := hv7
  obtain ⟨⟨hv7i0, hv7j0⟩, ⟨hv7i4, hv7j4⟩, ⟨hv7i5, hv7j5⟩, ⟨hv7i6, hv7j6⟩, ⟨hv7i7, hv7j7⟩, hv7a3, hv7a4, hv7a5, hv7a6⟩ := hv7
  have hk8 := hv8
  obtain ⟨⟨hv8i0, hv8j0⟩, ⟨hv8i4, hv8j4⟩, ⟨hv8i5, hv8j5⟩, ⟨hv8i6, hv8j6⟩, ⟨hv8i7, hv8j7⟩, hv8a3, hv8a4, hv8a5, hv8a6⟩ := hv8
  have hk9 := hv9
  obtain ⟨⟨hv9i0, hv9j0⟩, ⟨hv9i4, hv9j4⟩, ⟨hv9i5, hv9j5⟩, ⟨hv9i6, hv9j6⟩, ⟨hv9i7, hv9j7⟩, hv9a3, hv9a4, hv9a5, hv9a6⟩ := hv9
  have hnm : ((st 4).1 0).toInt = ((st 9).1 9).toInt := by rw [hR1.1]
  refine lv_aload_n hx hb dL_law_342 rfl (lv_at hl 1 rfl) ?_
  refine lv_aload_n hx hb dL_law_343 rfl (lv_at hl 0 rfl) ?_
  refine lv_iload_n hx hb dL_law_344 rfl (lv_at hl 3 rfl) ?_
  refine lv_iconst (v := 1) hx hb dL_law_345 (by decide) ?_
  refine lv_iadd hx hb dL_law_346 ?_
  refine lv_topi (fun t1 et1 => ?_)
  try have ht1 : t1.toInt = x3.toInt + 1 := z_add et1 rfl (by decide) (by omega -splitDisjunctions) (by omega -splitDisjunctions)
  have hi2 : vp_in t1 L := z_in (i := t1.toInt) rfl (by omega) (by omega)
  refine va_sld hx hb hX hbl hbA hS hi2 dL_law_347 ?_
  refine lv_topi (fun t3 et3 => ?_)
  refine lv_aload_n hx hb dL_law_348 rfl (lv_at hl 0 rfl) ?_
  refine lv_iload_n hx hb dL_law_349 rfl (lv_at hl 3 rfl) ?_
  refine lv_iconst (v := 2) hx hb dL_law_350 (by decide) ?_
  refine lv_iadd hx hb dL_law_351 ?_
  refine lv_topi (fun t4 et4 => ?_)
  try have ht4 : t4.toInt = x3.toInt + 2 := z_add et4 rfl (by decide) (by omega -splitDisjunctions) (by omega -splitDisjunctions)
  have hi5 : vp_in t4 L := z_in (i := t4.toInt) rfl (by omega) (by omega)
  refine va_sld hx hb hX hbl hbA hS hi5 dL_law_352 ?_
  refine lv_topi (fun t6 et6 => ?_)
  have hPD9 := pf_0_4 ca rs st rest hP hD
  refine z_iV (As := [.int t3, .int t6]) (rest := []) hF (c_X8_hang_P l D ca sa A (wO_0_4 ca rs st rest) (rs 0) (rs 4) (rs 1 0) (rs 2 0) (rs 3 0) (rs 5 0) (rs 6 0) (rs 7 0) (rs 8 0) (st 0).1 (st 0).2.1 (st 0).2.2.1 (st 0).2.2.2 hk1 (st 4).1 (st 4).2.1 (st 4).2.2.1 (st 4).2.2.2 hk5 t3 t6) (cwV 2 hts gL_law_X8_hang rfl rfl rfl (by decide +kernel) ⟨Nat.le_of_ble_eq_true rfl, Nat.le_of_ble_eq_true rfl⟩) hE hPD9.1 hPD9.2 hS 8 0 rfl rfl rfl hl.1 rfl (Nat.le_of_ble_eq_true rfl) dL_law_353 ⟨show 119 + 0 ≤ 119 by decide, show 16966 + 0 ≤ 16966 by decide⟩ (fun t8 u7 H locs hw9 hP hD hS => ?_)
  obtain ⟨⟨im10, lm10, am10, bm10⟩, ⟨im11, lm11, am11, bm11⟩⟩ := u7
  have hokm10 := hw9.1
  have hokm11 := hw9.2.1
  have hw9 : (True) ∧ ((0 ≤ ((st 4).1 0).toInt ∧ ((st 4).1 0).toInt ≤ 60) ∧ z_rng 0 3 (am11 6)) ∧ (((t8).toInt = -2 ∧ ¬ (0 ≤ t6.toInt ∧ t6.toInt < t3.toInt ∧ t3.toInt < (((st 4).1 0)).toInt) ∧ (am11 6) = ((st 4).2.2.1 6) ∧ (am11 7) = ((st 4).2.2.1 7) ∧ (bm11 0) = ((st 4).2.2.2 0)) ∨ ((0 ≤ t6.toInt ∧ t6.toInt < t3.toInt ∧ t3.toInt < (((st 4).1 0)).toInt) ∧ zBt (((st 4).2.2.2 0) t3.toNatClampNeg) t6 ∧ t8 = ((st 4).2.2.1 6) t3.toNatClampNeg ∧ (am11 6) = ((st 4).2.2.1 6) ∧ (am11 7) = ((st 4).2.2.1 7) ∧ (bm11 0) = ((st 4).2.2.2 0)) ∨ ((0 ≤ t6.toInt ∧ t6.toInt < t3.toInt ∧ t3.toInt < (((st 4).1 0)).toInt) ∧ ¬ zBt (((st 4).2.2.2 0) t3.toNatClampNeg) t6 ∧ (t8).toInt = -3 ∧ 3 ≤ (((st 4).2.2.1 6) t3.toNatClampNeg).toInt ∧ (am11 6) = ((st 4).2.2.1 6) ∧ (am11 7) = ((st 4).2.2.1 7) ∧ (bm11 0) = ((st 4).2.2.2 0)) ∨ ((0 ≤ t6.toInt ∧ t6.toInt < t3.toInt ∧ t3.toInt < (((st 4).1 0)).toInt) ∧ ¬ zBt (((st 4).2.2.2 0) t3.toNatClampNeg) t6 ∧ (((st 4).2.2.1 6) t3.toNatClampNeg).toInt < 3 ∧ (t8).toInt = (((st 4).2.2.1 6) t3.toNatClampNeg).toInt + 1 ∧ (am11 7) = upd ((st 4).2.2.1 7) (3 * t3.toNatClampNeg + (((st 4).2.2.1 6) t3.toNatClampNeg).toNatClampNeg) t6 ∧ (am11 6) = upd ((st 4).2.2.1 6) t3.toNatClampNeg t8 ∧ (bm11 0) = vp_updL ((st 4).2.2.2 0) t3.toNatClampNeg (((st 4).2.2.2 0) t3.toNatClampNeg ||| ((1 : Int64) <<< (t6.toInt64 &&& 63))))) ∧ (((im10 0) = ((st 0).1 0) ∧ (am11 6) = ((st 4).2.2.1 6)) ∨ (((im10 0)).toInt = -1 ∧ ((am11 6) t3.toNatClampNeg).toInt = (((st 4).2.2.1 6) t3.toNatClampNeg).toInt + 1)) := hw9
  obtain ⟨-, ⟨-, hm11a6⟩, hq12, hq13⟩ := hw9
  have hPD := pb_0_4 ca rs st rest (zx [0] (st 0).1 im10, zx [] (st 0).2.1 lm10, zx [] (st 0).2.2.1 am10, zx [] (st 0).2.2.2 bm10) (zx [] (st 4).1 im11, zx [] (st 4).2.1 lm11, zx [6, 7] (st 4).2.2.1 am11, zx [0] (st 4).2.2.2 bm11) hP hD
  have hP := hPD.1
  have hD := hPD.2
  refine lv_pop hx hb dL_law_356 rfl ?_
  refine lv_aload_n hx hb dL_law_357 rfl (lv_at hl 2 rfl) ?_
  refine lv_aload_n hx hb dL_law_358 rfl (lv_at hl 0 rfl) ?_
  refine lv_iload_n hx hb dL_law_359 rfl (lv_at hl 3 rfl) ?_
  refine lv_iconst (v := 1) hx hb dL_law_360 (by decide) ?_
  refine lv_iadd hx hb dL_law_361 ?_
  refine lv_topi (fun t14 et14 => ?_)
  try have ht14 : t14.toInt = x3.toInt + 1 := z_add et14 rfl (by decide) (by omega -splitDisjunctions) (by omega -splitDisjunctions)
  have hi15 : vp_in t14 L := z_in (i := t14.toInt) rfl (by omega) (by omega)
  refine va_sld hx hb hX hbl hbA hS hi15 dL_law_362 ?_
  rw [show xs t14.toNatClampNeg = t3 from by rw [et3, et14, et1]]
  refine lv_aload_n hx hb dL_law_363 rfl (lv_at hl 0 rfl) ?_
  refine lv_iload_n hx hb dL_law_364 rfl (lv_at hl 3 rfl) ?_
  refine lv_iconst (v := 2) hx hb dL_law_365 (by decide) ?_
  refine lv_iadd hx hb dL_law_366 ?_
  refine lv_topi (fun t16 et16 => ?_)
  try have ht16 : t16.toInt = x3.toInt + 2 := z_add et16 rfl (by decide) (by omega -splitDisjunctions) (by omega -splitDisjunctions)
  have hi17 : vp_in t16 L := z_in (i := t16.toInt) rfl (by omega) (by omega)
  refine va_sld hx hb hX hbl hbA hS hi17 dL_law_367 ?_
  rw [show xs t16.toNatClampNeg = t6 from by rw [et6, et16, et4]]
  have hP : va_P D vwCl (w_MOD ca (rs 9) (st 9).1 (st 9).2.1 (st 9).2.2.1 (st 9).2.2.2 (wR9 ca rs (zl zS0 [(zx [0] (st 0).1 im10, zx [] (st 0).2.1 lm10, zx [] (st 0).2.2.1 am10, zx [] (st 0).2.2.2 bm10), (st 1), (st 2), (st 3), (zx [] (st 4).1 im11, zx [] (st 4).2.1 lm11, zx [6, 7] (st 4).2.2.1 am11, zx [0] (st 4).2.2.2 bm11), (st 5), (st 6), (st 7), (st 8), (st 9)]) rest)) H := hP
  have hD : va_D A (w_MOD ca (rs 9) (st 9).1 (st 9).2.1 (st 9).2.2.1 (st 9).2.2.2 (wR9 ca rs (zl zS0 [(zx [0] (st 0).1 im10, zx [] (st 0).2.1 lm10, zx [] (st 0).2.2.1 am10, zx [] (st 0).2.2.2 bm10), (st 1), (st 2), (st 3), (zx [] (st 4).1 im11, zx [] (st 4).2.1 lm11, zx [6, 7] (st 4).2.2.1 am11, zx [0] (st 4).2.2.2 bm11), (st 5), (st 6), (st 7), (st 8), (st 9)]) rest)) := hD
  refine z_iV (As := [.int t3, .int t6]) (rest := []) hF (c_X9_hang_P l D ca sa A (wR9 ca rs (zl zS0 [(zx [0] (st 0).1 im10, zx [] (st 0).2.1 lm10, zx [] (st 0).2.2.1 am10, zx [] (st 0).2.2.2 bm10), (st 1), (st 2), (st 3), (zx [] (st 4).1 im11, zx [] (st 4).2.1 lm11, zx [6, 7] (st 4).2.2.1 am11, zx [0] (st 4).2.2.2 bm11), (st 5), (st 6), (st 7), (st 8), (st 9)]) rest) (rs 9) (st 9).1 (st 9).2.1 (st 9).2.2.1 (st 9).2.2.2 hk0 t3 t6) (cwV 2 hts gL_law_X9_hang rfl rfl rfl (by decide +kernel) ⟨Nat.le_of_ble_eq_true rfl, Nat.le_of_ble_eq_true rfl⟩) hE hP hD hS 9 0 rfl rfl rfl hl.1 rfl (Nat.le_of_ble_eq_true rfl) dL_law_368 ⟨show 119 + 0 ≤ 119 by decide, show 16966 + 0 ≤ 16966 by decide⟩ (fun t19 u18 H locs hw20 hP hD hS => ?_)
  obtain ⟨im21, lm21, am21, bm21⟩ := u18
  have hokm21 := hw20.1
  have hw20 : ((0 ≤ ((st 9).1 0).toInt ∧ ((st 9).1 0).toInt ≤ 600) ∧ (0 ≤ ((st 9).1 1).toInt ∧ ((st 9).1 1).toInt ≤ 600) ∧ (0 ≤ ((st 9).1 5).toInt ∧ ((st 9).1 5).toInt ≤ 600) ∧ (0 ≤ ((st 9).1 9).toInt ∧ ((st 9).1 9).toInt ≤ 60) ∧ z_rng (-1) 59 ((st 9).2.2.1 6) ∧ z_rng 0 59 (am21 8) ∧ z_rng 0 3 (am21 9) ∧ z_rng 0 269 ((st 9).2.2.1 23) ∧ z_rng 0 5 ((st 9).2.2.1 27) ∧ z_rng 0 59 ((st 9).2.2.1 28) ∧ (((st 9).1 2).toInt = 1 → 0 ≤ ((st 9).1 3).toInt) ∧ zOkR ((st 9).2.2.1 1) ((st 9).2.2.1 27)) ∧ (((t19).toInt = -2 ∧ ¬ (0 ≤ t6.toInt ∧ t6.toInt < t3.toInt ∧ t3.toInt < (((st 9).1 9)).toInt) ∧ (am21 9) = ((st 9).2.2.1 9) ∧ (am21 8) = ((st 9).2.2.1 8)) ∨ ((0 ≤ t6.toInt ∧ t6.toInt < t3.toInt ∧ t3.toInt < (((st 9).1 9)).toInt) ∧ zHs ((st 9).2.2.1 8) t3.toNatClampNeg (((st 9).2.2.1 9) t3.toNatClampNeg).toNatClampNeg t6 ∧ t19 = ((st 9).2.2.1 9) t3.toNatClampNeg ∧ (am21 9) = ((st 9).2.2.1 9) ∧ (am21 8) = ((st 9).2.2.1 8)) ∨ ((0 ≤ t6.toInt ∧ t6.toInt < t3.toInt ∧ t3.toInt < (((st 9).1 9)).toInt) ∧ ¬ zHs ((st 9).2.2.1 8) t3.toNatClampNeg (((st 9).2.2.1 9) t3.toNatClampNeg).toNatClampNeg t6 ∧ (t19).toInt = -3 ∧ 3 ≤ (((st 9).2.2.1 9) t3.toNatClampNeg).toInt ∧ (am21 9) = ((st 9).2.2.1 9) ∧ (am21 8) = ((st 9).2.2.1 8)) ∨ ((0 ≤ t6.toInt ∧ t6.toInt < t3.toInt ∧ t3.toInt < (((st 9).1 9)).toInt) ∧ ¬ zHs ((st 9).2.2.1 8) t3.toNatClampNeg (((st 9).2.2.1 9) t3.toNatClampNeg).toNatClampNeg t6 ∧ (((st 9).2.2.1 9) t3.toNatClampNeg).toInt < 3 ∧ (t19).toInt = (((st 9).2.2.1 9) t3.toNatClampNeg).toInt + 1 ∧ (am21 8) = upd ((st 9).2.2.1 8) (3 * t3.toNatClampNeg + (((st 9).2.2.1 9) t3.toNatClampNeg).toNatClampNeg) t6 ∧ (am21 9) = upd ((st 9).2.2.1 9) t3.toNatClampNeg t19)) ∧ (((im21 10) = ((st 9).1 10) ∧ (am21 9) = ((st 9).2.2.1 9)) ∨ (((im21 10)).toInt = -1 ∧ ((am21 9) t3.toNatClampNeg).toInt = (((st 9).2.2.1 9) t3.toNatClampNeg).toInt + 1)) := hw20
  obtain ⟨⟨-, -, -, -, -, hm21a8, hm21a9, -, -, -, -, -⟩, hq22, hq23⟩ := hw20
  have hPD := pc9 ca rs (zx [0] (st 0).1 im10, zx [] (st 0).2.1 lm10, zx [] (st 0).2.2.1 am10, zx [] (st 0).2.2.2 bm10) (st 1) (st 2) (st 3) (zx [] (st 4).1 im11, zx [] (st 4).2.1 lm11, zx [6, 7] (st 4).2.2.1 am11, zx [0] (st 4).2.2.2 bm11) (st 5) (st 6) (st 7) (st 8) (st 9) (zx [10] (st 9).1 im21, zx [] (st 9).2.1 lm21, zx [8, 9] (st 9).2.2.1 am21, zx [] (st 9).2.2.2 bm21) rest hP hD
  have hpl := zR1_hangP hR1.2.2.2.2.2.2.2.1 (zR1_hang hR1 hv5a6 (by omega) hq12 hq22).1.2.2.2.2.2.2.2.1 hrel1 hq13 hq23
  refine lv_pop hx hb dL_law_371 rfl ?_
  refine lv_goto (tgt := 761) hx hb dL_law_372 (by decide) ?_
  have hrl24 : ((st 1).1 0).toInt = ((st 9).1 0).toInt := by omega
  have hrl25 : (im10 0).toInt = (im21 10).toInt := by omega
  have hrl26 : zR1 ((st 4).1 0) ((st 9).1 9) ((st 4).2.2.1 0) ((st 4).2.2.1 1) ((st 4).2.2.1 2) ((st 4).2.2.1 3) ((st 4).2.2.1 4) ((st 4).2.2.1 5) (am11 6) (am11 7) ((st 9).2.2.1 2) ((st 9).2.2.1 3) ((st 9).2.2.1 4) ((st 9).2.2.1 5) ((st 9).2.2.1 6) ((st 9).2.2.1 7) (am21 9) (am21 8) (bm11 0) := (zR1_hang hR1 hv5a6 (by omega) hq12 hq22).1
  have hrl27 : zR4 ((st 1).2.2.1 0) ((st 9).2.2.1 0) := hR4
  exact kk (zl zS0 [(zx [0] (st 0).1 im10, zx [] (st 0).2.1 lm10, zx [] (st 0).2.2.1 am10, zx [] (st 0).2.2.2 bm10), (st 1), (st 2), (st 3), (zx [] (st 4).1 im11, zx [] (st 4).2.1 lm11, zx [6, 7] (st 4).2.2.1 am11, zx [0] (st 4).2.2.2 bm11), (st 5), (st 6), (st 7), (st 8), (zx [10] (st 9).1 im21, zx [] (st 9).2.1 lm21, zx [8, 9] (st 9).2.2.1 am21, zx [] (st 9).2.2.2 bm21)]) _ _ ls ⟨hPD.1, hPD.2, hokm21, hokm10, hk2, hk3, hk4, hokm11, hk6, hk7, hk8, hk9, hrl24, hrl25, hrl26, hrl27⟩ hS (lv_sub hl [0, 1, 2, 3] rfl)

set_option maxHeartbeats 8000000 in
set_option maxRecDepth 100000 in
theorem law_7 {p : Program} {e : Env} {s : State} {m : MethodId} {below : List Frame} {meth : Method} {c : Code} (l : Launch) {b L : Nat} {xs : Nat → Int32} (hL : L ≤ 3072) (C0 : lw_At p s m meth c b L xs) {D : va_G} {ca : Nat → ClassId} {sa : Nat → Nat} {A : Nat → Prop} (hbA : ¬ A b) (hE : zE D ca sa A s s.heap) (rs : Nat → Nat → Nat) (rest : va_W) (st : Nat → zS) (x3 : Int32) (hi : 0 ≤ x3.toInt ∧ x3.toInt + 6 ≤ (L : Int)) (H : Heap) (locs : List Loc) (ls : Array Slot) (hZ : zLaw D ca A rs rest st H) (hS : va_S A s.heap H locs) (hl : lv_has ls 4 [(0, .ref b), (1, .ref (rs 0 0)), (2, .ref (rs 9 0)), (3, .int x3)])
    (kk : ∀ (st : Nat → zS) (H : Heap) (locs : List Loc) (ls : Array Slot), zLaw D ca A rs rest st H → va_S A s.heap H locs → lv_has ls 4 [(0, .ref b), (1, .ref (rs 0 0)), (2, .ref (rs 9 0)), (3, .int x3)] → W p l e room_1 s m #[Value.ref b] below meth c H locs 119 16966 (lw_Z below #[Value.ref b] s) (F0 m 761 ls [])) : W p l e room_1 s m #[Value.ref b] below meth c H locs 119 16966 (lw_Z below #[Value.ref b] s) (F0 m 375 ls []) := by
  obtain ⟨hx, hb, hr, hml, hown, hts0, hX, hbl, hlocks, hgv⟩ := C0
  have hts : ∀ w ∈ wsL_law, w.before #[Value.ref b] s = true := fun w h => hts0 w (wsL_law_in w h)
  have hK := hE.1
  have hF : CallFix p m c cL_law 4 s #[Value.ref b] wsL_law RL := ⟨hx, hb, hml, hown, hts⟩
  obtain ⟨hP, hD, hv0, hv1, hv2, hv3, hv4, hv5, hv6, hv7, hv8, hv9, hrel0, hrel1, hR1, hR4⟩ := hZ
  have hk0 := hv0
  obtain ⟨⟨hv0i0, hv0j0⟩, ⟨hv0i1, hv0j1⟩, ⟨hv0i5, hv0j5⟩, ⟨hv0i9, hv0j9⟩, hv0a6, hv0a8, hv0a9, hv0a23, hv0a27, hv0a28, hv0x0, hv0y0⟩ := hv0
  have hk1 := hv1
  have hk2 := hv2
  obtain ⟨hv2i0, hv2j0⟩ := hv2
  have hk3 := hv3
  obtain ⟨⟨hv3i3, hv3j3⟩, hv3x0⟩ := hv3
  have hk4 := hv4
  have hk5 := hv5
  obtain ⟨⟨hv5i0, hv5j0⟩, hv5a6⟩ := hv5
  have hk6 := hv6
  have hk7 := hv7
  obtain ⟨⟨hv7i0, hv7j0⟩, ⟨hv7i4, hv7j4⟩, ⟨hv7i5, hv7j5⟩, ⟨hv7i6, hv7j6⟩, ⟨hv7i7, hv7j7⟩, hv7a3, hv7a4, hv7a5, hv7a6⟩ := hv7
  have hk8 := hv8
  obtain ⟨⟨hv8i0, hv8j0⟩, ⟨hv8i4, hv8j4⟩, ⟨hv8i5, hv8j5⟩, ⟨hv8i6, hv8j6⟩, ⟨hv8i7, hv8j7⟩, hv8a3, hv8a4, hv8a5, hv8a6⟩ := hv8
  have hk9 := hv9
  obtain ⟨⟨hv9i0, hv9j0⟩, ⟨hv9i4, hv9j4⟩, ⟨hv9i5, hv9j5⟩, ⟨hv9i6, hv9j6⟩, ⟨hv9i7, hv9j7⟩, hv9a3, hv9a4, hv9a5, hv9a6⟩ := hv9
  have hnm : ((st 4).1 0).toInt = ((st 9).1 9).toInt := by rw [hR1.1]
  refine lv_aload_n hx hb dL_law_375 rfl (lv_at hl 1 rfl) ?_
  refine lv_aload_n hx hb dL_law_376 rfl (lv_at hl 0 rfl) ?_
  refine lv_iload_n hx hb dL_law_377 rfl (lv_at hl 3 rfl) ?_
  refine lv_iconst (v := 1) hx hb dL_law_378 (by decide) ?_
  refine lv_iadd hx hb dL_law_379 ?_
  refine lv_topi (fun t1 et1 => ?_)
  try have ht1 : t1.toInt = x3.toInt + 1 := z_add et1 rfl (by decide) (by omega -splitDisjunctions) (by omega -splitDisjunctions)
  have hi2 : vp_in t1 L := z_in (i := t1.toInt) rfl (by omega) (by omega)
  refine va_sld hx hb hX hbl hbA hS hi2 dL_law_380 ?_
  refine lv_topi (fun t3 et3 => ?_)
  refine lv_aload_n hx hb dL_law_381 rfl (lv_at hl 0 rfl) ?_
  refine lv_iload_n hx hb dL_law_382 rfl (lv_at hl 3 rfl) ?_
  refine lv_iconst (v := 2) hx hb dL_law_383 (by decide) ?_
  refine lv_iadd hx hb dL_law_384 ?_
  refine lv_topi (fun t4 et4 => ?_)
  try have ht4 : t4.toInt = x3.toInt + 2 := z_add et4 rfl (by decide) (by omega -splitDisjunctions) (by omega -splitDisjunctions)
  have hi5 : vp_in t4 L := z_in (i := t4.toInt) rfl (by omega) (by omega)
  refine va_sld hx hb hX hbl hbA hS hi5 dL_law_385 ?_
  refine lv_topi (fun t6 et6 => ?_)
  have hPD9 := pf_0_4 ca rs st rest hP hD
  refine z_iV (As := [.int t3, .int t6]) (rest := []) hF (c_X8_fix_P l D ca sa A (wO_0_4 ca rs st rest) (rs 0) (rs 4) (rs 1 0) (rs 2 0) (rs 3 0) (rs 5 0) (rs 6 0) (rs 7 0) (rs 8 0) (st 0).1 (st 0).2.1 (st 0).2.2.1 (st 0).2.2.2 hk1 (st 4).1 (st 4).2.1 (st 4).2.2.1 (st 4).2.2.2 hk5 t3 t6) (cwV 2 hts gL_law_X8_fix rfl rfl rfl (by decide +kernel) ⟨Nat.le_of_ble_eq_true rfl, Nat.le_of_ble_eq_true rfl⟩) hE hPD9.1 hPD9.2 hS 8 0 rfl rfl rfl hl.1 rfl (Nat.le_of_ble_eq_true rfl) dL_law_386 ⟨show 119 + 0 ≤ 119 by decide, show 16966 + 0 ≤ 16966 by decide⟩ (fun t8 u7 H locs hw9 hP hD hS => ?_)
  obtain ⟨⟨im10, lm10, am10, bm10⟩, ⟨im11, lm11, am11, bm11⟩⟩ := u7
  have hokm10 := hw9.1
  have hokm11 := hw9.2.1
  have hw9 : (True) ∧ ((0 ≤ ((st 4).1 0).toInt ∧ ((st 4).1 0).toInt ≤ 60) ∧ z_rng 0 3 ((st 4).2.2.1 6)) ∧ ((t8.toInt < 0 ∧ (im10 0).toInt = ((st 0).1 0).toInt) ∨ (0 ≤ t8.toInt ∧ (im10 0).toInt = -1)) ∧ (((t8).toInt = 1 ∧ (0 ≤ t6.toInt ∧ t6.toInt < t3.toInt ∧ t3.toInt < (((st 4).1 0)).toInt) ∧ (((st 4).2.2.1 3) t6.toNatClampNeg).toInt ≠ -1 ∧ (((st 4).2.2.1 5) t6.toNatClampNeg).toInt = -1 ∧ (((st 4).2.2.1 4) t3.toNatClampNeg).toInt = -1 ∧ (am11 4) = upd ((st 4).2.2.1 4) t3.toNatClampNeg t6 ∧ (am11 5) = upd ((st 4).2.2.1 5) t6.toNatClampNeg t3) ∨ ((t8).toInt = -2 ∧ (¬ (0 ≤ t6.toInt ∧ t6.toInt < t3.toInt ∧ t3.toInt < (((st 4).1 0)).toInt) ∨ ((((st 4).2.2.1 3) t6.toNatClampNeg).toInt = -1 ∨ (((st 4).2.2.1 5) t6.toNatClampNeg).toInt ≠ -1 ∨ (((st 4).2.2.1 4) t3.toNatClampNeg).toInt ≠ -1)) ∧ (am11 4) = ((st 4).2.2.1 4) ∧ (am11 5) = ((st 4).2.2.1 5))) := hw9
  obtain ⟨-, ⟨-, -⟩, hq12, hq13⟩ := hw9
  have hPD := pb_0_4 ca rs st rest (zx [0] (st 0).1 im10, zx [] (st 0).2.1 lm10, zx [] (st 0).2.2.1 am10, zx [] (st 0).2.2.2 bm10) (zx [] (st 4).1 im11, zx [0] (st 4).2.1 lm11, zx [4, 5] (st 4).2.2.1 am11, zx [1] (st 4).2.2.2 bm11) hP hD
  have hP := hPD.1
  have hD := hPD.2
  refine lv_pop hx hb dL_law_389 rfl ?_
  refine lv_aload_n hx hb dL_law_390 rfl (lv_at hl 2 rfl) ?_
  refine lv_aload_n hx hb dL_law_391 rfl (lv_at hl 0 rfl) ?_
  refine lv_iload_n hx hb dL_law_392 rfl (lv_at hl 3 rfl) ?_
  refine lv_iconst (v := 1) hx hb dL_law_393 (by decide) ?_
  refine lv_iadd hx hb dL_law_394 ?_
  refine lv_topi (fun t14 et14 => ?_)
  try have ht14 : t14.toInt = x3.toInt + 1 := z_add et14 rfl (by decide) (by omega -splitDisjunctions) (by omega -splitDisjunctions)
  have hi15 : vp_in t14 L := z_in (i := t14.toInt) rfl (by omega) (by omega)
  refine va_sld hx hb hX hbl hbA hS hi15 dL_law_395 ?_
  rw [show xs t14.toNatClampNeg = t3 from by rw [et3, et14, et1]]
  refine lv_aload_n hx hb dL_law_396 rfl (lv_at hl 0 rfl) ?_
  refine lv_iload_n hx hb dL_law_397 rfl (lv_at hl 3 rfl) ?_
  refine lv_iconst (v := 2) hx hb dL_law_398 (by decide) ?_
  refine lv_iadd hx hb dL_law_399 ?_
  refine lv_topi (fun t16 et16 => ?_)
  try have ht16 : t16.toInt = x3.toInt + 2 := z_add et16 rfl (by decide) (by omega -splitDisjunctions) (by omega -splitDisjunctions)
  have hi17 : vp_in t16 L := z_in (i := t16.toInt) rfl (by omega) (by omega)
  refine va_sld hx hb hX hbl hbA hS hi17 dL_law_400 ?_
  rw [show xs t16.toNatClampNeg = t6 from by rw [et6, et16, et4]]
  have hP : va_P D vwCl (w_MOD ca (rs 9) (st 9).1 (st 9).2.1 (st 9).2.2.1 (st 9).2.2.2 (wR9 ca rs (zl zS0 [(zx [0] (st 0).1 im10, zx [] (st 0).2.1 lm10, zx [] (st 0).2.2.1 am10, zx [] (st 0).2.2.2 bm10), (st 1), (st 2), (st 3), (zx [] (st 4).1 im11, zx [0] (st 4).2.1 lm11, zx [4, 5] (st 4).2.2.1 am11, zx [1] (st 4).2.2.2 bm11), (st 5), (st 6), (st 7), (st 8), (st 9)]) rest)) H := hP
  have hD : va_D A (w_MOD ca (rs 9) (st 9).1 (st 9).2.1 (st 9).2.2.1 (st 9).2.2.2 (wR9 ca rs (zl zS0 [(zx [0] (st 0).1 im10, zx [] (st 0).2.1 lm10, zx [] (st 0).2.2.1 am10, zx [] (st 0).2.2.2 bm10), (st 1), (st 2), (st 3), (zx [] (st 4).1 im11, zx [0] (st 4).2.1 lm11, zx [4, 5] (st 4).2.2.1 am11, zx [1] (st 4).2.2.2 bm11), (st 5), (st 6), (st 7), (st 8), (st 9)]) rest)) := hD
  refine z_iV (As := [.int t3, .int t6]) (rest := []) hF (c_X9_fix_P l D ca sa A (wR9 ca rs (zl zS0 [(zx [0] (st 0).1 im10, zx [] (st 0).2.1 lm10, zx [] (st 0).2.2.1 am10, zx [] (st 0).2.2.2 bm10), (st 1), (st 2), (st 3), (zx [] (st 4).1 im11, zx [0] (st 4).2.1 lm11, zx [4, 5] (st 4).2.2.1 am11, zx [1] (st 4).2.2.2 bm11), (st 5), (st 6), (st 7), (st 8), (st 9)]) rest) (rs 9) (st 9).1 (st 9).2.1 (st 9).2.2.1 (st 9).2.2.2 hk0 t3 t6) (cwV 2 hts gL_law_X9_fix rfl rfl rfl (by decide +kernel) ⟨Nat.le_of_ble_eq_true rfl, Nat.le_of_ble_eq_true rfl⟩) hE hP hD hS 9 0 rfl rfl rfl hl.1 rfl (Nat.le_of_ble_eq_true rfl) dL_law_401 ⟨show 119 + 0 ≤ 119 by decide, show 16966 + 0 ≤ 16966 by decide⟩ (fun t19 u18 H locs hw20 hP hD hS => ?_)
  obtain ⟨im21, lm21, am21, bm21⟩ := u18
  have hokm21 := hw20.1
  have hw20 : ((0 ≤ ((st 9).1 0).toInt ∧ ((st 9).1 0).toInt ≤ 600) ∧ (0 ≤ ((st 9).1 1).toInt ∧ ((st 9).1 1).toInt ≤ 600) ∧ (0 ≤ ((st 9).1 5).toInt ∧ ((st 9).1 5).toInt ≤ 600) ∧ (0 ≤ ((st 9).1 9).toInt ∧ ((st 9).1 9).toInt ≤ 60) ∧ z_rng (-1) 59 (am21 6) ∧ z_rng 0 59 ((st 9).2.2.1 8) ∧ z_rng 0 3 ((st 9).2.2.1 9) ∧ z_rng 0 269 ((st 9).2.2.1 23) ∧ z_rng 0 5 ((st 9).2.2.1 27) ∧ z_rng 0 59 ((st 9).2.2.1 28) ∧ (((st 9).1 2).toInt = 1 → 0 ≤ ((st 9).1 3).toInt) ∧ zOkR ((st 9).2.2.1 1) ((st 9).2.2.1 27)) ∧ ((t19.toInt < 0 ∧ (im21 10).toInt = ((st 9).1 10).toInt) ∨ (0 ≤ t19.toInt ∧ (im21 10).toInt = -1)) ∧ (((t19).toInt = 1 ∧ (0 ≤ t6.toInt ∧ t6.toInt < t3.toInt ∧ t3.toInt < (((st 9).1 9)).toInt) ∧ (((st 9).2.2.1 5) t6.toNatClampNeg).toInt ≠ -1 ∧ (((st 9).2.2.1 7) t6.toNatClampNeg).toInt = -1 ∧ (((st 9).2.2.1 6) t3.toNatClampNeg).toInt = -1 ∧ (am21 6) = upd ((st 9).2.2.1 6) t3.toNatClampNeg t6 ∧ (am21 7) = upd ((st 9).2.2.1 7) t6.toNatClampNeg t3) ∨ ((t19).toInt = -2 ∧ (¬ (0 ≤ t6.toInt ∧ t6.toInt < t3.toInt ∧ t3.toInt < (((st 9).1 9)).toInt) ∨ ((((st 9).2.2.1 5) t6.toNatClampNeg).toInt = -1 ∨ (((st 9).2.2.1 7) t6.toNatClampNeg).toInt ≠ -1 ∨ (((st 9).2.2.1 6) t3.toNatClampNeg).toInt ≠ -1)) ∧ (am21 6) = ((st 9).2.2.1 6) ∧ (am21 7) = ((st 9).2.2.1 7))) := hw20
  obtain ⟨⟨-, -, -, -, hm21a6, -, -, -, -, -, -, -⟩, hq22, hq23⟩ := hw20
  have hPD := pc9 ca rs (zx [0] (st 0).1 im10, zx [] (st 0).2.1 lm10, zx [] (st 0).2.2.1 am10, zx [] (st 0).2.2.2 bm10) (st 1) (st 2) (st 3) (zx [] (st 4).1 im11, zx [0] (st 4).2.1 lm11, zx [4, 5] (st 4).2.2.1 am11, zx [1] (st 4).2.2.2 bm11) (st 5) (st 6) (st 7) (st 8) (st 9) (zx [10] (st 9).1 im21, zx [] (st 9).2.1 lm21, zx [6, 7] (st 9).2.2.1 am21, zx [] (st 9).2.2.2 bm21) rest hP hD
  have hrr := (zR1_fix hR1 hq13 hq23).2
  refine lv_pop hx hb dL_law_404 rfl ?_
  refine lv_goto (tgt := 761) hx hb dL_law_405 (by decide) ?_
  have hrl24 : ((st 1).1 0).toInt = ((st 9).1 0).toInt := by omega
  have hrl25 : (im10 0).toInt = (im21 10).toInt := by omega
  have hrl26 : zR1 ((st 4).1 0) ((st 9).1 9) ((st 4).2.2.1 0) ((st 4).2.2.1 1) ((st 4).2.2.1 2) ((st 4).2.2.1 3) (am11 4) (am11 5) ((st 4).2.2.1 6) ((st 4).2.2.1 7) ((st 9).2.2.1 2) ((st 9).2.2.1 3) ((st 9).2.2.1 4) ((st 9).2.2.1 5) (am21 6) (am21 7) ((st 9).2.2.1 9) ((st 9).2.2.1 8) ((st 4).2.2.2 0) := (zR1_fix hR1 hq13 hq23).1
  have hrl27 : zR4 ((st 1).2.2.1 0) ((st 9).2.2.1 0) := hR4
  exact kk (zl zS0 [(zx [0] (st 0).1 im10, zx [] (st 0).2.1 lm10, zx [] (st 0).2.2.1 am10, zx [] (st 0).2.2.2 bm10), (st 1), (st 2), (st 3), (zx [] (st 4).1 im11, zx [0] (st 4).2.1 lm11, zx [4, 5] (st 4).2.2.1 am11, zx [1] (st 4).2.2.2 bm11), (st 5), (st 6), (st 7), (st 8), (zx [10] (st 9).1 im21, zx [] (st 9).2.1 lm21, zx [6, 7] (st 9).2.2.1 am21, zx [] (st 9).2.2.2 bm21)]) _ _ ls ⟨hPD.1, hPD.2, hokm21, hokm10, hk2, hk3, hk4, hokm11, hk6, hk7, hk8, hk9, hrl24, hrl25, hrl26, hrl27⟩ hS (lv_sub hl [0, 1, 2, 3] rfl)

set_option maxHeartbeats 8000000 in
set_option maxRecDepth 100000 in
theorem law_8 {p : Program} {e : Env} {s : State} {m : MethodId} {below : List Frame} {meth : Method} {c : Code} (l : Launch) {b L : Nat} {xs : Nat → Int32} (hL : L ≤ 3072) (C0 : lw_At p s m meth c b L xs) {D : va_G} {ca : Nat → ClassId} {sa : Nat → Nat} {A : Nat → Prop} (hbA : ¬ A b) (hE : zE D ca sa A s s.heap) (rs : Nat → Nat → Nat) (rest : va_W) (st : Nat → zS) (x3 : Int32) (hi : 0 ≤ x3.toInt ∧ x3.toInt + 6 ≤ (L : Int)) (H : Heap) (locs : List Loc) (ls : Array Slot) (hZ : zLaw D ca A rs rest st H) (hS : va_S A s.heap H locs) (hl : lv_has ls 4 [(0, .ref b), (1, .ref (rs 0 0)), (2, .ref (rs 9 0)), (3, .int x3)])
    (kk : ∀ (st : Nat → zS) (H : Heap) (locs : List Loc) (ls : Array Slot), zLaw D ca A rs rest st H → va_S A s.heap H locs → lv_has ls 4 [(0, .ref b), (1, .ref (rs 0 0)), (2, .ref (rs 9 0)), (3, .int x3)] → W p l e room_1 s m #[Value.ref b] below meth c H locs 119 16966 (lw_Z below #[Value.ref b] s) (F0 m 761 ls [])) : W p l e room_1 s m #[Value.ref b] below meth c H locs 119 16966 (lw_Z below #[Value.ref b] s) (F0 m 408 ls []) := by
  obtain ⟨hx, hb, hr, hml, hown, hts0, hX, hbl, hlocks, hgv⟩ := C0
  have hts : ∀ w ∈ wsL_law, w.before #[Value.ref b] s = true := fun w h => hts0 w (wsL_law_in w h)
  have hK := hE.1
  have hF : CallFix p m c cL_law 4 s #[Value.ref b] wsL_law RL := ⟨hx, hb, hml, hown, hts⟩
  obtain ⟨hP, hD, hv0, hv1, hv2, hv3, hv4, hv5, hv6, hv7, hv8, hv9, hrel0, hrel1, hR1, hR4⟩ := hZ
  have hk0 := hv0
  obtain ⟨⟨hv0i0, hv0j0⟩, ⟨hv0i1, hv0j1⟩, ⟨hv0i5, hv0j5⟩, ⟨hv0i9, hv0j9⟩, hv0a6, hv0a8, hv0a9, hv0a23, hv0a27, hv0a28, hv0x0, hv0y0⟩ := hv0
  have hk1 := hv1
  have hk2 := hv2
  obtain ⟨hv2i0, hv2j0⟩ := hv2
  have hk3 := hv3
  obtain ⟨⟨hv3i3, hv3j3⟩, hv3x0⟩ := hv3
  have hk4 := hv4
  have hk5 := hv5
  obtain ⟨⟨hv5i0, hv5j0⟩, hv5a6⟩ := hv5
  have hk6 := hv6
  have hk7 := hv7
  obtain ⟨⟨hv7i0, hv7j0⟩, ⟨hv7i4, hv7j4⟩, ⟨hv7i5, hv7j5⟩, ⟨hv7i6, hv7j6⟩, ⟨hv7i7, hv7j7⟩, hv7a3, hv7a4, hv7a5, hv7a6⟩ := hv7
  have hk8 := hv8
  obtain ⟨⟨hv8i0, hv8j0⟩, ⟨hv8i4, hv8j4⟩, ⟨hv8i5, hv8j5⟩, ⟨hv8i6, hv8j6⟩, ⟨hv8i7, hv8j7⟩, hv8a3, hv8a4, hv8a5, hv8a6⟩ := hv8
  have hk9 := hv9
  obtain ⟨⟨hv9i0, hv9j0⟩, ⟨hv9i4, hv9j4⟩, ⟨hv9i5, hv9j5⟩, ⟨hv9i6, hv9j6⟩, ⟨hv9i7, hv9j7⟩, hv9a3, hv9a4, hv9a5, hv9a6⟩ := hv9
  have hnm : ((st 4).1 0).toInt = ((st 9).1 9).toInt := by rw [hR1.1]
  refine lv_aload_n hx hb dL_law_408 rfl (lv_at hl 1 rfl) ?_
  refine lv_aload_n hx hb dL_law_409 rfl (lv_at hl 0 rfl) ?_
  refine lv_iload_n hx hb dL_law_410 rfl (lv_at hl 3 rfl) ?_
  refine lv_iconst (v := 1) hx hb dL_law_411 (by decide) ?_
  refine lv_iadd hx hb dL_law_412 ?_
  refine lv_topi (fun t1 et1 => ?_)
  try have ht1 : t1.toInt = x3.toInt + 1 := z_add et1 rfl (by decide) (by omega -splitDisjunctions) (by omega -splitDisjunctions)
  have hi2 : vp_in t1 L := z_in (i := t1.toInt) rfl (by omega) (by omega)
  refine va_sld hx hb hX hbl hbA hS hi2 dL_law_413 ?_
  refine lv_topi (fun t3 et3 => ?_)
  refine lv_aload_n hx hb dL_law_414 rfl (lv_at hl 0 rfl) ?_
  refine lv_iload_n hx hb dL_law_415 rfl (lv_at hl 3 rfl) ?_
  refine lv_iconst (v := 2) hx hb dL_law_416 (by decide) ?_
  refine lv_iadd hx hb dL_law_417 ?_
  refine lv_topi (fun t4 et4 => ?_)
  try have ht4 : t4.toInt = x3.toInt + 2 := z_add et4 rfl (by decide) (by omega -splitDisjunctions) (by omega -splitDisjunctions)
  have hi5 : vp_in t4 L := z_in (i := t4.toInt) rfl (by omega) (by omega)
  refine va_sld hx hb hX hbl hbA hS hi5 dL_law_418 ?_
  refine lv_topi (fun t6 et6 => ?_)
  have hPD9 := pf_0_4 ca rs st rest hP hD
  refine z_iV (As := [.int t3, .int t6]) (rest := []) hF (c_X8_about_R l D ca sa A (wO_0_4 ca rs st rest) (rs 0) (rs 4) (rs 1 0) (rs 2 0) (rs 3 0) (rs 5 0) (rs 6 0) (rs 7 0) (rs 8 0) (st 0).1 (st 0).2.1 (st 0).2.2.1 (st 0).2.2.2 hk1 (st 4).1 (st 4).2.1 (st 4).2.2.1 (st 4).2.2.2 hk5 t3 t6) (cwV 2 hts gL_law_X8_about rfl rfl rfl (by decide +kernel) ⟨Nat.le_of_ble_eq_true rfl, Nat.le_of_ble_eq_true rfl⟩) hE hPD9.1 hPD9.2 hS 8 0 rfl rfl rfl hl.1 rfl (Nat.le_of_ble_eq_true rfl) dL_law_419 ⟨show 119 + 0 ≤ 119 by decide, show 16966 + 0 ≤ 16966 by decide⟩ (fun t8 u7 H locs hw9 hP hD hS => ?_)
  have hw9 : ((0 ≤ t3.toInt ∧ t3.toInt < (((st 4).1 0)).toInt ∧ t8 = zAb ((st 4).2.2.1 0) ((st 4).2.2.1 1) ((st 4).2.2.1 2) ((st 4).2.2.1 3) ((st 4).2.2.1 4) ((st 4).2.2.1 5) ((st 4).2.2.1 6) ((st 4).2.2.1 7) t3 t6) ∨ ((t3.toInt < 0 ∨ (((st 4).1 0)).toInt ≤ t3.toInt) ∧ (t8).toInt = -9)) := hw9
  have hq10 := hw9
  have hPD := pb_0_4 ca rs st rest (st 0) (st 4) hP hD
  have hP := hPD.1
  have hD := hPD.2
  refine lv_pop hx hb dL_law_422 rfl ?_
  refine lv_aload_n hx hb dL_law_423 rfl (lv_at hl 2 rfl) ?_
  refine lv_aload_n hx hb dL_law_424 rfl (lv_at hl 0 rfl) ?_
  refine lv_iload_n hx hb dL_law_425 rfl (lv_at hl 3 rfl) ?_
  refine lv_iconst (v := 1) hx hb dL_law_426 (by decide) ?_
  refine lv_iadd hx hb dL_law_427 ?_
  refine lv_topi (fun t11 et11 => ?_)
  try have ht11 : t11.toInt = x3.toInt + 1 := z_add et11 rfl (by decide) (by omega -splitDisjunctions) (by omega -splitDisjunctions)
  have hi12 : vp_in t11 L := z_in (i := t11.toInt) rfl (by omega) (by omega)
  refine va_sld hx hb hX hbl hbA hS hi12 dL_law_428 ?_
  rw [show xs t11.toNatClampNeg = t3 from by rw [et3, et11, et1]]
  refine lv_aload_n hx hb dL_law_429 rfl (lv_at hl 0 rfl) ?_
  refine lv_iload_n hx hb dL_law_430 rfl (lv_at hl 3 rfl) ?_
  refine lv_iconst (v := 2) hx hb dL_law_431 (by decide) ?_
  refine lv_iadd hx hb dL_law_432 ?_
  refine lv_topi (fun t13 et13 => ?_)
  try have ht13 : t13.toInt = x3.toInt + 2 := z_add et13 rfl (by decide) (by omega -splitDisjunctions) (by omega -splitDisjunctions)
  have hi14 : vp_in t13 L := z_in (i := t13.toInt) rfl (by omega) (by omega)
  refine va_sld hx hb hX hbl hbA hS hi14 dL_law_433 ?_
  rw [show xs t13.toNatClampNeg = t6 from by rw [et6, et13, et4]]
  have hP : va_P D vwCl (w_MOD ca (rs 9) (st 9).1 (st 9).2.1 (st 9).2.2.1 (st 9).2.2.2 (wR9 ca rs (zl zS0 [(st 0), (st 1), (st 2), (st 3), (st 4), (st 5), (st 6), (st 7), (st 8), (st 9)]) rest)) H := hP
  have hD : va_D A (w_MOD ca (rs 9) (st 9).1 (st 9).2.1 (st 9).2.2.1 (st 9).2.2.2 (wR9 ca rs (zl zS0 [(st 0), (st 1), (st 2), (st 3), (st 4), (st 5), (st 6), (st 7), (st 8), (st 9)]) rest)) := hD
  refine z_iV (As := [.int t3, .int t6]) (rest := []) hF (c_X9_about_R l D ca sa A (wR9 ca rs (zl zS0 [(st 0), (st 1), (st 2), (st 3), (st 4), (st 5), (st 6), (st 7), (st 8), (st 9)]) rest) (rs 9) (st 9).1 (st 9).2.1 (st 9).2.2.1 (st 9).2.2.2 hk0 t3 t6) (cwV 2 hts gL_law_X9_about rfl rfl rfl (by decide +kernel) ⟨Nat.le_of_ble_eq_true rfl, Nat.le_of_ble_eq_true rfl⟩) hE hP hD hS 9 0 rfl rfl rfl hl.1 rfl (Nat.le_of_ble_eq_true rfl) dL_law_434 ⟨show 119 + 0 ≤ 119 by decide, show 16966 + 0 ≤ 16966 by decide⟩ (fun t16 u15 H locs hw17 hP hD hS => ?_)
  have hw17 : ((0 ≤ t3.toInt ∧ t3.toInt < (((st 9).1 9)).toInt ∧ t16 = zAb ((st 9).2.2.1 2) ((st 9).2.2.1 3) ((st 9).2.2.1 4) ((st 9).2.2.1 5) ((st 9).2.2.1 6) ((st 9).2.2.1 7) ((st 9).2.2.1 9) ((st 9).2.2.1 8) t3 t6) ∨ ((t3.toInt < 0 ∨ (((st 9).1 9)).toInt ≤ t3.toInt) ∧ (t16).toInt = -9)) := hw17
  have hq18 := hw17
  have hPD := pc9 ca rs (st 0) (st 1) (st 2) (st 3) (st 4) (st 5) (st 6) (st 7) (st 8) (st 9) (st 9) rest hP hD
  refine lv_pop hx hb dL_law_437 rfl ?_
  refine lv_goto (tgt := 761) hx hb dL_law_438 (by decide) ?_
  have hrl19 : ((st 1).1 0).toInt = ((st 9).1 0).toInt := by omega
  have hrl20 : ((st 0).1 0).toInt = ((st 9).1 10).toInt := by omega
  have hrl21 : zR1 ((st 4).1 0) ((st 9).1 9) ((st 4).2.2.1 0) ((st 4).2.2.1 1) ((st 4).2.2.1 2) ((st 4).2.2.1 3) ((st 4).2.2.1 4) ((st 4).2.2.1 5) ((st 4).2.2.1 6) ((st 4).2.2.1 7) ((st 9).2.2.1 2) ((st 9).2.2.1 3) ((st 9).2.2.1 4) ((st 9).2.2.1 5) ((st 9).2.2.1 6) ((st 9).2.2.1 7) ((st 9).2.2.1 9) ((st 9).2.2.1 8) ((st 4).2.2.2 0) := hR1
  have hrl22 : zR4 ((st 1).2.2.1 0) ((st 9).2.2.1 0) := hR4
  exact kk (zl zS0 [(st 0), (st 1), (st 2), (st 3), (st 4), (st 5), (st 6), (st 7), (st 8), (st 9)]) _ _ ls ⟨hPD.1, hPD.2, hk0, hk1, hk2, hk3, hk4, hk5, hk6, hk7, hk8, hk9, hrl19, hrl20, hrl21, hrl22⟩ hS (lv_sub hl [0, 1, 2, 3] rfl)

set_option maxHeartbeats 8000000 in
set_option maxRecDepth 100000 in
theorem law_9 {p : Program} {e : Env} {s : State} {m : MethodId} {below : List Frame} {meth : Method} {c : Code} (l : Launch) {b L : Nat} {xs : Nat → Int32} (hL : L ≤ 3072) (C0 : lw_At p s m meth c b L xs) {D : va_G} {ca : Nat → ClassId} {sa : Nat → Nat} {A : Nat → Prop} (hbA : ¬ A b) (hE : zE D ca sa A s s.heap) (rs : Nat → Nat → Nat) (rest : va_W) (st : Nat → zS) (x3 : Int32) (hi : 0 ≤ x3.toInt ∧ x3.toInt + 6 ≤ (L : Int)) (H : Heap) (locs : List Loc) (ls : Array Slot) (hZ : zLaw D ca A rs rest st H) (hS : va_S A s.heap H locs) (hl : lv_has ls 4 [(0, .ref b), (1, .ref (rs 0 0)), (2, .ref (rs 9 0)), (3, .int x3)])
    (kk : ∀ (st : Nat → zS) (H : Heap) (locs : List Loc) (ls : Array Slot), zLaw D ca A rs rest st H → va_S A s.heap H locs → lv_has ls 4 [(0, .ref b), (1, .ref (rs 0 0)), (2, .ref (rs 9 0)), (3, .int x3)] → W p l e room_1 s m #[Value.ref b] below meth c H locs 119 16966 (lw_Z below #[Value.ref b] s) (F0 m 761 ls [])) : W p l e room_1 s m #[Value.ref b] below meth c H locs 119 16966 (lw_Z below #[Value.ref b] s) (F0 m 441 ls []) := by
  obtain ⟨hx, hb, hr, hml, hown, hts0, hX, hbl, hlocks, hgv⟩ := C0
  have hts : ∀ w ∈ wsL_law, w.before #[Value.ref b] s = true := fun w h => hts0 w (wsL_law_in w h)
  have hK := hE.1
  have hF : CallFix p m c cL_law 4 s #[Value.ref b] wsL_law RL := ⟨hx, hb, hml, hown, hts⟩
  obtain ⟨hP, hD, hv0, hv1, hv2, hv3, hv4, hv5, hv6, hv7, hv8, hv9, hrel0, hrel1, hR1, hR4⟩ := hZ
  have hk0 := hv0
  obtain ⟨⟨hv0i0, hv0j0⟩, ⟨hv0i1, hv0j1⟩, ⟨hv0i5, hv0j5⟩, ⟨hv0i9, hv0j9⟩, hv0a6, hv0a8, hv0a9, hv0a23, hv0a27, hv0a28, hv0x0, hv0y0⟩ := hv0
  have hk1 := hv1
  have hk2 := hv2
  obtain ⟨hv2i0, hv2j0⟩ := hv2
  have hk3 := hv3
  obtain ⟨⟨hv3i3, hv3j3⟩, hv3x0⟩ := hv3
  have hk4 := hv4
  have hk5 := hv5
  obtain ⟨⟨hv5i0, hv5j0⟩, hv5a6⟩ := hv5
  have hk6 := hv6
  have hk7 := hv7
  obtain ⟨⟨hv7i0, hv7j0⟩, ⟨hv7i4, hv7j4⟩, ⟨hv7i5, hv7j5⟩, ⟨hv7i6, hv7j6⟩, ⟨hv7i7, hv7j7⟩, hv7a3, hv7a4, hv7a5, hv7a6⟩ := hv7
  have hk8 := hv8
  obtain ⟨⟨hv8i0, hv8j0⟩, ⟨hv8i4, hv8j4⟩, ⟨hv8i5, hv8j5⟩, ⟨hv8i6, hv8j6⟩, ⟨hv8i7, hv8j7⟩, hv8a3, hv8a4, hv8a5, hv8a6⟩ := hv8
  have hk9 := hv9
  obtain ⟨⟨hv9i0, hv9j0⟩, ⟨hv9i4, hv9j4⟩, ⟨hv9i5, hv9j5⟩, ⟨hv9i6, hv9j6⟩, ⟨hv9i7, hv9j7⟩, hv9a3, hv9a4, hv9a5, hv9a6⟩ := hv9
  have hnm : ((st 4).1 0).toInt = ((st 9).1 9).toInt := by rw [hR1.1]
  refine lv_aload_n hx hb dL_law_441 rfl (lv_at hl 1 rfl) ?_
  refine lv_aload_n hx hb dL_law_442 rfl (lv_at hl 0 rfl) ?_
  refine lv_iload_n hx hb dL_law_443 rfl (lv_at hl 3 rfl) ?_
  refine lv_iconst (v := 1) hx hb dL_law_444 (by decide) ?_
  refine lv_iadd hx hb dL_law_445 ?_
  refine lv_topi (fun t1 et1 => ?_)
  try have ht1 : t1.toInt = x3.toInt + 1 := z_add et1 rfl (by decide) (by omega -splitDisjunctions) (by omega -splitDisjunctions)
  have hi2 : vp_in t1 L := z_in (i := t1.toInt) rfl (by omega) (by omega)
  refine va_sld hx hb hX hbl hbA hS hi2 dL_law_446 ?_
  refine lv_topi (fun t3 et3 => ?_)
  have hPD9 := pf_0_3_6_4 ca rs st rest hP hD
  refine z_iV (As := [.int t3]) (rest := []) hF (c_X8_play_P l D ca sa A (wO_0_3_6_4 ca rs st rest) (rs 0) (rs 3) (rs 6) (rs 4) (rs 1 0) (rs 2 0) (rs 5 0) (rs 7 0) (rs 8 0) (st 0).1 (st 0).2.1 (st 0).2.2.1 (st 0).2.2.2 hk1 (st 3).1 (st 3).2.1 (st 3).2.2.1 (st 3).2.2.2 hk4 (st 6).1 (st 6).2.1 (st 6).2.2.1 (st 6).2.2.2 hk7 (st 4).1 (st 4).2.1 (st 4).2.2.1 (st 4).2.2.2 hk5 t3) (cwV 1 hts gL_law_X8_play rfl rfl rfl (by decide +kernel) ⟨Nat.le_of_ble_eq_true rfl, Nat.le_of_ble_eq_true rfl⟩) hE hPD9.1 hPD9.2 hS 8 0 rfl rfl rfl hl.1 rfl (Nat.le_of_ble_eq_true rfl) dL_law_447 ⟨show 119 + 0 ≤ 119 by decide, show 16966 + 0 ≤ 16966 by decide⟩ (fun t5 u4 H locs hw6 hP hD hS => ?_)
  obtain ⟨⟨im7, lm7, am7, bm7⟩, ⟨im8, lm8, am8, bm8⟩⟩ := u4
  have hokm7 := hw6.1
  have hokm8 := hw6.2.1
  have hw6 : (True) ∧ ((0 ≤ (im8 0).toInt ∧ (im8 0).toInt ≤ 1) ∧ (0 ≤ (im8 4).toInt ∧ (im8 4).toInt ≤ 60) ∧ (0 ≤ (im8 5).toInt ∧ (im8 5).toInt ≤ 60) ∧ (0 ≤ (im8 6).toInt ∧ (im8 6).toInt ≤ 60) ∧ (0 ≤ (im8 7).toInt ∧ (im8 7).toInt ≤ 259) ∧ z_rng 0 60 (am8 3) ∧ z_rng 0 59 (am8 4) ∧ z_rng 0 59 (am8 5) ∧ z_rng 0 59 (am8 6)) ∧ (((0 ≤ t3.toInt ∧ t3.toInt ≤ 3) ∧ (im7 0).toInt = t3.toInt) ∨ (¬ (0 ≤ t3.toInt ∧ t3.toInt ≤ 3) ∧ (im7 0).toInt = ((st 0).1 0).toInt)) := hw6
  obtain ⟨-, ⟨⟨hm8i0, hm8j0⟩, ⟨hm8i4, hm8j4⟩, ⟨hm8i5, hm8j5⟩, ⟨hm8i6, hm8j6⟩, ⟨hm8i7, hm8j7⟩, hm8a3, hm8a4, hm8a5, hm8a6⟩, hq9⟩ := hw6
  have hPD := pb_0_3_6_4 ca rs st rest (zx [0] (st 0).1 im7, zx [] (st 0).2.1 lm7, zx [] (st 0).2.2.1 am7, zx [] (st 0).2.2.2 bm7) (st 3) (im8, lm8, am8, bm8) (st 4) hP hD
  have hP := hPD.1
  have hD := hPD.2
  refine lv_pop hx hb dL_law_450 rfl ?_
  refine lv_aload_n hx hb dL_law_451 rfl (lv_at hl 2 rfl) ?_
  refine lv_aload_n hx hb dL_law_452 rfl (lv_at hl 0 rfl) ?_
  refine lv_iload_n hx hb dL_law_453 rfl (lv_at hl 3 rfl) ?_
  refine lv_iconst (v := 1) hx hb dL_law_454 (by decide) ?_
  refine lv_iadd hx hb dL_law_455 ?_
  refine lv_topi (fun t10 et10 => ?_)
  try have ht10 : t10.toInt = x3.toInt + 1 := z_add et10 rfl (by decide) (by omega -splitDisjunctions) (by omega -splitDisjunctions)
  have hi11 : vp_in t10 L := z_in (i := t10.toInt) rfl (by omega) (by omega)
  refine va_sld hx hb hX hbl hbA hS hi11 dL_law_456 ?_
  rw [show xs t10.toNatClampNeg = t3 from by rw [et3, et10, et1]]
  have hP : va_P D vwCl (w_MOD ca (rs 9) (st 9).1 (st 9).2.1 (st 9).2.2.1 (st 9).2.2.2 (wR9 ca rs (zl zS0 [(zx [0] (st 0).1 im7, zx [] (st 0).2.1 lm7, zx [] (st 0).2.2.1 am7, zx [] (st 0).2.2.2 bm7), (st 1), (st 2), (st 3), (st 4), (st 5), (im8, lm8, am8, bm8), (st 7), (st 8), (st 9)]) rest)) H := hP
  have hD : va_D A (w_MOD ca (rs 9) (st 9).1 (st 9).2.1 (st 9).2.2.1 (st 9).2.2.2 (wR9 ca rs (zl zS0 [(zx [0] (st 0).1 im7, zx [] (st 0).2.1 lm7, zx [] (st 0).2.2.1 am7, zx [] (st 0).2.2.2 bm7), (st 1), (st 2), (st 3), (st 4), (st 5), (im8, lm8, am8, bm8), (st 7), (st 8), (st 9)]) rest)) := hD
  refine z_iV (As := [.int t3]) (rest := []) hF (c_X9_play_P l D ca sa A (wR9 ca rs (zl zS0 [(zx [0] (st 0).1 im7, zx [] (st 0).2.1 lm7, zx [] (st 0).2.2.1 am7, zx [] (st 0).2.2.2 bm7), (st 1), (st 2), (st 3), (st 4), (st 5), (im8, lm8, am8, bm8), (st 7), (st 8), (st 9)]) rest) (rs 9) (st 9).1 (st 9).2.1 (st 9).2.2.1 (st 9).2.2.2 hk0 t3) (cwV 1 hts gL_law_X9_play rfl rfl rfl (by decide +kernel) ⟨Nat.le_of_ble_eq_true rfl, Nat.le_of_ble_eq_true rfl⟩) hE hP hD hS 9 0 rfl rfl rfl hl.1 rfl (Nat.le_of_ble_eq_true rfl) dL_law_457 ⟨show 119 + 0 ≤ 119 by decide, show 16966 + 0 ≤ 16966 by decide⟩ (fun t13 u12 H locs hw14 hP hD hS => ?_)
  obtain ⟨im15, lm15, am15, bm15⟩ := u12
  have hokm15 := hw14.1
  have hw14 : ((0 ≤ ((st 9).1 0).toInt ∧ ((st 9).1 0).toInt ≤ 600) ∧ (0 ≤ ((st 9).1 1).toInt ∧ ((st 9).1 1).toInt ≤ 600) ∧ (0 ≤ ((st 9).1 5).toInt ∧ ((st 9).1 5).toInt ≤ 600) ∧ (0 ≤ ((st 9).1 9).toInt ∧ ((st 9).1 9).toInt ≤ 60) ∧ z_rng (-1) 59 ((st 9).2.2.1 6) ∧ z_rng 0 59 ((st 9).2.2.1 8) ∧ z_rng 0 3 ((st 9).2.2.1 9) ∧ z_rng 0 269 (am15 23) ∧ z_rng 0 5 (am15 27) ∧ z_rng 0 59 (am15 28) ∧ (((st 9).1 2).toInt = 1 → 0 ≤ ((st 9).1 3).toInt) ∧ zOkR ((st 9).2.2.1 1) (am15 27)) ∧ (((0 ≤ t3.toInt ∧ t3.toInt ≤ 3) ∧ (im15 10).toInt = t3.toInt) ∨ (¬ (0 ≤ t3.toInt ∧ t3.toInt ≤ 3) ∧ (im15 10).toInt = ((st 9).1 10).toInt)) := hw14
  obtain ⟨⟨-, -, -, -, -, -, -, hm15a23, hm15a27, hm15a28, -, hm15y0⟩, hq16⟩ := hw14
  have hPD := pc9 ca rs (zx [0] (st 0).1 im7, zx [] (st 0).2.1 lm7, zx [] (st 0).2.2.1 am7, zx [] (st 0).2.2.2 bm7) (st 1) (st 2) (st 3) (st 4) (st 5) (im8, lm8, am8, bm8) (st 7) (st 8) (st 9) (zx [10] (st 9).1 im15, zx [] (st 9).2.1 lm15, zx [10, 11, 12, 13, 14, 15, 16, 17, 18, 19, 20, 21, 22, 23, 24, 25, 26, 27, 28] (st 9).2.2.1 am15, zx [0, 1, 2] (st 9).2.2.2 bm15) rest hP hD
  refine lv_pop hx hb dL_law_460 rfl ?_
  refine lv_goto (tgt := 761) hx hb dL_law_461 (by decide) ?_
  have hrl17 : ((st 1).1 0).toInt = ((st 9).1 0).toInt := by omega
  have hrl18 : (im7 0).toInt = (im15 10).toInt := by omega
  have hrl19 : zR1 ((st 4).1 0) ((st 9).1 9) ((st 4).2.2.1 0) ((st 4).2.2.1 1) ((st 4).2.2.1 2) ((st 4).2.2.1 3) ((st 4).2.2.1 4) ((st 4).2.2.1 5) ((st 4).2.2.1 6) ((st 4).2.2.1 7) ((st 9).2.2.1 2) ((st 9).2.2.1 3) ((st 9).2.2.1 4) ((st 9).2.2.1 5) ((st 9).2.2.1 6) ((st 9).2.2.1 7) ((st 9).2.2.1 9) ((st 9).2.2.1 8) ((st 4).2.2.2 0) := hR1
  have hrl20 : zR4 ((st 1).2.2.1 0) ((st 9).2.2.1 0) := hR4
  exact kk (zl zS0 [(zx [0] (st 0).1 im7, zx [] (st 0).2.1 lm7, zx [] (st 0).2.2.1 am7, zx [] (st 0).2.2.2 bm7), (st 1), (st 2), (st 3), (st 4), (st 5), (im8, lm8, am8, bm8), (st 7), (st 8), (zx [10] (st 9).1 im15, zx [] (st 9).2.1 lm15, zx [10, 11, 12, 13, 14, 15, 16, 17, 18, 19, 20, 21, 22, 23, 24, 25, 26, 27, 28] (st 9).2.2.1 am15, zx [0, 1, 2] (st 9).2.2.2 bm15)]) _ _ ls ⟨hPD.1, hPD.2, hokm15, hokm7, hk2, hk3, hk4, hk5, hk6, hokm8, hk8, hk9, hrl17, hrl18, hrl19, hrl20⟩ hS (lv_sub hl [0, 1, 2, 3] rfl)
