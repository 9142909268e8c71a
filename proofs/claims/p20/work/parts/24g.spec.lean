/-! ===== Int32 by its bits: bt x i ===== -/
def bt (x : Int32) (i : Nat) : Bool := x.toBitVec.getLsbD i
theorem b_ext {x y : Int32} (h : ∀ i, i < 32 → bt x i = bt y i) : x = y := Int32.toBitVec_inj.mp (BitVec.eq_of_getLsbD_eq (fun i hi => h i hi))
theorem b_or (x y : Int32) (i : Nat) : bt (x ||| y) i = (bt x i || bt y i) := by unfold bt; rw [Int32.toBitVec_or, BitVec.getLsbD_or]
theorem b_and (x y : Int32) (i : Nat) : bt (x &&& y) i = (bt x i && bt y i) := by unfold bt; rw [Int32.toBitVec_and, BitVec.getLsbD_and]
theorem b_xor (x y : Int32) (i : Nat) : bt (x ^^^ y) i = (bt x i ^^ bt y i) := by unfold bt; rw [Int32.toBitVec_xor, BitVec.getLsbD_xor]
theorem b_big {x : Int32} {i : Nat} (h : 32 ≤ i) : bt x i = false := BitVec.getLsbD_of_ge _ _ h
theorem b_255 (i : Nat) : bt 255 i = decide (i < 8) := by
  rcases Nat.lt_or_ge i 32 with h | h
  · exact (by decide +kernel : ∀ i, i < 32 → bt 255 i = decide (i < 8)) i h
  · rw [b_big h, decide_eq_false (by omega)]
theorem b_65535 (i : Nat) : bt 65535 i = decide (i < 16) := by
  rcases Nat.lt_or_ge i 32 with h | h
  · exact (by decide +kernel : ∀ i, i < 32 → bt 65535 i = decide (i < 16)) i h
  · rw [b_big h, decide_eq_false (by omega)]
theorem b_m1 : ∀ i, i < 32 → bt (-1) i = true := by decide +kernel
theorem b_0 (i : Nat) : bt 0 i = false := BitVec.getLsbD_zero
theorem s_l : ∀ n, n < 32 → ((nI n &&& 31).toBitVec.smod 32).toNat = n := by decide +kernel
theorem s_u : ∀ n, n < 32 → (((nI n).toUInt32 &&& Int32.toUInt32 31).toBitVec % 32).toNat = n := by decide +kernel
theorem b_shl (n : Nat) (hn : n < 32) (x : Int32) {i : Nat} (hi : i < 32) : bt (x <<< (nI n &&& 31)) i = (decide (n ≤ i) && bt x (i - n)) := by
  unfold bt
  rw [Int32.toBitVec_shiftLeft]
  show (x.toBitVec <<< ((nI n &&& 31).toBitVec.smod 32).toNat).getLsbD i = _
  rw [s_l n hn, BitVec.getLsbD_shiftLeft]
  rcases Nat.lt_or_ge i n with h | h
  · simp [h, Nat.not_le.mpr h]
  · simp [hi, h, Nat.not_lt.mpr h]
theorem b_ushr (n : Nat) (hn : n < 32) (x : Int32) (i : Nat) : bt ((x.toUInt32 >>> ((nI n).toUInt32 &&& Int32.toUInt32 31)).toInt32) i = bt x (n + i) := by
  show (x.toUInt32 >>> ((nI n).toUInt32 &&& Int32.toUInt32 31)).toBitVec.getLsbD i = x.toUInt32.toBitVec.getLsbD (n + i)
  rw [UInt32.toBitVec_shiftRight]
  show (x.toUInt32.toBitVec >>> (((nI n).toUInt32 &&& Int32.toUInt32 31).toBitVec % 32).toNat).getLsbD i = _
  rw [s_u n hn, BitVec.getLsbD_ushiftRight]
theorem b_sshr (n : Nat) (hn : n < 32) (x : Int32) {i : Nat} (hi : i < 32) : bt (x >>> (nI n &&& 31)) i = if n + i < 32 then bt x (n + i) else bt x 31 := by
  unfold bt
  rw [Int32.toBitVec_shiftRight]
  show (x.toBitVec.sshiftRight ((nI n &&& 31).toBitVec.smod 32).toNat).getLsbD i = _
  rw [s_l n hn, BitVec.getLsbD_sshiftRight, BitVec.msb_eq_getLsbD_last]
  simp [hi]
theorem b_shl8 (x : Int32) {i : Nat} (hi : i < 32) : bt (x <<< ((8 : Int32) &&& 31)) i = (decide (8 ≤ i) && bt x (i - 8)) := b_shl 8 (by omega) x hi
theorem b_shl16 (x : Int32) {i : Nat} (hi : i < 32) : bt (x <<< ((16 : Int32) &&& 31)) i = (decide (16 ≤ i) && bt x (i - 16)) := b_shl 16 (by omega) x hi
theorem b_shl24 (x : Int32) {i : Nat} (hi : i < 32) : bt (x <<< ((24 : Int32) &&& 31)) i = (decide (24 ≤ i) && bt x (i - 24)) := b_shl 24 (by omega) x hi
theorem b_sshr8 (x : Int32) {i : Nat} (hi : i < 32) : bt (x >>> ((8 : Int32) &&& 31)) i = if 8 + i < 32 then bt x (8 + i) else bt x 31 := b_sshr 8 (by omega) x hi
def zBy (v s : Int32) : Int32 := (v >>> (s &&& 31)).toInt8.toInt32
theorem zBy_u (v : Int32) {s : Int32} (h : s.toInt = 24 ∨ s.toInt = 16 ∨ s.toInt = 8 ∨ s.toInt = 0) : ((v.toUInt32 >>> (s.toUInt32 &&& Int32.toUInt32 31)).toInt32).toInt8.toInt32 = zBy v s := by
  have q : ∃ n : Nat, n < 25 ∧ s = nI n := by
    rcases h with h | h | h | h
    · exact ⟨24, by omega, Int32.toInt_inj.mp (by rw [h]; decide)⟩
    · exact ⟨16, by omega, Int32.toInt_inj.mp (by rw [h]; decide)⟩
    · exact ⟨8, by omega, Int32.toInt_inj.mp (by rw [h]; decide)⟩
    · exact ⟨0, by omega, Int32.toInt_inj.mp (by rw [h]; decide)⟩
  obtain ⟨n, hn, rfl⟩ := q
  unfold zBy
  congr 1
  apply Int8.toBitVec_inj.1
  apply BitVec.eq_of_getLsbD_eq
  intro i hi
  rw [Int32.toBitVec_toInt8, Int32.toBitVec_toInt8, BitVec.getLsbD_signExtend, BitVec.getLsbD_signExtend, if_pos (show i < 32 by omega), if_pos (show i < 32 by omega)]
  have a := b_ushr n (by omega) v i
  have b := b_sshr n (by omega) v (i := i) (by omega)
  rw [if_pos (by omega)] at b
  unfold bt at a b
  rw [a, b]
theorem zNb (x : Int32) : vp_nar .byte x.toInt8.toInt32 = x.toInt8.toInt32 := lg_i2b_small (lg_i2b_range x).1 (lg_i2b_range x).2
theorem zBy_r (v s : Int32) : -128 ≤ (zBy v s).toInt ∧ (zBy v s).toInt ≤ 127 := ⟨(lg_i2b_range _).1, by have q : (zBy v s).toInt < 128 := (lg_i2b_range _).2; omega⟩
/-- four bytes behind L, j of them -/
def zAp (b : Nat → Int32) (L : Nat) (v : Int32) : Nat → Nat → Int32
  | 0 => b
  | j + 1 => upd (zAp b L v j) (L + j) (zBy v (nI (24 - 8 * j)))
theorem zAp_s (b : Nat → Int32) (L : Nat) (v : Int32) (j : Nat) : zAp b L v (j + 1) = upd (zAp b L v j) (L + j) (zBy v (nI (24 - 8 * j))) := rfl
def zFd (b : Nat → Int32) (L : Nat) (vs : Nat → Int32) : Nat → Nat → Int32
  | 0 => b
  | i + 1 => zAp (zFd b L vs i) (L + 4 * i) (vs i) 4
theorem zFd_s (b : Nat → Int32) (L : Nat) (vs : Nat → Int32) (i : Nat) : zFd b L vs (i + 1) = zAp (zFd b L vs i) (L + 4 * i) (vs i) 4 := rfl
def zVs (a b c d e : Int32) (i : Nat) : Int32 := if i = 0 then a else if i = 1 then b else if i = 2 then c else if i = 3 then d else e
def zBr (f : Nat → Int32) : Prop := ∀ j : Nat, -128 ≤ (f j).toInt ∧ (f j).toInt ≤ 127
theorem zBr_u {f : Nat → Int32} (h : zBr f) (k : Nat) {x : Int32} (hx : -128 ≤ x.toInt ∧ x.toInt ≤ 127) : zBr (upd f k x) := fun j => by
  unfold upd
  split
  · exact hx
  · exact h j
theorem zAp_r {b : Nat → Int32} (h : zBr b) (L : Nat) (v : Int32) : ∀ j : Nat, zBr (zAp b L v j)
  | 0 => h
  | j + 1 => zBr_u (zAp_r h L v j) _ (zBy_r _ _)
theorem zFd_r {b : Nat → Int32} (h : zBr b) (L : Nat) (vs : Nat → Int32) : ∀ i : Nat, zBr (zFd b L vs i)
  | 0 => h
  | i + 1 => zAp_r (zFd_r h L vs i) _ _ _
theorem zB255 : ∀ t : Nat, t < 256 → ((nI t).toInt8.toInt32 &&& 255) = nI t := by decide +kernel
/-- a byte read unsigned -/
theorem z_see {x y : Int32} (e : y = x &&& 255) (h : -128 ≤ x.toInt ∧ x.toInt ≤ 127) : (0 ≤ x.toInt ∧ y.toInt = x.toInt) ∨ (x.toInt < 0 ∧ 128 ≤ y.toInt ∧ y.toInt ≤ 255) := by
  have hx : x.toInt8.toInt32 = x := lg_i2b_small h.1 (by omega)
  have q : ∀ t : Nat, t < 256 → (nI t).toInt8.toInt32.toInt = if t < 128 then (t : Int) else (t : Int) - 256 := by decide +kernel
  have w : ∃ t : Nat, t < 256 ∧ x = (nI t).toInt8.toInt32 := by
    refine ⟨(if 0 ≤ x.toInt then x.toInt else x.toInt + 256).toNat, by split <;> omega, ?_⟩
    apply Int32.toInt_inj.mp
    rw [q _ (by split <;> omega)]
    split <;> split <;> omega
  obtain ⟨t, ht, rfl⟩ := w
  rw [zB255 t ht] at e
  have hy : y.toInt = (t : Int) := by rw [e]; exact nI_toInt (by omega)
  rw [q t ht, hy]
  split <;> omega
def zWS : List Nat := [0, 6, 12, 17, 23, 30, 37, 41, 46, 51, 57, 61]
def zWL : List Nat := [5, 5, 4, 5, 6, 6, 3, 4, 4, 5, 3, 0]
def zws (w : Nat) : Nat := zWS.getD w 0
def zwl (w : Nat) : Nat := zWL.getD w 0
theorem zw_1 : ∀ w : Nat, w < 11 → 0 < zwl w ∧ 97 ≤ (zWb.getD (zws w) 0).toInt ∧ (zWb.getD (zws w) 0).toInt ≤ 122 := by decide +kernel
theorem zw_2 : ∀ w : Nat, w < 11 → ∀ n : Nat, n < 8 → n ≤ zwl w → ((zWb.getD (zws w + n) 0).toInt = 32 ↔ n = zwl w) := by decide +kernel
theorem zw_3 : ∀ w : Nat, w < 11 → zws (w + 1) = zws w + zwl w + 1 ∧ zws w + zwl w ≤ 60 ∧ zwl w < 8 := by decide +kernel
theorem zw_4 : ∀ k : Nat, k < 61 → 32 ≤ (zWb.getD k 0).toInt ∧ (zWb.getD k 0).toInt ≤ 122 := by decide +kernel
theorem zw_5 : zws 11 = 61 ∧ zwl 11 = 0 ∧ zws 0 = 0 := by decide +kernel
/-- the word w stands from p to q -/
def zWd (f : Nat → Int32) (p q w : Nat) : Prop := q = p + zwl w ∧ ∀ i : Nat, i < zwl w → f (p + i) = zWb.getD (zws w + i) 0
def zWr (f : Nat → Int32) (p q : Nat) (r : Int) : Prop := (r = -1 ∧ ∀ w : Nat, w < 11 → ¬ zWd f p q w) ∨ (∃ w : Nat, w < 11 ∧ r = (w : Int) ∧ zWd f p q w ∧ ∀ v : Nat, v < w → ¬ zWd f p q v)
theorem zWr_u {f : Nat → Int32} {p q : Nat} {r r2 : Int} (h : zWr f p q r) (h2 : zWr f p q r2) : r = r2 := by
  rcases h with ⟨a, b⟩ | ⟨w, a, b, c, d⟩ <;> rcases h2 with ⟨a2, b2⟩ | ⟨w2, a2, b2, c2, d2⟩
  · omega
  · exact absurd c2 (b w2 a2)
  · exact absurd c (b2 w a)
  · rcases Nat.lt_trichotomy w w2 with t | t | t
    · exact absurd c (d2 w t)
    · omega
    · exact absurd c2 (d w2 t)
theorem zWr_r {f : Nat → Int32} {p q : Nat} {r : Int} (h : zWr f p q r) : -1 ≤ r ∧ r ≤ 10 := by
  rcases h with ⟨a, b⟩ | ⟨w, a, b, c, d⟩ <;> omega
theorem zWr_n {f : Nat → Int32} {p : Nat} (q : Nat) (h : ¬ zLt (f p)) : zWr f p q (-1) := Or.inl ⟨rfl, fun w hw hd => h (by
  obtain ⟨a, b, c⟩ := zw_1 w hw
  have e := hd.2 0 a
  rw [Nat.add_zero, Nat.add_zero] at e
  unfold zLt
  rw [e]
  exact ⟨b, c⟩)⟩
/-- the class's walk over the words -/
def zWi (f : Nat → Int32) (p q : Nat) (word at_ same k : Int) : Prop := ∃ w n : Nat, w ≤ 11 ∧ word = (w : Int) ∧ k = (zws w : Int) + (n : Int) ∧ n ≤ zwl w ∧ at_ = (p : Int) + (n : Int) ∧ ((same = 1 ∧ ∀ i : Nat, i < n → p + i < q ∧ f (p + i) = zWb.getD (zws w + i) 0) ∨ (same = 0 ∧ ∃ i : Nat, i < n ∧ ¬ (p + i < q ∧ f (p + i) = zWb.getD (zws w + i) 0))) ∧ ∀ v : Nat, v < w → ¬ zWd f p q v
theorem zWi_0 (f : Nat → Int32) (p q : Nat) : zWi f p q 0 p 1 0 := ⟨0, 0, by omega, rfl, by rw [zw_5.2.2]; rfl, by omega, by omega, Or.inl ⟨rfl, fun i hi => absurd hi (by omega)⟩, fun v hv => absurd hv (by omega)⟩
theorem zWi_k {f : Nat → Int32} {p q w n : Nat} {k : Int} (hw : w ≤ 11) (hk : k = (zws w : Int) + (n : Int)) (hn : n ≤ zwl w) (h : k < 61) : w < 11 := by
  rcases (show w < 11 ∨ w = 11 by omega) with a | a
  · exact a
  · subst a
    rw [zw_5.1] at hk
    omega
theorem zWi_c {f : Nat → Int32} {p q : Nat} {word at_ same same' k : Int} (h : zWi f p q word at_ same k) (hk : k < 61) (hc : (zWb.getD k.toNat 0).toInt ≠ 32) (hs : (same' = 1 ∧ same = 1 ∧ at_ < q ∧ f at_.toNat = zWb.getD k.toNat 0) ∨ (same' = 0 ∧ ¬ (same = 1 ∧ at_ < q ∧ f at_.toNat = zWb.getD k.toNat 0))) : zWi f p q word (at_ + 1) same' (k + 1) := by
  obtain ⟨w, n, hw, e1, e2, hn, e3, hm, hv⟩ := h
  have hw := zWi_k (f := f) (p := p) (q := q) hw e2 hn hk
  have ek : k.toNat = zws w + n := by omega
  have ea : at_.toNat = p + n := by omega
  rw [ek] at hc hs
  rw [ea] at hs
  have h2 := zw_2 w hw n (by have := (zw_3 w hw).2.2; omega) hn
  refine ⟨w, n + 1, by omega, e1, by omega, by
    rcases (show n < zwl w ∨ n = zwl w by omega) with q9 | q9
    · omega
    · exact absurd (h2.mpr q9) hc, by omega, ?_, hv⟩
  rcases hs with ⟨s1, s2, s3, s4⟩ | ⟨s1, s2⟩
  · left
    refine ⟨s1, fun i hi => ?_⟩
    rcases hm with ⟨_, m⟩ | ⟨m, _⟩
    · rcases (show i < n ∨ i = n by omega) with q9 | q9
      · exact m i q9
      · subst q9
        exact ⟨by omega, s4⟩
    · omega
  · right
    refine ⟨s1, ?_⟩
    rcases hm with ⟨m0, m⟩ | ⟨m0, i, hi, m⟩
    · exact ⟨n, by omega, fun q9 => s2 ⟨m0, by omega, q9.2⟩⟩
    · exact ⟨i, by omega, m⟩
theorem zWi_h {f : Nat → Int32} {p q : Nat} {word at_ same k : Int} (h : zWi f p q word at_ same k) (hk : k < 61) (hc : (zWb.getD k.toNat 0).toInt = 32) (hs : same = 1) (ha : at_ = (q : Int)) : zWr f p q word := by
  obtain ⟨w, n, hw, e1, e2, hn, e3, hm, hv⟩ := h
  have hw := zWi_k (f := f) (p := p) (q := q) hw e2 hn hk
  rw [show k.toNat = zws w + n by omega] at hc
  have h2 := (zw_2 w hw n (by have := (zw_3 w hw).2.2; omega) hn).mp hc
  subst h2
  rcases hm with ⟨_, m⟩ | ⟨m, _⟩
  · exact Or.inr ⟨w, hw, e1, ⟨by omega, fun i hi => (m i hi).2⟩, hv⟩
  · omega
theorem zWi_m {f : Nat → Int32} {p q : Nat} {word at_ same k : Int} (h : zWi f p q word at_ same k) (hk : k < 61) (hc : (zWb.getD k.toNat 0).toInt = 32) (hs : ¬ (same = 1 ∧ at_ = (q : Int))) : zWi f p q (word + 1) p 1 (k + 1) := by
  obtain ⟨w, n, hw, e1, e2, hn, e3, hm, hv⟩ := h
  have hw := zWi_k (f := f) (p := p) (q := q) hw e2 hn hk
  rw [show k.toNat = zws w + n by omega] at hc
  have h2 := (zw_2 w hw n (by have := (zw_3 w hw).2.2; omega) hn).mp hc
  subst h2
  refine ⟨w + 1, 0, by omega, by omega, by rw [(zw_3 w hw).1]; omega, by omega, by omega, Or.inl ⟨rfl, fun i hi => absurd hi (by omega)⟩, fun v hv9 => ?_⟩
  rcases (show v < w ∨ v = w by omega) with q9 | q9
  · exact hv v q9
  · subst q9
    intro hd
    rcases hm with ⟨m0, m⟩ | ⟨m0, i, hi, m⟩
    · exact hs ⟨m0, by have := hd.1; omega⟩
    · exact m ⟨by have := hd.1; omega, hd.2 i hi⟩
theorem zWi_e {f : Nat → Int32} {p q : Nat} {word at_ same k : Int} (h : zWi f p q word at_ same k) (hk : 61 ≤ k) : zWr f p q (-1) := by
  obtain ⟨w, n, hw, e1, e2, hn, e3, hm, hv⟩ := h
  rcases (show w < 11 ∨ w = 11 by omega) with a | a
  · have := (zw_3 w a).2.1
    omega
  · subst a
    exact Or.inl ⟨rfl, hv⟩
/-- the reference's -/
def zKi (f : Nat → Int32) (p q : Nat) (word from_ k : Int) : Prop := ∃ w n : Nat, w ≤ 11 ∧ word = (w : Int) ∧ from_ = (zws w : Int) ∧ k = (zws w : Int) + (n : Int) ∧ n ≤ zwl w ∧ ∀ v : Nat, v < w → ¬ zWd f p q v
def zKj (f : Nat → Int32) (p : Nat) (na from_ k same i : Int) : Prop := (same = 1 ∧ k - from_ = na ∧ ∀ j : Nat, j < i.toNat → f (p + j) = zWb.getD (from_.toNat + j) 0) ∨ (same = 0 ∧ (k - from_ ≠ na ∨ ∃ j : Nat, (j : Int) < na ∧ f (p + j) ≠ zWb.getD (from_.toNat + j) 0))
theorem zKi_0 (f : Nat → Int32) (p q : Nat) : zKi f p q 0 0 0 := ⟨0, 0, by omega, rfl, by rw [zw_5.2.2]; rfl, by rw [zw_5.2.2]; rfl, by omega, fun v hv => absurd hv (by omega)⟩
theorem zKi_c {f : Nat → Int32} {p q : Nat} {word from_ k : Int} (h : zKi f p q word from_ k) (hk : k < 61) (hc : (zWb.getD k.toNat 0).toInt ≠ 32) : zKi f p q word from_ (k + 1) := by
  obtain ⟨w, n, hw, e1, e3, e2, hn, hv⟩ := h
  have hw := zWi_k (f := f) (p := p) (q := q) hw e2 hn hk
  rw [show k.toNat = zws w + n by omega] at hc
  have h2 := zw_2 w hw n (by have := (zw_3 w hw).2.2; omega) hn
  refine ⟨w, n + 1, by omega, e1, e3, by omega, ?_, hv⟩
  rcases (show n < zwl w ∨ n = zwl w by omega) with q9 | q9
  · omega
  · exact absurd (h2.mpr q9) hc
theorem zKj_s {f : Nat → Int32} {p : Nat} {na from_ k same' i : Int} (h : zKj f p na from_ k 1 i) (hi : 0 ≤ i ∧ i < na) (hs : (same' = 1 ∧ f (p + i.toNat) = zWb.getD (from_.toNat + i.toNat) 0) ∨ (same' = 0 ∧ f (p + i.toNat) ≠ zWb.getD (from_.toNat + i.toNat) 0)) : zKj f p na from_ k same' (i + 1) := by
  rcases h with ⟨_, a, b⟩ | ⟨a, _⟩
  · rcases hs with ⟨s1, s2⟩ | ⟨s1, s2⟩
    · refine Or.inl ⟨s1, a, fun j hj => ?_⟩
      rcases (show j < i.toNat ∨ j = i.toNat by omega) with q9 | q9
      · exact b j q9
      · rw [q9]; exact s2
    · exact Or.inr ⟨s1, Or.inr ⟨i.toNat, by omega, s2⟩⟩
  · omega
theorem zKi_h {f : Nat → Int32} {p q : Nat} {word from_ k na i : Int} (h : zKi f p q word from_ k) (hk : k < 61) (hc : (zWb.getD k.toNat 0).toInt = 32) (hj : zKj f p na from_ k 1 i) (hi : na ≤ i) (hq : (q : Int) = (p : Int) + na) : zWr f p q word := by
  obtain ⟨w, n, hw, e1, e3, e2, hn, hv⟩ := h
  have hw := zWi_k (f := f) (p := p) (q := q) hw e2 hn hk
  rw [show k.toNat = zws w + n by omega] at hc
  have h2 := (zw_2 w hw n (by have := (zw_3 w hw).2.2; omega) hn).mp hc
  subst h2
  rcases hj with ⟨_, a, b⟩ | ⟨a, _⟩
  · refine Or.inr ⟨w, hw, e1, ⟨by omega, fun j hj9 => ?_⟩, hv⟩
    have := b j (by omega)
    rw [this, show from_.toNat = zws w by omega]
  · omega
theorem zKi_m {f : Nat → Int32} {p q : Nat} {word from_ k na i : Int} (h : zKi f p q word from_ k) (hk : k < 61) (hc : (zWb.getD k.toNat 0).toInt = 32) (hj : zKj f p na from_ k 0 i) (hq : (q : Int) = (p : Int) + na) : zKi f p q (word + 1) (k + 1) (k + 1) := by
  obtain ⟨w, n, hw, e1, e3, e2, hn, hv⟩ := h
  have hw := zWi_k (f := f) (p := p) (q := q) hw e2 hn hk
  rw [show k.toNat = zws w + n by omega] at hc
  have h2 := (zw_2 w hw n (by have := (zw_3 w hw).2.2; omega) hn).mp hc
  subst h2
  refine ⟨w + 1, 0, by omega, by omega, by rw [(zw_3 w hw).1]; omega, by rw [(zw_3 w hw).1]; omega, by omega, fun v hv9 => ?_⟩
  rcases (show v < w ∨ v = w by omega) with q9 | q9
  · exact hv v q9
  · subst q9
    intro hd
    rcases hj with ⟨a, _⟩ | ⟨_, a⟩
    · omega
    · rcases a with a | ⟨j, hj9, a⟩
      · have := hd.1
        omega
      · have e9 := hd.1
        have := hd.2 j (by omega)
        rw [show zws v = from_.toNat by omega] at this
        exact a this
theorem zKi_e {f : Nat → Int32} {p q : Nat} {word from_ k : Int} (h : zKi f p q word from_ k) (hk : 61 ≤ k) : zWr f p q (-1) := by
  obtain ⟨w, n, hw, e1, e3, e2, hn, hv⟩ := h
  rcases (show w < 11 ∨ w = 11 by omega) with a | a
  · have := (zw_3 w a).2.1
    omega
  · subst a
    exact Or.inl ⟨rfl, hv⟩
def zTb (td w : Int32) : Prop := ¬ ((td.toUInt32 >>> (w.toUInt32 &&& Int32.toUInt32 31)).toInt32 &&& 1).toInt = 0
def zTs (td w : Int32) : Int32 := td ||| ((1 : Int32) <<< (w &&& 31))
def zLo (r : Int) : Int := if r = 0 then 2 else if r = 1 ∨ r = 3 ∨ r = 6 then 1 else 0
def zHi (r : Int) : Int := if r = 0 then 100 else if r = 3 ∨ r = 5 then 9 else 50
def zIb (r v : Int) : Prop := zLo r ≤ v ∧ v ≤ zHi r
def zMd (aw lr : Int32) : Int := if aw.toInt = 1 then 10 + lr.toInt else aw.toInt
def zTo (f : Nat → Int32) (p q : Nat) (md : Int) (td : Int32) (ln : Int) (R : Nat → Int32) (fk md' : Int) (td' : Int32) (ln' : Int) (R' : Nat → Int32) : Prop :=
  (md = 0 ∧ ∃ w : Int32, zWr f p q w.toInt ∧ ((¬ (0 ≤ w.toInt ∧ w.toInt < 8) ∧ fk = 1) ∨ (0 ≤ w.toInt ∧ w.toInt < 8 ∧ zTb td w ∧ fk = 3) ∨ (0 ≤ w.toInt ∧ w.toInt < 8 ∧ ¬ zTb td w ∧ fk = 0 ∧ ((w.toInt = 7 ∧ md' = 2) ∨ (w.toInt < 7 ∧ md' = 10 + w.toInt)) ∧ td' = zTs td w ∧ ln' = ln ∧ R' = R))) ∨
  (10 ≤ md ∧ ((¬ (zDg (f p) ∧ (q : Int) - (p : Int) ≤ 3) ∧ fk = 1) ∨ (zDg (f p) ∧ (q : Int) - (p : Int) ≤ 3 ∧ ¬ zIb (md - 10) (zVal f p (q - p)) ∧ fk = 2) ∨ (zDg (f p) ∧ (q : Int) - (p : Int) ≤ 3 ∧ zIb (md - 10) (zVal f p (q - p)) ∧ fk = 0 ∧ md' = 3 ∧ td' = td ∧ ln' = ln ∧ ∃ x : Int32, x.toInt = zVal f p (q - p) ∧ R' = upd R (md - 10).toNat x))) ∨
  (md = 2 ∧ ∃ w : Int32, zWr f p q w.toInt ∧ ((w.toInt < 8 ∧ fk = 1) ∨ (8 ≤ w.toInt ∧ fk = 0 ∧ md' = 3 ∧ td' = td ∧ ln' = ln ∧ ∃ x : Int32, x.toInt = w.toInt - 8 ∧ R' = upd R 7 x))) ∨
  (md = 3 ∧ ((¬ (f p).toInt = 59 ∧ fk = 1) ∨ ((f p).toInt = 59 ∧ fk = 0 ∧ md' = 0 ∧ td' = td ∧ ln' = ln + 1 ∧ R' = R)))
def zEn (n md ln : Int) (R : Nat → Int32) (fk fp l : Int) (R' : Nat → Int32) : Prop := (md ≠ 0 ∧ fk = 1 ∧ fp = n) ∨ (md = 0 ∧ (R 0).toInt ≤ (R 1).toInt ∧ fk = 4 ∧ fp = n) ∨ (md = 0 ∧ (R 1).toInt < (R 0).toInt ∧ fk = 0 ∧ fp = -1 ∧ l = ln ∧ R' = R)
def zRd (f : Nat → Int32) (n : Int) : Nat → Nat → Int → Int32 → Int → (Nat → Int32) → Int → Int → Int → (Nat → Int32) → Prop
  | 0, _, _, _, _, _, _, _, _, _ => False
  | k + 1, p, md, td, ln, R, fk, fp, l, R' => (n ≤ (p : Int) ∧ zEn n md ln R fk fp l R') ∨ ((p : Int) < n ∧ ∃ (q : Nat) (fk1 md1 : Int) (td1 : Int32) (ln1 : Int) (R1 : Nat → Int32), zTk f n p q ∧ zTo f p q md td ln R fk1 md1 td1 ln1 R1 ∧ ((fk1 ≠ 0 ∧ fk = fk1 ∧ fp = (p : Int)) ∨ (fk1 = 0 ∧ ∃ r : Nat, zRun zBk f n q r ∧ zRd f n k r md1 td1 ln1 R1 fk fp l R')))
def zRe (f : Nat → Int32) (n : Int) (p : Nat) (md : Int) (td : Int32) (ln : Int) (R : Nat → Int32) (fk fp l : Int) (R' : Nat → Int32) : Prop := ∃ k : Nat, zRd f n k p md td ln R fk fp l R'
theorem zRe_e {f : Nat → Int32} {n : Int} {p : Nat} {md : Int} {td : Int32} {ln : Int} {R : Nat → Int32} {fk fp l : Int} {R' : Nat → Int32} (h : n ≤ (p : Int)) (h2 : zEn n md ln R fk fp l R') : zRe f n p md td ln R fk fp l R' := ⟨1, Or.inl ⟨h, h2⟩⟩
theorem zRe_b {f : Nat → Int32} {n : Int} {p q : Nat} {md : Int} {td : Int32} {ln : Int} {R : Nat → Int32} {fk l : Int} {R' : Nat → Int32} {md1 : Int} {td1 : Int32} {ln1 : Int} {R1 : Nat → Int32} (h : (p : Int) < n) (hk : zTk f n p q) (ht : zTo f p q md td ln R fk md1 td1 ln1 R1) (hb : fk ≠ 0) : zRe f n p md td ln R fk p l R' := ⟨1, Or.inr ⟨h, q, fk, md1, td1, ln1, R1, hk, ht, Or.inl ⟨hb, rfl, rfl⟩⟩⟩
theorem zRe_g {f : Nat → Int32} {n : Int} {p q r : Nat} {md : Int} {td : Int32} {ln : Int} {R : Nat → Int32} {fk fp l : Int} {R' : Nat → Int32} {md1 : Int} {td1 : Int32} {ln1 : Int} {R1 : Nat → Int32} (h : (p : Int) < n) (hk : zTk f n p q) (hr : zRun zBk f n q r) (ht : zTo f p q md td ln R 0 md1 td1 ln1 R1) (hg : zRe f n r md1 td1 ln1 R1 fk fp l R') : zRe f n p md td ln R fk fp l R' := by
  obtain ⟨k, hk9⟩ := hg
  exact ⟨k + 1, Or.inr ⟨h, q, 0, md1, td1, ln1, R1, hk, ht, Or.inr ⟨rfl, r, hr, hk9⟩⟩⟩
theorem zR8 {R S : Nat → Int32} (h : ∀ i : Nat, i < 8 → R i = S i) (k : Nat) {x y : Int32} (e : x.toInt = y.toInt) : ∀ i : Nat, i < 8 → upd R k x i = upd S k y i := fun i hi => by
  rw [Int32.toInt_inj.mp e]
  unfold upd
  split
  · rfl
  · exact h i hi
theorem zTo_u {f : Nat → Int32} {p q : Nat} {md : Int} {td : Int32} {ln : Int} {R S : Nat → Int32} {fk md1 : Int} {td1 : Int32} {ln1 : Int} {R1 : Nat → Int32} {fk2 md2 : Int} {td2 : Int32} {ln2 : Int} {S2 : Nat → Int32} (h : zTo f p q md td ln R fk md1 td1 ln1 R1) (h2 : zTo f p q md td ln S fk2 md2 td2 ln2 S2) (hR : ∀ i : Nat, i < 8 → R i = S i) : fk = fk2 ∧ (fk = 0 → md1 = md2 ∧ td1 = td2 ∧ ln1 = ln2 ∧ ∀ i : Nat, i < 8 → R1 i = S2 i) := by
  rcases h with ⟨m, w, a, b⟩ | ⟨m, b⟩ | ⟨m, w, a, b⟩ | ⟨m, b⟩
  · rcases h2 with ⟨_, w2, a2, b2⟩ | ⟨m2, _⟩ | ⟨m2, _⟩ | ⟨m2, _⟩
    · have e : w = w2 := Int32.toInt_inj.mp (zWr_u a a2)
      subst e
      rcases b with ⟨b0, c⟩ | ⟨b0, b1, b3, c⟩ | ⟨b0, b1, b3, c, d⟩
      · rcases b2 with ⟨x0, y⟩ | ⟨x0, x1, x3, y⟩ | ⟨x0, x1, x3, y, z⟩
        · exact ⟨by omega, fun q9 => by omega⟩
        · exact absurd ⟨x0, x1⟩ b0
        · exact absurd ⟨x0, x1⟩ b0
      · rcases b2 with ⟨x0, y⟩ | ⟨x0, x1, x3, y⟩ | ⟨x0, x1, x3, y, z⟩
        · exact absurd ⟨b0, b1⟩ x0
        · exact ⟨by omega, fun q9 => by omega⟩
        · exact absurd b3 x3
      · rcases b2 with ⟨x0, y⟩ | ⟨x0, x1, x3, y⟩ | ⟨x0, x1, x3, y, z⟩
        · exact absurd ⟨b0, b1⟩ x0
        · exact absurd x3 b3
        · obtain ⟨d1, d2, d3, d4⟩ := d
          obtain ⟨z1, z2, z3, z4⟩ := z
          subst d4
          subst z4
          exact ⟨by omega, fun _ => ⟨by omega, by rw [d2, z2], by omega, hR⟩⟩
    · omega
    · omega
    · omega
  · rcases h2 with ⟨m2, _⟩ | ⟨_, b2⟩ | ⟨m2, _⟩ | ⟨m2, _⟩
    · omega
    · rcases b with ⟨b0, c⟩ | ⟨b0, b1, b3, c⟩ | ⟨b0, b1, b3, c, d⟩
      · rcases b2 with ⟨x0, y⟩ | ⟨x0, x1, x3, y⟩ | ⟨x0, x1, x3, y, z⟩
        · exact ⟨by omega, fun q9 => by omega⟩
        · exact absurd ⟨x0, x1⟩ b0
        · exact absurd ⟨x0, x1⟩ b0
      · rcases b2 with ⟨x0, y⟩ | ⟨x0, x1, x3, y⟩ | ⟨x0, x1, x3, y, z⟩
        · exact absurd ⟨b0, b1⟩ x0
        · exact ⟨by omega, fun q9 => by omega⟩
        · exact absurd x3 b3
      · rcases b2 with ⟨x0, y⟩ | ⟨x0, x1, x3, y⟩ | ⟨x0, x1, x3, y, z⟩
        · exact absurd ⟨b0, b1⟩ x0
        · exact absurd b3 x3
        · obtain ⟨d1, d2, d3, x, dx, d4⟩ := d
          obtain ⟨z1, z2, z3, x5, zx, z4⟩ := z
          subst d4
          subst z4
          exact ⟨by omega, fun _ => ⟨by omega, by rw [d2, z2], by omega, zR8 hR _ (by omega)⟩⟩
    · omega
    · omega
  · rcases h2 with ⟨m2, _⟩ | ⟨m2, _⟩ | ⟨_, w2, a2, b2⟩ | ⟨m2, _⟩
    · omega
    · omega
    · have e : w = w2 := Int32.toInt_inj.mp (zWr_u a a2)
      subst e
      rcases b with ⟨b0, c⟩ | ⟨b0, c, d1, d2, d3, x, dx, d4⟩
      · rcases b2 with ⟨x0, y⟩ | ⟨x0, y, _⟩
        · exact ⟨by omega, fun q9 => by omega⟩
        · omega
      · rcases b2 with ⟨x0, y⟩ | ⟨x0, y, z1, z2, z3, x5, zx, z4⟩
        · omega
        · subst d4
          subst z4
          exact ⟨by omega, fun _ => ⟨by omega, by rw [d2, z2], by omega, zR8 hR _ (by omega)⟩⟩
    · omega
  · rcases h2 with ⟨m2, _⟩ | ⟨m2, _⟩ | ⟨m2, _⟩ | ⟨_, b2⟩
    · omega
    · omega
    · omega
    · rcases b with ⟨b0, c⟩ | ⟨b0, c, d1, d2, d3, d4⟩
      · rcases b2 with ⟨x0, y⟩ | ⟨x0, y, _⟩
        · exact ⟨by omega, fun q9 => by omega⟩
        · exact absurd x0 b0
      · rcases b2 with ⟨x0, y⟩ | ⟨x0, y, z1, z2, z3, z4⟩
        · exact absurd b0 x0
        · subst d4
          subst z4
          exact ⟨by omega, fun _ => ⟨by omega, by rw [d2, z2], by omega, hR⟩⟩
theorem zRd_u {f : Nat → Int32} {n fk fp l fk2 fp2 l2 : Int} {R' S' : Nat → Int32} : ∀ (k k2 p : Nat) (md : Int) (td : Int32) (ln : Int) (R S : Nat → Int32), zRd f n k p md td ln R fk fp l R' → zRd f n k2 p md td ln S fk2 fp2 l2 S' → (∀ i : Nat, i < 8 → R i = S i) → fk = fk2 ∧ fp = fp2 ∧ (fk = 0 → l = l2 ∧ ∀ i : Nat, i < 8 → R' i = S' i)
  | 0, _, _, _, _, _, _, _, h, _, _ => h.elim
  | _ + 1, 0, _, _, _, _, _, _, _, h2, _ => h2.elim
  | k + 1, k2 + 1, p, md, td, ln, R, S, h, h2, hR => by
    rcases h with ⟨a, b⟩ | ⟨a, q, fk1, md1, td1, ln1, R1, b, c, d⟩
    · rcases h2 with ⟨_, b2⟩ | ⟨a2, _⟩
      · have r0 := hR 0 (by omega)
        have r1 := hR 1 (by omega)
        rcases b with ⟨b0, b1, b3⟩ | ⟨b0, b4, b1, b3⟩ | ⟨b0, b4, b1, b3, b5, b6⟩
        · rcases b2 with ⟨x0, x1, x3⟩ | ⟨x0, x4, x1, x3⟩ | ⟨x0, x4, x1, x3, x5, x6⟩
          · exact ⟨by omega, by omega, fun q9 => by omega⟩
          · exact absurd x0 b0
          · exact absurd x0 b0
        · rcases b2 with ⟨x0, x1, x3⟩ | ⟨x0, x4, x1, x3⟩ | ⟨x0, x4, x1, x3, x5, x6⟩
          · exact absurd b0 x0
          · exact ⟨by omega, by omega, fun q9 => by omega⟩
          · rw [r0, r1] at b4
            omega
        · rcases b2 with ⟨x0, x1, x3⟩ | ⟨x0, x4, x1, x3⟩ | ⟨x0, x4, x1, x3, x5, x6⟩
          · exact absurd b0 x0
          · rw [r0, r1] at b4
            omega
          · subst b6
            subst x6
            exact ⟨by omega, by omega, fun _ => ⟨by omega, hR⟩⟩
      · omega
    · rcases h2 with ⟨a2, _⟩ | ⟨_, q2, fk3, md3, td3, ln3, R3, b2, c2, d2⟩
      · omega
      · have eq := zTk_u b b2
        subst eq
        obtain ⟨e1, e2⟩ := zTo_u c c2 hR
        rcases d with ⟨d0, d1, d3⟩ | ⟨d0, r, d1, d3⟩
        · rcases d2 with ⟨y0, y1, y3⟩ | ⟨y0, r2, y1, y3⟩
          · exact ⟨by omega, by omega, fun q9 => by omega⟩
          · omega
        · rcases d2 with ⟨y0, y1, y3⟩ | ⟨y0, r2, y1, y3⟩
          · omega
          · have er := zRun_u d1 y1
            subst er
            obtain ⟨g1, g2, g3, g4⟩ := e2 d0
            subst g1
            subst g2
            subst g3
            exact zRd_u k k2 r md1 td1 ln1 R1 R3 d3 y3 g4
theorem zRe_u {f : Nat → Int32} {n fk fp l fk2 fp2 l2 : Int} {R' S' : Nat → Int32} {p : Nat} {md : Int} {td : Int32} {ln : Int} {R S : Nat → Int32} (h : zRe f n p md td ln R fk fp l R') (h2 : zRe f n p md td ln S fk2 fp2 l2 S') (hR : ∀ i : Nat, i < 8 → R i = S i) : fk = fk2 ∧ fp = fp2 ∧ (fk = 0 → l = l2 ∧ ∀ i : Nat, i < 8 → R' i = S' i) := by
  obtain ⟨k, hk⟩ := h
  obtain ⟨k2, hk2⟩ := h2
  exact zRd_u k k2 p md td ln R S hk hk2 hR
