theorem wb_tb (n : Nat) : (lN n).toBitVec = BitVec.ofNat 64 n := rfl
theorem wb_inj {a b : Int64} (h : a.toBitVec = b.toBitVec) : a = b := Int64.toBitVec_inj.mp h
theorem wb_tn {n : Nat} (h : n < 2 ^ 64) : (lN n).toBitVec.toNat = n := by rw [wb_tb, BitVec.toNat_ofNat, Nat.mod_eq_of_lt h]
theorem wb_of (x : Int64) : ∃ n, n < 2 ^ 64 ∧ x = lN n := ⟨x.toBitVec.toNat, x.toBitVec.isLt, wb_inj (by rw [wb_tb]; simp)⟩
theorem wb_of32 (x : Int32) : ∃ n, n < 2 ^ 32 ∧ x = nI n := ⟨x.toBitVec.toNat, x.toBitVec.isLt, Int32.toBitVec_inj.mp (by show _ = BitVec.ofNat 32 _; simp)⟩
theorem wb_c : ∀ k, k < 64 → ((nI k).toInt64 &&& 63) = lN k := by decide +kernel
theorem wb_cu : ∀ k, k < 64 → ((nI k).toInt64.toUInt64 &&& Int64.toUInt64 63) = UInt64.ofNat k := by decide +kernel
theorem wb_sm : ∀ k, k < 64 → (BitVec.ofNat 64 k).smod 64 = BitVec.ofNat 64 k := by decide +kernel
theorem wb_pw {a b : Nat} (h : a ≤ b) : 2 ^ b = 2 ^ a * 2 ^ (b - a) := by rw [← Nat.pow_add]; congr 1; omega
theorem wb_lt2 {a b : Nat} (h : a < b) : 2 ^ a < 2 ^ b := Nat.pow_lt_pow_right (by decide) h
theorem wb_mod (n : Nat) : lN n = lN (n % 2 ^ 64) := wb_inj (by rw [wb_tb, wb_tb]; apply BitVec.eq_of_toNat_eq; rw [BitVec.toNat_ofNat, BitVec.toNat_ofNat, Nat.mod_mod])
theorem wb_shr {n k : Nat} (hn : n < 2 ^ 64) (hk : k < 64) : ((lN n).toUInt64 >>> ((nI k).toInt64.toUInt64 &&& Int64.toUInt64 63)).toInt64 = lN (n / 2 ^ k) := by
  rw [wb_cu k hk]
  apply wb_inj
  apply BitVec.eq_of_toNat_eq
  show ((lN n).toUInt64 >>> UInt64.ofNat k).toNat = (BitVec.ofNat 64 _).toNat
  have h1 : (UInt64.ofNat k).toNat = k := by
    show (BitVec.ofNat 64 k).toNat = k
    rw [BitVec.toNat_ofNat, Nat.mod_eq_of_lt (by omega)]
  have h2 : (lN n).toUInt64.toNat = n := wb_tn hn
  rw [UInt64.toNat_shiftRight, h1, h2, Nat.mod_eq_of_lt hk, Nat.shiftRight_eq_div_pow, BitVec.toNat_ofNat, Nat.mod_eq_of_lt (Nat.lt_of_le_of_lt (Nat.div_le_self _ _) hn)]
theorem wb_shl (n : Nat) {k : Nat} (hk : k < 64) : lN n <<< ((nI k).toInt64 &&& 63) = lN (n * 2 ^ k) := by
  rw [wb_c k hk]
  apply wb_inj
  rw [Int64.toBitVec_shiftLeft, wb_tb, wb_tb, wb_tb, wb_sm k hk]
  apply BitVec.eq_of_toNat_eq
  rw [BitVec.shiftLeft_eq', BitVec.toNat_shiftLeft, BitVec.toNat_ofNat, BitVec.toNat_ofNat, BitVec.toNat_ofNat, Nat.mod_eq_of_lt (show k < 2 ^ 64 by omega), Nat.shiftLeft_eq, Nat.mul_mod, Nat.mod_mod, ← Nat.mul_mod]
theorem wb_and {a b : Nat} (ha : a < 2 ^ 64) (hb : b < 2 ^ 64) : lN a &&& lN b = lN (a &&& b) := by
  apply wb_inj
  rw [Int64.toBitVec_and, wb_tb, wb_tb, wb_tb]
  apply BitVec.eq_of_toNat_eq
  rw [BitVec.toNat_and, BitVec.toNat_ofNat, BitVec.toNat_ofNat, BitVec.toNat_ofNat, Nat.mod_eq_of_lt ha, Nat.mod_eq_of_lt hb, Nat.mod_eq_of_lt (Nat.and_lt_two_pow _ hb)]
theorem wb_or {a b : Nat} (ha : a < 2 ^ 64) (hb : b < 2 ^ 64) : lN a ||| lN b = lN (a ||| b) := by
  apply wb_inj
  rw [Int64.toBitVec_or, wb_tb, wb_tb, wb_tb]
  apply BitVec.eq_of_toNat_eq
  rw [BitVec.toNat_or, BitVec.toNat_ofNat, BitVec.toNat_ofNat, BitVec.toNat_ofNat, Nat.mod_eq_of_lt ha, Nat.mod_eq_of_lt hb, Nat.mod_eq_of_lt (Nat.or_lt_two_pow ha hb)]
theorem wb_mask {n k : Nat} (hn : n < 2 ^ 64) (hk : k < 64) : lN n &&& lN (2 ^ k - 1) = lN (n % 2 ^ k) := by
  rw [wb_and hn (by have := wb_lt2 hk; omega), Nat.and_two_pow_sub_one_eq_mod]
theorem wb_a1 {n : Nat} (hn : n < 2 ^ 64) : lN n &&& 1 = lN (n % 2) := wb_mask (k := 1) hn (by decide)
theorem wb_bit {n k : Nat} (hn : n < 2 ^ 64) (hk : k < 64) : ((lN n).toUInt64 >>> ((nI k).toInt64.toUInt64 &&& Int64.toUInt64 63)).toInt64 &&& 1 = lN (n / 2 ^ k % 2) := by
  rw [wb_shr hn hk, wb_a1 (Nat.lt_of_le_of_lt (Nat.div_le_self _ _) hn)]
theorem zBt_n {n k : Nat} (hn : n < 2 ^ 64) (hk : k < 64) : zBt (lN n) (nI k) ↔ n.testBit k = true := by
  unfold zBt
  rw [wb_bit hn hk, Nat.testBit_eq_decide_div_mod_eq]
  rcases (show n / 2 ^ k % 2 = 0 ∨ n / 2 ^ k % 2 = 1 by omega) with h | h
  · rw [h]
    exact ⟨fun q => absurd (show lN 0 = 0 from rfl) q, fun q => by simp at q⟩
  · rw [h]
    exact ⟨fun _ => by simp, fun _ => by decide⟩
theorem z_nI {x : Int32} (h : 0 ≤ x.toInt ∧ x.toInt ≤ 59) : ∃ k : Nat, k < 60 ∧ x = nI k := by
  obtain ⟨k, hk, e⟩ := nI_of (x := x) (fun q => absurd (z_lt (i := x.toInt) (j := 0) rfl (by decide) q) (by omega))
  have h1 : x.toInt = (k : Int) := by rw [e]; exact nI_toInt hk
  exact ⟨k, by omega, e⟩
theorem zBt_or {x : Int64} {a b : Int32} (ha : 0 ≤ a.toInt ∧ a.toInt ≤ 59) (hb : 0 ≤ b.toInt ∧ b.toInt ≤ 59) : zBt (x ||| ((1 : Int64) <<< (a.toInt64 &&& 63))) b ↔ zBt x b ∨ b = a := by
  obtain ⟨n, hn, rfl⟩ := wb_of x
  obtain ⟨i, hi, rfl⟩ := z_nI ha
  obtain ⟨k, hk, rfl⟩ := z_nI hb
  have h2 : 2 ^ i < 2 ^ 64 := Nat.pow_lt_pow_right (by decide) (by omega)
  rw [show (1 : Int64) = lN 1 from rfl, wb_shl 1 (by omega), Nat.one_mul, wb_or hn h2, zBt_n (Nat.or_lt_two_pow hn h2) (by omega), zBt_n hn (by omega), Nat.testBit_or, Nat.testBit_two_pow, Bool.or_eq_true, decide_eq_true_iff, nI_eq (by omega) (by omega)]
  exact or_congr Iff.rfl ⟨fun h => h.symm, fun h => h.symm⟩
def zHb (B : Nat → Int64) (f6 f7 : Nat → Int32) : Prop := ∀ (c : Nat) (o : Int32), c < 60 → 0 ≤ o.toInt ∧ o.toInt ≤ 59 → (zBt (B c) o ↔ zHs f7 c (f6 c).toNatClampNeg o)
def zR1 (n m : Int32) (x0 x1 x2 x3 x4 x5 x6 x7 y2 y3 y4 y5 y6 y7 y9 y8 : Nat → Int32) (B : Nat → Int64) : Prop := n = m ∧ x0 = y2 ∧ x1 = y3 ∧ x2 = y4 ∧ x3 = y5 ∧ x4 = y6 ∧ x5 = y7 ∧ x6 = y9 ∧ x7 = y8 ∧ (∀ j : Nat, n.toNatClampNeg ≤ j → x6 j = 0) ∧ zHb B x6 x7
theorem zR1_change {n m n' m' rx rm a b c d : Int32} {x0 x1 x2 x3 x4 x5 x6 x7 y2 y3 y4 y5 y6 y7 y9 y8 x0' x1' x2' x3' x4' x5' y2' y3' y4' y5' y6' y7' y9' : Nat → Int32} {B : Nat → Int64} (h : zR1 n m x0 x1 x2 x3 x4 x5 x6 x7 y2 y3 y4 y5 y6 y7 y9 y8 B) (hn : 0 ≤ n.toInt) (h1 : ((0 ≤ a.toInt ∧ a.toInt ≤ 399 ∧ 1 ≤ b.toInt ∧ b.toInt ≤ 1073741823 ∧ 1 ≤ c.toInt ∧ c.toInt ≤ 20 ∧ (d.toInt = -1 ∨ (1 ≤ d.toInt ∧ d.toInt ≤ 100))) ∧ n.toInt < 60 ∧ rx.toInt = n.toInt ∧ n'.toInt = n.toInt + 1) ∨ (¬ (0 ≤ a.toInt ∧ a.toInt ≤ 399 ∧ 1 ≤ b.toInt ∧ b.toInt ≤ 1073741823 ∧ 1 ≤ c.toInt ∧ c.toInt ≤ 20 ∧ (d.toInt = -1 ∨ (1 ≤ d.toInt ∧ d.toInt ≤ 100))) ∧ rx.toInt = -2 ∧ n'.toInt = n.toInt) ∨ ((0 ≤ a.toInt ∧ a.toInt ≤ 399 ∧ 1 ≤ b.toInt ∧ b.toInt ≤ 1073741823 ∧ 1 ≤ c.toInt ∧ c.toInt ≤ 20 ∧ (d.toInt = -1 ∨ (1 ≤ d.toInt ∧ d.toInt ≤ 100))) ∧ n.toInt = 60 ∧ rx.toInt = -3 ∧ n'.toInt = n.toInt)) (h2 : (rx.toInt < 0 ∧ x0' = x0 ∧ x1' = x1 ∧ x2' = x2 ∧ x3' = x3 ∧ x4' = x4 ∧ x5' = x5) ∨ (0 ≤ rx.toInt ∧ x0' = upd x0 n.toNatClampNeg a ∧ x1' = upd x1 n.toNatClampNeg b ∧ x2' = upd x2 n.toNatClampNeg c ∧ x3' = upd x3 n.toNatClampNeg d ∧ x4' = upd x4 n.toNatClampNeg (-1) ∧ x5' = upd x5 n.toNatClampNeg (-1))) (h3 : ((0 ≤ a.toInt ∧ a.toInt ≤ 399 ∧ 1 ≤ b.toInt ∧ b.toInt ≤ 1073741823 ∧ 1 ≤ c.toInt ∧ c.toInt ≤ 20 ∧ (d.toInt = -1 ∨ (1 ≤ d.toInt ∧ d.toInt ≤ 100))) ∧ m.toInt < 60 ∧ rm.toInt = m.toInt ∧ m'.toInt = m.toInt + 1) ∨ (¬ (0 ≤ a.toInt ∧ a.toInt ≤ 399 ∧ 1 ≤ b.toInt ∧ b.toInt ≤ 1073741823 ∧ 1 ≤ c.toInt ∧ c.toInt ≤ 20 ∧ (d.toInt = -1 ∨ (1 ≤ d.toInt ∧ d.toInt ≤ 100))) ∧ rm.toInt = -2 ∧ m'.toInt = m.toInt) ∨ ((0 ≤ a.toInt ∧ a.toInt ≤ 399 ∧ 1 ≤ b.toInt ∧ b.toInt ≤ 1073741823 ∧ 1 ≤ c.toInt ∧ c.toInt ≤ 20 ∧ (d.toInt = -1 ∨ (1 ≤ d.toInt ∧ d.toInt ≤ 100))) ∧ m.toInt = 60 ∧ rm.toInt = -3 ∧ m'.toInt = m.toInt)) (h4 : (rm.toInt < 0 ∧ y2' = y2 ∧ y3' = y3 ∧ y4' = y4 ∧ y5' = y5 ∧ y6' = y6 ∧ y7' = y7 ∧ y9' = y9) ∨ (0 ≤ rm.toInt ∧ y2' = upd y2 m.toNatClampNeg a ∧ y3' = upd y3 m.toNatClampNeg b ∧ y4' = upd y4 m.toNatClampNeg c ∧ y5' = upd y5 m.toNatClampNeg d ∧ y6' = upd y6 m.toNatClampNeg (-1) ∧ y7' = upd y7 m.toNatClampNeg (-1) ∧ y9' = upd y9 m.toNatClampNeg 0)) : zR1 n' m' x0' x1' x2' x3' x4' x5' x6 x7 y2' y3' y4' y5' y6' y7' y9' y8 B := by
  obtain ⟨rfl, rfl, rfl, rfl, rfl, rfl, rfl, rfl, rfl, hz, hb⟩ := h
  have e : n' = m' := Int32.toInt_inj.mp (by omega)
  have er : rx.toInt = rm.toInt := by omega
  subst e
  rcases h2 with ⟨q, rfl, rfl, rfl, rfl, rfl, rfl⟩ | ⟨q, rfl, rfl, rfl, rfl, rfl, rfl⟩
  · rcases h4 with ⟨_, rfl, rfl, rfl, rfl, rfl, rfl, rfl⟩ | ⟨q2, _⟩
    · exact ⟨rfl, rfl, rfl, rfl, rfl, rfl, rfl, rfl, rfl, fun j hj => hz j (by rw [z_cl] at hj ⊢; omega), hb⟩
    · omega
  · rcases h4 with ⟨q2, _⟩ | ⟨_, rfl, rfl, rfl, rfl, rfl, rfl, rfl⟩
    · omega
    · refine ⟨rfl, rfl, rfl, rfl, rfl, rfl, rfl, ?_, rfl, fun j hj => hz j (by rw [z_cl] at hj ⊢; omega), hb⟩
      funext j
      unfold upd
      split
      · next w => rw [w]; exact hz _ (Nat.le_refl _)
      · rfl
theorem zR1_fix {n m rx rm c o : Int32} {x0 x1 x2 x3 x4 x5 x6 x7 y2 y3 y4 y5 y6 y7 y9 y8 x4' x5' y6' y7' : Nat → Int32} {B : Nat → Int64} (h : zR1 n m x0 x1 x2 x3 x4 x5 x6 x7 y2 y3 y4 y5 y6 y7 y9 y8 B) (h1 : (rx.toInt = 1 ∧ (0 ≤ o.toInt ∧ o.toInt < c.toInt ∧ c.toInt < n.toInt) ∧ (x3 o.toNatClampNeg).toInt ≠ -1 ∧ (x5 o.toNatClampNeg).toInt = -1 ∧ (x4 c.toNatClampNeg).toInt = -1 ∧ x4' = upd x4 c.toNatClampNeg o ∧ x5' = upd x5 o.toNatClampNeg c) ∨ (rx.toInt = -2 ∧ (¬ (0 ≤ o.toInt ∧ o.toInt < c.toInt ∧ c.toInt < n.toInt) ∨ ((x3 o.toNatClampNeg).toInt = -1 ∨ (x5 o.toNatClampNeg).toInt ≠ -1 ∨ (x4 c.toNatClampNeg).toInt ≠ -1)) ∧ x4' = x4 ∧ x5' = x5)) (h2 : (rm.toInt = 1 ∧ (0 ≤ o.toInt ∧ o.toInt < c.toInt ∧ c.toInt < m.toInt) ∧ (y5 o.toNatClampNeg).toInt ≠ -1 ∧ (y7 o.toNatClampNeg).toInt = -1 ∧ (y6 c.toNatClampNeg).toInt = -1 ∧ y6' = upd y6 c.toNatClampNeg o ∧ y7' = upd y7 o.toNatClampNeg c) ∨ (rm.toInt = -2 ∧ (¬ (0 ≤ o.toInt ∧ o.toInt < c.toInt ∧ c.toInt < m.toInt) ∨ ((y5 o.toNatClampNeg).toInt = -1 ∨ (y7 o.toNatClampNeg).toInt ≠ -1 ∨ (y6 c.toNatClampNeg).toInt ≠ -1)) ∧ y6' = y6 ∧ y7' = y7)) : zR1 n m x0 x1 x2 x3 x4' x5' x6 x7 y2 y3 y4 y5 y6' y7' y9 y8 B ∧ rx.toInt = rm.toInt := by
  obtain ⟨rfl, rfl, rfl, rfl, rfl, rfl, rfl, rfl, rfl, hz, hb⟩ := h
  rcases h1 with ⟨q, qa, qb, qc, qd, rfl, rfl⟩ | ⟨q, qa, rfl, rfl⟩
  · rcases h2 with ⟨w, _, _, _, _, rfl, rfl⟩ | ⟨w, wa, _, _⟩
    · exact ⟨⟨rfl, rfl, rfl, rfl, rfl, rfl, rfl, rfl, rfl, hz, hb⟩, by omega⟩
    · omega
  · rcases h2 with ⟨w, wa, wb, wc, wd, _, _⟩ | ⟨w, _, rfl, rfl⟩
    · omega
    · exact ⟨⟨rfl, rfl, rfl, rfl, rfl, rfl, rfl, rfl, rfl, hz, hb⟩, by omega⟩
theorem zHb_s {B B' : Nat → Int64} {f6 f7 : Nat → Int32} {c : Nat} {o r : Int32} (h : zHb B f6 f7) (h6 : z_rng 0 3 f6) (hc : c < 60) (ho : 0 ≤ o.toInt ∧ o.toInt ≤ 59) (h3 : (f6 c).toInt < 3) (hr : r.toInt = (f6 c).toInt + 1) (hB : B' = vp_updL B c (B c ||| ((1 : Int64) <<< (o.toInt64 &&& 63)))) : zHb B' (upd f6 c r) (upd f7 (3 * c + (f6 c).toNatClampNeg) o) := by
  subst hB
  intro d p hd hp
  have hk := h6 c
  by_cases e : d = c
  · subst e
    rw [pk_uLs, pk_us, zBt_or ho hp, h d p hd hp]
    constructor
    · rintro (⟨k, hk1, hk2⟩ | rfl)
      · rw [z_cl] at hk1
        exact ⟨k, by rw [z_cl]; omega, by rw [pk_un (by rw [z_cl]; omega)]; exact hk2⟩
      · exact ⟨(f6 d).toNatClampNeg, by rw [z_cl, z_cl]; omega, pk_us⟩
    · rintro ⟨k, hk1, hk2⟩
      rw [z_cl] at hk1
      by_cases w : k = (f6 d).toNatClampNeg
      · rw [w, pk_us] at hk2
        exact Or.inr hk2.symm
      · have w2 : k ≠ (f6 d).toInt.toNat := by rw [← z_cl]; exact w
        rw [pk_un (by rw [z_cl]; omega)] at hk2
        exact Or.inl ⟨k, by rw [z_cl]; omega, hk2⟩
  · have hd6 := h6 d
    rw [pk_uLn e, pk_un e, h d p hd hp]
    constructor
    · rintro ⟨k, hk1, hk2⟩
      exact ⟨k, hk1, by rw [z_cl] at hk1; rw [pk_un (by rw [z_cl]; omega)]; exact hk2⟩
    · rintro ⟨k, hk1, hk2⟩
      refine ⟨k, hk1, ?_⟩
      rw [z_cl] at hk1
      rw [pk_un (by rw [z_cl]; omega)] at hk2
      exact hk2
theorem zR1_hang {n m rx rm c o : Int32} {x0 x1 x2 x3 x4 x5 x6 x7 y2 y3 y4 y5 y6 y7 y9 y8 x6' x7' y9' y8' : Nat → Int32} {B B' : Nat → Int64} (h : zR1 n m x0 x1 x2 x3 x4 x5 x6 x7 y2 y3 y4 y5 y6 y7 y9 y8 B) (h6 : z_rng 0 3 x6) (hn : n.toInt ≤ 60) (h1 : (rx.toInt = -2 ∧ ¬ (0 ≤ o.toInt ∧ o.toInt < c.toInt ∧ c.toInt < n.toInt) ∧ x6' = x6 ∧ x7' = x7 ∧ B' = B) ∨ ((0 ≤ o.toInt ∧ o.toInt < c.toInt ∧ c.toInt < n.toInt) ∧ zBt (B c.toNatClampNeg) o ∧ rx = x6 c.toNatClampNeg ∧ x6' = x6 ∧ x7' = x7 ∧ B' = B) ∨ ((0 ≤ o.toInt ∧ o.toInt < c.toInt ∧ c.toInt < n.toInt) ∧ ¬ zBt (B c.toNatClampNeg) o ∧ rx.toInt = -3 ∧ 3 ≤ (x6 c.toNatClampNeg).toInt ∧ x6' = x6 ∧ x7' = x7 ∧ B' = B) ∨ ((0 ≤ o.toInt ∧ o.toInt < c.toInt ∧ c.toInt < n.toInt) ∧ ¬ zBt (B c.toNatClampNeg) o ∧ (x6 c.toNatClampNeg).toInt < 3 ∧ rx.toInt = (x6 c.toNatClampNeg).toInt + 1 ∧ x7' = upd x7 (3 * c.toNatClampNeg + (x6 c.toNatClampNeg).toNatClampNeg) o ∧ x6' = upd x6 c.toNatClampNeg rx ∧ B' = vp_updL B c.toNatClampNeg (B c.toNatClampNeg ||| ((1 : Int64) <<< (o.toInt64 &&& 63))))) (h2 : (rm.toInt = -2 ∧ ¬ (0 ≤ o.toInt ∧ o.toInt < c.toInt ∧ c.toInt < m.toInt) ∧ y9' = y9 ∧ y8' = y8) ∨ ((0 ≤ o.toInt ∧ o.toInt < c.toInt ∧ c.toInt < m.toInt) ∧ zHs y8 c.toNatClampNeg (y9 c.toNatClampNeg).toNatClampNeg o ∧ rm = y9 c.toNatClampNeg ∧ y9' = y9 ∧ y8' = y8) ∨ ((0 ≤ o.toInt ∧ o.toInt < c.toInt ∧ c.toInt < m.toInt) ∧ ¬ zHs y8 c.toNatClampNeg (y9 c.toNatClampNeg).toNatClampNeg o ∧ rm.toInt = -3 ∧ 3 ≤ (y9 c.toNatClampNeg).toInt ∧ y9' = y9 ∧ y8' = y8) ∨ ((0 ≤ o.toInt ∧ o.toInt < c.toInt ∧ c.toInt < m.toInt) ∧ ¬ zHs y8 c.toNatClampNeg (y9 c.toNatClampNeg).toNatClampNeg o ∧ (y9 c.toNatClampNeg).toInt < 3 ∧ rm.toInt = (y9 c.toNatClampNeg).toInt + 1 ∧ y8' = upd y8 (3 * c.toNatClampNeg + (y9 c.toNatClampNeg).toNatClampNeg) o ∧ y9' = upd y9 c.toNatClampNeg rm)) : zR1 n m x0 x1 x2 x3 x4 x5 x6' x7' y2 y3 y4 y5 y6 y7 y9' y8' B' ∧ rx.toInt = rm.toInt := by
  obtain ⟨rfl, rfl, rfl, rfl, rfl, rfl, rfl, rfl, rfl, hz, hb⟩ := h
  have hB : (0 ≤ o.toInt ∧ o.toInt < c.toInt ∧ c.toInt < n.toInt) → (zBt (B c.toNatClampNeg) o ↔ zHs x7 c.toNatClampNeg (x6 c.toNatClampNeg).toNatClampNeg o) := fun q => hb c.toNatClampNeg o (by rw [z_cl]; omega) (by omega)
  rcases h1 with ⟨q, qa, rfl, rfl, rfl⟩ | ⟨q, qa, qb, rfl, rfl, rfl⟩ | ⟨q, qa, qb, qc, rfl, rfl, rfl⟩ | ⟨q, qa, qb, qc, rfl, rfl, qd⟩
  · rcases h2 with ⟨w, wa, rfl, rfl⟩ | ⟨w, _⟩ | ⟨w, _⟩ | ⟨w, _⟩
    · exact ⟨⟨rfl, rfl, rfl, rfl, rfl, rfl, rfl, rfl, rfl, hz, hb⟩, by omega⟩
    · exact absurd w qa
    · exact absurd w qa
    · exact absurd w qa
  · rcases h2 with ⟨_, wa, _⟩ | ⟨w, wa, wb, rfl, rfl⟩ | ⟨w, wa, _⟩ | ⟨w, wa, _⟩
    · exact absurd q wa
    · exact ⟨⟨rfl, rfl, rfl, rfl, rfl, rfl, rfl, rfl, rfl, hz, hb⟩, by rw [qb, wb]⟩
    · exact absurd ((hB q).mp qa) wa
    · exact absurd ((hB q).mp qa) wa
  · rcases h2 with ⟨_, wa, _⟩ | ⟨w, wa, _⟩ | ⟨w, wa, wb, wc, rfl, rfl⟩ | ⟨w, wa, wb, _⟩
    · exact absurd q wa
    · exact absurd ((hB q).mpr wa) qa
    · exact ⟨⟨rfl, rfl, rfl, rfl, rfl, rfl, rfl, rfl, rfl, hz, hb⟩, by omega⟩
    · omega
  · rcases h2 with ⟨_, wa, _⟩ | ⟨w, wa, _⟩ | ⟨w, wa, _, wb, _⟩ | ⟨w, wa, wb, wc, rfl, rfl⟩
    · exact absurd q wa
    · exact absurd ((hB q).mpr wa) qa
    · omega
    · have e : rx = rm := Int32.toInt_inj.mp (by omega)
      subst e
      refine ⟨⟨rfl, rfl, rfl, rfl, rfl, rfl, rfl, rfl, rfl, fun j hj => ?_, zHb_s hb h6 (by rw [z_cl]; omega) (by omega) qb qc qd⟩, rfl⟩
      rw [pk_un (by rw [z_cl] at hj ⊢; omega)]
      exact hz j hj
theorem zR1_about {n m rx rm c o : Int32} {x0 x1 x2 x3 x4 x5 x6 x7 y2 y3 y4 y5 y6 y7 y9 y8 : Nat → Int32} {B : Nat → Int64} (h : zR1 n m x0 x1 x2 x3 x4 x5 x6 x7 y2 y3 y4 y5 y6 y7 y9 y8 B) (h1 : (0 ≤ c.toInt ∧ c.toInt < n.toInt ∧ rx = zAb x0 x1 x2 x3 x4 x5 x6 x7 c o) ∨ ((c.toInt < 0 ∨ n.toInt ≤ c.toInt) ∧ rx.toInt = -9)) (h2 : (0 ≤ c.toInt ∧ c.toInt < m.toInt ∧ rm = zAb y2 y3 y4 y5 y6 y7 y9 y8 c o) ∨ ((c.toInt < 0 ∨ m.toInt ≤ c.toInt) ∧ rm.toInt = -9)) : rx.toInt = rm.toInt := by
  obtain ⟨rfl, rfl, rfl, rfl, rfl, rfl, rfl, rfl, rfl, hz, hb⟩ := h
  rcases h1 with ⟨a, b, e⟩ | ⟨a, e⟩
  · rcases h2 with ⟨a2, b2, e2⟩ | ⟨a2, e2⟩
    · rw [e, e2]
    · omega
  · rcases h2 with ⟨a2, b2, e2⟩ | ⟨a2, e2⟩
    · omega
    · omega
theorem zR1_0 : zR1 0 0 (fun _ => 0) (fun _ => 0) (fun _ => 0) (fun _ => 0) (fun _ => 0) (fun _ => 0) (fun _ => 0) (fun _ => 0) (fun _ => 0) (fun _ => 0) (fun _ => 0) (fun _ => 0) (fun _ => 0) (fun _ => 0) (fun _ => 0) (fun _ => 0) (fun _ => 0) := by
  refine ⟨rfl, rfl, rfl, rfl, rfl, rfl, rfl, rfl, rfl, fun _ _ => rfl, fun c o hc ho => ?_⟩
  obtain ⟨k, hk, rfl⟩ := z_nI ho
  constructor
  · intro q
    have q2 := (zBt_n (n := 0) (by decide) (show k < 64 by omega)).mp q
    simp at q2
  · rintro ⟨k2, q, _⟩
    have q : k2 < (0 : Int32).toNatClampNeg := q
    rw [show (0 : Int32).toNatClampNeg = 0 from by decide] at q
    omega
