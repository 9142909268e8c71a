/-! how many releases there can be: the regular ones up to a tick, and a hot one for each change that was merged long enough ago -/
def zInc (p : Nat) (f g : Nat → Int32) : Prop := (g p).toInt = (f p).toInt + 1 ∧ ∀ j : Nat, j ≠ p → g j = f j
def zU (f : Nat → Int32) (p : Nat) (v : Int) : Nat → Int
  | 0 => 0
  | n + 1 => zU f p v n + (if (f (60 * p + n)).toInt ≠ -1 ∧ (f (60 * p + n)).toInt ≤ v then 1 else 0)
def zKm (p : Nat) (f g : Nat → Int32) : Prop := ∀ j : Nat, g j = f j ∨ ((f j).toInt = -1 ∧ 60 * p ≤ j ∧ j < 60 * p + 60)
def zReg (e t : Int) : Int := (t + e - 1) / e
def zE0 (fr fw : Nat → Int32) (p : Nat) : Int := (fr (8 * (fw p).toNatClampNeg)).toInt
def zH (fr fw : Nat → Int32) (p : Nat) : Int := (fr (8 * (fw p).toNatClampNeg + 6)).toInt
def zRl (fr fw fm fn : Nat → Int32) (p : Nat) (t : Int) : Prop := (fn p).toInt ≤ zReg (zE0 fr fw p) t + zU fm p (t - 1 - zH fr fw p) 60
def zRm (fr fw fm fn : Nat → Int32) (p : Nat) (t : Int) : Prop := (fn p).toInt ≤ zReg (zE0 fr fw p) (t + 1) + zU fm p (t - 1 - zH fr fw p) 60
def zHt (fm fn0 fn : Nat → Int32) (p : Nat) (v : Int) (c : Nat) : Prop := (fn p).toInt ≤ (fn0 p).toInt + (zU fm p v c - zU fm p (v - 1) c) ∧ ∀ j : Nat, j ≠ p → fn j = fn0 j
def zTn (fm tn : Nat → Int32) (p n : Nat) : Prop := ∀ i : Nat, i < n → (fm (60 * p + (tn i).toNatClampNeg)).toInt = -1
def zTh (fm tn : Nat → Int32) (p n i0 : Nat) : Prop := ∀ i : Nat, i ≤ n → i ≠ i0 → (fm (60 * p + (tn i).toNatClampNeg)).toInt = -1
def zTr (n : Nat) (f : Nat → Int32) : Prop := ∀ r : Nat, r < n → zIv r (f (40 + r))
theorem zU_s (f : Nat → Int32) (p : Nat) (v : Int) (n : Nat) : zU f p v (n + 1) = zU f p v n + (if (f (60 * p + n)).toInt ≠ -1 ∧ (f (60 * p + n)).toInt ≤ v then 1 else 0) := rfl
theorem zU_b (f : Nat → Int32) (p : Nat) (v : Int) : ∀ n : Nat, 0 ≤ zU f p v n ∧ zU f p v n ≤ (n : Int) := by
  intro n
  induction n with
  | zero => exact ⟨Int.le_refl 0, Int.le_refl 0⟩
  | succ n ih => rw [zU_s]; split <;> omega
theorem zU_gap (f : Nat → Int32) (p : Nat) (v : Int) (n : Nat) : ∀ k : Nat, zU f p v (n + k) ≤ zU f p v n + (k : Int) := by
  intro k
  induction k with
  | zero => show zU f p v n ≤ zU f p v n + ((0 : Nat) : Int); omega
  | succ k ih => rw [show n + (k + 1) = (n + k) + 1 from rfl, zU_s]; split <;> omega
theorem zU_d {f : Nat → Int32} {p : Nat} {v w : Int} (h : w ≤ v) (n : Nat) : zU f p v n - zU f p w n ≤ zU f p v (n + 1) - zU f p w (n + 1) := by
  rw [zU_s, zU_s]; split <;> split <;> omega
theorem zU_dm {f : Nat → Int32} {p : Nat} {v w : Int} (h : w ≤ v) (n : Nat) : ∀ k : Nat, zU f p v n - zU f p w n ≤ zU f p v (n + k) - zU f p w (n + k) := by
  intro k
  induction k with
  | zero => exact Int.le_refl _
  | succ k ih => exact Int.le_trans ih (zU_d h (n + k))
theorem zU_v {f : Nat → Int32} {p : Nat} {v w : Int} (h : w ≤ v) (n : Nat) : zU f p w n ≤ zU f p v n := by
  have h1 := zU_dm (f := f) (p := p) h 0 n
  rw [Nat.zero_add] at h1
  have h2 : zU f p v 0 = 0 := rfl
  have h3 : zU f p w 0 = 0 := rfl
  omega
theorem zU_km {f g : Nat → Int32} {p : Nat} {v : Int} (h : zKm p f g) : ∀ n : Nat, zU f p v n ≤ zU g p v n := by
  intro n
  induction n with
  | zero => exact Int.le_refl _
  | succ n ih =>
    rw [zU_s, zU_s]
    rcases h (60 * p + n) with q | q
    · rw [q]; omega
    · have q1 := q.1
      split <;> split <;> omega
theorem zU_cg {f g : Nat → Int32} {p : Nat} {v : Int} : ∀ n : Nat, (∀ c : Nat, c < n → g (60 * p + c) = f (60 * p + c)) → zU g p v n = zU f p v n := by
  intro n
  induction n with
  | zero => intro _; rfl
  | succ n ih =>
    intro h
    rw [zU_s, zU_s, ih (fun c hc => h c (Nat.lt_succ_of_lt hc)), h n (Nat.lt_succ_self n)]
theorem zReg_s {e t : Int} (h : 2 ≤ e) (hd : t % e = 0) : zReg e (t + 1) = zReg e t + 1 := by
  obtain ⟨k, rfl⟩ := Int.dvd_of_emod_eq_zero hd
  unfold zReg
  have h1 : e * k + 1 + e - 1 = 0 + e * (k + 1) := by rw [Int.mul_add]; omega
  have h2 : e * k + e - 1 = (e - 1) + e * k := by omega
  rw [h1, h2, Int.add_mul_ediv_left _ _ (by omega), Int.add_mul_ediv_left _ _ (by omega), Int.ediv_eq_zero_of_lt (a := e - 1) (by omega) (by omega), Int.zero_ediv]
  omega
theorem zReg_m {e t : Int} (h : 2 ≤ e) : zReg e t ≤ zReg e (t + 1) := Int.ediv_le_ediv (by omega) (by omega)
theorem zReg_le {e t : Int} (h : 2 ≤ e) (ht : t ≤ 400) : zReg e t ≤ 200 := by
  have h1 : (t + e - 1) / e < 201 := Int.ediv_lt_of_lt_mul (by omega) (by omega)
  unfold zReg
  omega
theorem zReg_0 {e t : Int} (h : 2 ≤ e) (ht : 0 ≤ t) : 0 ≤ zReg e t := Int.ediv_nonneg (by omega) (by omega)
theorem z_rem {x y t : Int32} (e : t = x - x / y * y) (hx : 0 ≤ x.toInt) (hy : 0 < y.toInt) : t.toInt = x.toInt % y.toInt := by
  obtain ⟨a, ha, rfl⟩ := nI_of (x := x) (fun h => absurd (z_lt (i := x.toInt) (j := 0) rfl (by decide) h) (by omega))
  obtain ⟨d, hd, rfl⟩ := nI_of (x := y) (fun h => absurd (z_lt (i := y.toInt) (j := 0) rfl (by decide) h) (by omega))
  rw [nI_toInt hd] at hy
  have h1 : a % d < 2 ^ 31 := Nat.lt_of_le_of_lt (Nat.mod_le a d) ha
  rw [e, pk_rem ha (by omega) hd, nI_toInt h1, nI_toInt ha, nI_toInt hd]
  rfl
theorem zOkR_E {f g : Nat → Int32} {p : Nat} (h : zOkR f g) (hp : p < 3) : 2 ≤ zE0 f g p ∧ zE0 f g p ≤ 100 := (h.2 p hp 0 (by decide)).1 rfl
theorem zOkR_H {f g : Nat → Int32} {p : Nat} (h : zOkR f g) (hp : p < 3) : zH f g p = -1 ∨ (1 ≤ zH f g p ∧ zH f g p ≤ 50) := (h.2 p hp 6 (by decide)).2 rfl
theorem zRl_lim {fr fw fm fn : Nat → Int32} {p : Nat} {t : Int} (h : zRl fr fw fm fn p t) (hk : zOkR fr fw) (hp : p < 3) (ht : t ≤ 400) : (fn p).toInt ≤ 260 := by
  have h1 := zReg_le (zOkR_E hk hp).1 ht
  have h2 := (zU_b fm p (t - 1 - zH fr fw p) 60).2
  unfold zRl at h
  omega
theorem zRl_0 {fr fw fm fn : Nat → Int32} {p : Nat} (hk : zOkR fr fw) (hp : p < 3) (hn : (fn p).toInt = 0) : zRl fr fw fm fn p 0 := by
  have h1 := zReg_0 (t := 0) (zOkR_E hk hp).1 (Int.le_refl 0)
  have h2 := (zU_b fm p (0 - 1 - zH fr fw p) 60).1
  unfold zRl
  omega
theorem zRl_a {fr fw fm fn g : Nat → Int32} {p : Nat} {t : Int} (h : zRl fr fw fm fn p t) (hk : zOkR fr fw) (hp : p < 3) (hd : t % zE0 fr fw p = 0) (hi : zInc p fn g) : zRm fr fw fm g p t := by
  have h1 := zReg_s (zOkR_E hk hp).1 hd
  have h2 := hi.1
  unfold zRl at h
  unfold zRm
  omega
theorem zRl_b {fr fw fm fn : Nat → Int32} {p : Nat} {t : Int} (h : zRl fr fw fm fn p t) (hk : zOkR fr fw) (hp : p < 3) : zRm fr fw fm fn p t := by
  have h1 := zReg_m (t := t) (zOkR_E hk hp).1
  unfold zRl at h
  unfold zRm
  omega
theorem zRm_lim {fr fw fm fn : Nat → Int32} {p : Nat} {t : Int} (h : zRm fr fw fm fn p t) (hk : zOkR fr fw) (hp : p < 3) (ht : t ≤ 399) : (fn p).toInt ≤ 201 + zU fm p (t - 1 - zH fr fw p) 60 := by
  have h1 := zReg_le (t := t + 1) (zOkR_E hk hp).1 (by omega)
  unfold zRm at h
  omega
theorem zRl_c {fr fw fm fn g : Nat → Int32} {p : Nat} {t : Int} (h : zRm fr fw fm fn p t) (hh : zHt fm fn g p (t - zH fr fw p) 60) : zRl fr fw fm g p (t + 1) := by
  have h1 := hh.1
  unfold zRm at h
  unfold zRl
  rw [show t - zH fr fw p - 1 = t - 1 - zH fr fw p by omega] at h1
  rw [show t + 1 - 1 - zH fr fw p = t - zH fr fw p by omega]
  omega
theorem zRl_d {fr fw fm fn : Nat → Int32} {p : Nat} {t : Int} (h : zRm fr fw fm fn p t) : zRl fr fw fm fn p (t + 1) := by
  have h1 := zU_v (f := fm) (p := p) (show t - 1 - zH fr fw p ≤ t + 1 - 1 - zH fr fw p by omega) 60
  unfold zRm at h
  unfold zRl
  omega
theorem zRl_k {fr fw fm fn g : Nat → Int32} {p : Nat} {t : Int} (h : zRl fr fw fm fn p t) (hk : zKm p fm g) : zRl fr fw g fn p t := by
  have h1 := zU_km (v := t - 1 - zH fr fw p) hk 60
  unfold zRl at h ⊢
  omega
theorem zRl_o {fr fw fm fn fw1 fm1 fn1 : Nat → Int32} {q : Nat} {t : Int} (h : zRl fr fw fm fn q t) (hw : fw1 q = fw q) (hn : fn1 q = fn q) (hm : ∀ c : Nat, c < 60 → fm1 (60 * q + c) = fm (60 * q + c)) : zRl fr fw1 fm1 fn1 q t := by
  unfold zRl zE0 zH at h ⊢
  rw [hw, hn, zU_cg 60 hm]
  exact h
theorem zKm_o {f g : Nat → Int32} {p q : Nat} (h : zKm p f g) (hq : q ≠ p) : ∀ c : Nat, c < 60 → g (60 * q + c) = f (60 * q + c) := fun c hc => by
  rcases h (60 * q + c) with a | a
  · exact a
  · omega
theorem zKm_r (p : Nat) (f : Nat → Int32) : zKm p f f := fun _ => Or.inl rfl
theorem zKm_s {p : Nat} {f g g1 : Nat → Int32} {k : Nat} (h : zKm p f g) (hk : (f k).toInt = -1) (h1 : 60 * p ≤ k) (h2 : k < 60 * p + 60) (hg : ∀ j : Nat, j ≠ k → g1 j = g j) : zKm p f g1 := fun j => by
  by_cases q : j = k
  · rw [q]; exact Or.inr ⟨hk, h1, h2⟩
  · rw [hg j q]; exact h j
theorem zHt_0 (fm fn : Nat → Int32) (p : Nat) (v : Int) : zHt fm fn fn p v 0 := ⟨by
  have h1 : zU fm p v 0 = 0 := rfl
  have h2 : zU fm p (v - 1) 0 = 0 := rfl
  omega, fun _ _ => rfl⟩
theorem zHt_s {fm f g : Nat → Int32} {p : Nat} {v : Int} {c : Nat} (h : zHt fm f g p v c) : zHt fm f g p v (c + 1) := by
  have h1 := zU_d (f := fm) (p := p) (show v - 1 ≤ v by omega) c
  have h2 := h.1
  exact ⟨by omega, h.2⟩
theorem zHt_i {fm f g g1 : Nat → Int32} {p : Nat} {v : Int} {c : Nat} (h : zHt fm f g p v c) (h1 : (fm (60 * p + c)).toInt ≠ -1) (h2 : (fm (60 * p + c)).toInt = v) (hi : zInc p g g1) : zHt fm f g1 p v (c + 1) := by
  have h3 := h.1
  have h4 := hi.1
  refine ⟨?_, fun j hj => by rw [hi.2 j hj]; exact h.2 j hj⟩
  rw [zU_s, zU_s, if_pos ⟨h1, by omega⟩, if_neg (by omega)]
  omega
theorem zHt_lim {fm f g : Nat → Int32} {p : Nat} {v : Int} {c : Nat} (h : zHt fm f g p v c) (hc : c ≤ 60) (h0 : (f p).toInt ≤ 201 + zU fm p (v - 1) 60) : (g p).toInt ≤ 268 := by
  have h1 := h.1
  have h2 := (zU_b fm p v c).2
  have h3 := zU_gap fm p (v - 1) c (60 - c)
  rw [show c + (60 - c) = 60 by omega] at h3
  omega
theorem zHt_e {fm f g : Nat → Int32} {p : Nat} {v : Int} {c : Nat} (h : zHt fm f g p v c) (hc : c ≤ 60) : zHt fm f g p v 60 := by
  have h1 := h.1
  have h2 := zU_dm (f := fm) (p := p) (show v - 1 ≤ v by omega) c (60 - c)
  rw [show c + (60 - c) = 60 by omega] at h2
  exact ⟨by omega, h.2⟩
theorem zTh_0 {fm tn : Nat → Int32} {p n : Nat} (h : zTn fm tn p n) : zTh fm tn p n n := fun i hi hn => h i (by omega)
theorem zTh_s {fm tn g : Nat → Int32} {p n i j : Nat} {x : Int32} (h : zTh fm tn p n i) (hi : i ≤ n) (hj : i = j + 1) (hx : x = tn j) (e : upd tn i x = g) : zTh fm g p n j := fun k hk hn => by
  subst e
  unfold upd
  split
  · rw [hx]; exact h j (by omega) (by omega)
  · exact h k hk (by omega)
theorem zTn_s {fm tn g : Nat → Int32} {p n i : Nat} {x : Int32} (h : zTh fm tn p n i) (hx : (fm (60 * p + x.toNatClampNeg)).toInt = -1) (e : upd tn i x = g) : zTn fm g p (n + 1) := fun k hk => by
  subst e
  unfold upd
  split
  · exact hx
  · exact h k (by omega) (by omega)
theorem zTr_s {n : Nat} {f f' : Nat → Int32} {j : Nat} {x : Int32} (hn : n < 8) (h : zTr n f) (e : upd f j x = f') (hj : j = 40 + n) (hx : zIv (j % 8) x) : zTr (n + 1) f' := by
  subst e
  intro r hr
  unfold upd
  split
  · next q => rw [show r = j % 8 by omega]; exact hx
  · next q => exact h r (by omega)
theorem zTr_u {f f' : Nat → Int32} {j : Nat} {x : Int32} (h : zTr 8 f) (e : upd f j x = f') (hx : zIv (j % 8) x) : zTr 8 f' := by
  subst e
  intro r hr
  unfold upd
  split
  · next q => rw [show r = j % 8 by omega]; exact hx
  · exact h r hr
