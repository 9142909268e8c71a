def zDr (n : Nat) (f : Nat → Int32) : Prop := ∀ r : Nat, r < n → zIv r (f (32 + r))
theorem zDr_upd {f f' : Nat → Int32} {j : Nat} {x : Int32} (h : zDr 8 f) (e : upd f j x = f') (hx : zIv (j % 8) x) : zDr 8 f' := by
  subst e
  intro r hr
  unfold upd
  split
  · next q => rw [show r = j % 8 by omega]; exact hx
  · exact h r hr
theorem zDr_succ {n : Nat} {f f' : Nat → Int32} {j : Nat} {x : Int32} (hn : n < 8) (h : zDr n f) (e : upd f j x = f') (hj : j = 32 + n) (hx : zIv (j % 8) x) : zDr (n + 1) f' := by
  subst e
  intro r hr
  unfold upd
  split
  · next q => rw [show r = j % 8 by omega]; exact hx
  · next q => exact h r (by omega)

