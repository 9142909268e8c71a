def zR4 (x y : Nat → Int32) : Prop := x = y ∧ zBr y
def zR6 (W Y : Nat → Int32) : Prop := ∀ j : Nat, j < 32 → W j = Y j
theorem zR4_0 : zR4 (fun _ => 0) (fun _ => 0) := ⟨rfl, fun _ => (show (-128 : Int) ≤ (0 : Int32).toInt ∧ (0 : Int32).toInt ≤ 127 from by decide)⟩
theorem zR4_feed {n m n' m' rx rm a b c d e : Int32} {x y x' y' : Nat → Int32} (h : zR4 x y) (hn : n.toInt = m.toInt) (h1 : (n.toInt + 20 ≤ 600 ∧ rx.toInt = n.toInt + 20 ∧ n'.toInt = n.toInt + 20) ∨ (600 < n.toInt + 20 ∧ rx.toInt = -3 ∧ n'.toInt = n.toInt)) (h2 : ((rx).toInt = -3 ∧ x' = x) ∨ (¬ (rx).toInt = -3 ∧ x' = zFd x (n).toNatClampNeg (zVs a b c d e) 5)) (h3 : (m.toInt + 20 ≤ 600 ∧ rm.toInt = m.toInt + 20 ∧ m'.toInt = m.toInt + 20) ∨ (600 < m.toInt + 20 ∧ rm.toInt = -3 ∧ m'.toInt = m.toInt)) (h4 : ((rm).toInt = -3 ∧ y' = y) ∨ (¬ (rm).toInt = -3 ∧ y' = zFd y (m).toNatClampNeg (zVs a b c d e) 5)) : zR4 x' y' := by
  obtain ⟨rfl, hb⟩ := h
  have en : n = m := Int32.toInt_inj.mp hn
  subst en
  rcases h2 with ⟨q, rfl⟩ | ⟨q, rfl⟩
  · rcases h4 with ⟨w, rfl⟩ | ⟨w, rfl⟩
    · exact ⟨rfl, hb⟩
    · omega
  · rcases h4 with ⟨w, rfl⟩ | ⟨w, rfl⟩
    · omega
    · exact ⟨rfl, zFd_r hb _ _ _⟩
theorem zR4_way {n m rx rm w k p k' p' g q g' q' u v u' v' : Int32} {x y W Y W' Y' : Nat → Int32} (h : zR4 x y) (hn : n.toInt = m.toInt) (h1 : (¬ (0 ≤ w.toInt ∧ w.toInt ≤ 3) ∧ (rx).toInt = -2 ∧ k' = k ∧ p' = p ∧ W' = W ∧ u' = u) ∨ ((0 ≤ w.toInt ∧ w.toInt ≤ 3) ∧ zWy x (n).toInt W w.toNatClampNeg (rx).toInt (k').toInt (p').toInt W' ∧ ((k').toInt = 0 → (u').toInt = -1) ∧ ((k').toInt ≠ 0 → u' = u))) (h2 : (¬ (0 ≤ w.toInt ∧ w.toInt ≤ 3) ∧ (rm).toInt = -2 ∧ g' = g ∧ q' = q ∧ Y' = Y ∧ v' = v) ∨ ((0 ≤ w.toInt ∧ w.toInt ≤ 3) ∧ zWy y (m).toInt Y w.toNatClampNeg (rm).toInt (g').toInt (q').toInt Y' ∧ ((g').toInt = 0 → (v').toInt = -1) ∧ ((g').toInt ≠ 0 → v' = v))) : rx.toInt = rm.toInt ∧ (k.toInt = g.toInt ∧ p.toInt = q.toInt → k'.toInt = g'.toInt ∧ p'.toInt = q'.toInt) ∧ (zR6 W Y → zR6 W' Y') ∧ (u.toInt = v.toInt → u'.toInt = v'.toInt) := by
  obtain ⟨rfl, hb⟩ := h
  have en : n = m := Int32.toInt_inj.mp hn
  subst en
  rcases h1 with ⟨z, a1, rfl, rfl, rfl, rfl⟩ | ⟨z, a1, a2, a3⟩
  · rcases h2 with ⟨_, b1, rfl, rfl, rfl, rfl⟩ | ⟨z2, _⟩
    · exact ⟨by omega, fun h => h, fun h => h, fun h => h⟩
    · exact absurd z2 z
  · rcases h2 with ⟨z2, _⟩ | ⟨_, b1, b2, b3⟩
    · exact absurd z z2
    · obtain ⟨c1, c2, c3, c4⟩ := zWy_u a1 b1
      refine ⟨c1, fun _ => ⟨c2, c3⟩, c4, fun hu => ?_⟩
      by_cases f : k'.toInt = 0
      · rw [a2 f, b2 (by omega)]
      · rw [a3 f, b3 (by omega)]
        exact hu
theorem zR6_rule {rx rm w t : Int32} {W Y : Nat → Int32} (h : zR6 W Y) (h1 : ((0 ≤ w.toInt ∧ w.toInt ≤ 3 ∧ 0 ≤ t.toInt ∧ t.toInt ≤ 7) ∧ rx = W (8 * w.toNatClampNeg + t.toNatClampNeg)) ∨ (¬ (0 ≤ w.toInt ∧ w.toInt ≤ 3 ∧ 0 ≤ t.toInt ∧ t.toInt ≤ 7) ∧ (rx).toInt = -9)) (h2 : ((0 ≤ w.toInt ∧ w.toInt ≤ 3 ∧ 0 ≤ t.toInt ∧ t.toInt ≤ 7) ∧ rm = Y (8 * w.toNatClampNeg + t.toNatClampNeg)) ∨ (¬ (0 ≤ w.toInt ∧ w.toInt ≤ 3 ∧ 0 ≤ t.toInt ∧ t.toInt ≤ 7) ∧ (rm).toInt = -9)) : rx.toInt = rm.toInt := by
  rcases h1 with ⟨z, a⟩ | ⟨z, a⟩
  · rcases h2 with ⟨z2, b⟩ | ⟨z2, b⟩
    · rw [a, b, h _ (by rw [z_cl, z_cl]; omega)]
    · exact absurd z z2
  · rcases h2 with ⟨z2, b⟩ | ⟨z2, b⟩
    · exact absurd z2 z
    · rw [a, b]
theorem zR1_hangP {u v u' v' : Int32} {x y x' y' : Nat → Int32} {c : Nat} (e : x = y) (e' : x' = y') (hu : u.toInt = v.toInt) (h1 : (u' = u ∧ x' = x) ∨ (u'.toInt = -1 ∧ (x' c).toInt = (x c).toInt + 1)) (h2 : (v' = v ∧ y' = y) ∨ (v'.toInt = -1 ∧ (y' c).toInt = (y c).toInt + 1)) : u'.toInt = v'.toInt := by
  subst e
  subst e'
  rcases h1 with ⟨a, b⟩ | ⟨a, b⟩
  · rcases h2 with ⟨a2, b2⟩ | ⟨a2, b2⟩
    · rw [a, a2]; exact hu
    · rw [b] at b2
      omega
  · rcases h2 with ⟨a2, b2⟩ | ⟨a2, b2⟩
    · rw [b2] at b
      omega
    · rw [a, a2]
