/-! the standard shape of a contract: an environment (tables, nest links, statics, strings), a world of cells, a set A of the addresses that may be written -/
abbrev zS : Type := (Nat → Int32) × (Nat → Int64) × (Nat → Nat → Int32) × (Nat → Nat → Int64)
def zl {α : Type} (d : α) (xs : List α) : Nat → α := fun k => xs.getD k d
def z_rng (lo hi : Int) (f : Nat → Int32) : Prop := ∀ j : Nat, lo ≤ (f j).toInt ∧ (f j).toInt ≤ hi
abbrev zT (ca : Nat → ClassId) : List (ClassId × FieldType) := [(ca 0, .int), (ca 1, .long), (ca 2, .byte), (ca 3, .boolean)]
def zNw : List Cond := [.methodLinkNest RX8 18 yX6_init RX8, .methodLinkNest RX8 38 yX1_init RX8, .methodLinkNest RX8 45 yX5_init RX8, .methodLinkNest RX8 9 yX7_init RX8, .methodLinkNest RX1 50 yX0_init RX8, .methodLinkNest RX1 64 yX8_only RX8, .methodLinkNest RX4 152 yX8_isIn RX8, .methodLinkNest RX4 166 yX8_only RX8, .methodLinkNest RX4 26 yX2_init RX8, .methodLinkNest RX4 33 yX0_init RX8, .methodLinkNest RX4 52 yX3_init RX8, .methodLinkNest RX4 88 yX8_isWay RX8, .methodLinkNest RX6 91 yX8_isWithinBounds RX8, .fieldLinkNest RX6 22 "BranchPlay" "USUAL" "[I" RX8]
def zN (U : State) : Prop := ∀ w ∈ zNw, va_Nw w U
theorem zN.warm {s U : State} (hW : s.WarmedH U.vm) (h : zN s) : zN U := by
  intro w hw
  have h1 := h w hw
  simp only [zNw, List.mem_cons, List.not_mem_nil, or_false] at hw
  rcases hw with rfl | rfl | rfl | rfl | rfl | rfl | rfl | rfl | rfl | rfl | rfl | rfl | rfl | rfl
  all_goals first | exact va_Nw.warmM hW h1 | exact va_Nw.warmF hW h1
theorem zN.same {u U : State} (hv : u.vm = U.vm) (h : zN u) : zN U := by
  intro w hw
  refine va_Nw.same ?_ hv (h w hw)
  simp only [zNw, List.mem_cons, List.not_mem_nil, or_false] at hw
  rcases hw with rfl | rfl | rfl | rfl | rfl | rfl | rfl | rfl | rfl | rfl | rfl | rfl | rfl | rfl <;> rfl
/-! the words "every ahead .. all " of both classes: one text -/
def zWb : List Int32 := [101, 118, 101, 114, 121, 32, 97, 104, 101, 97, 100, 32, 116, 101, 115, 116, 32, 113, 117, 101, 117, 101, 32, 102, 114, 101, 101, 122, 101, 32, 114, 101, 119, 111, 114, 107, 32, 104, 111, 116, 32, 112, 105, 99, 107, 32, 110, 111, 110, 101, 32, 102, 105, 120, 101, 115, 32, 97, 108, 108, 32]
def zWt : String := "every ahead test queue freeze rework hot pick none fixes all "
/-- statics: sa 0, 1, 2: USUAL, LEAST, MOST; sa 3, 4: the text, its bytes -/
def zSt (sa : Nat → Nat) (A : Nat → Prop) (U : State) (H : Heap) : Prop :=
  (va_Z RX8 "USUAL" "[I" (.ref (sa 0)) A U H ∧ va_T .int (sa 0) 8 (fun j => .int (([20, 4, 2, 3, 0, 1, -1, 1] : List Int32).getD j 0)) A U H) ∧
  (va_Z RX8 "LEAST" "[I" (.ref (sa 1)) A U H ∧ va_T .int (sa 1) 7 (fun j => .int (([2, 1, 0, 1, 0, 0, 1] : List Int32).getD j 0)) A U H) ∧
  (va_Z RX8 "MOST" "[I" (.ref (sa 2)) A U H ∧ va_T .int (sa 2) 7 (fun j => .int (([100, 50, 50, 9, 50, 9, 50] : List Int32).getD j 0)) A U H) ∧
  (va_Z "java/lang/String" "COMPACT_STRINGS" "Z" (.int 1) A U H) ∧
  ((vk_R RX7 26 zWt (sa 3) U ∧ vk_R RX9 129 zWt (sa 3) U) ∧ vk_S 1 [61] [zWb] (fun _ => sa 3) (fun _ => sa 4) A U H) ∧
  va_Zq "jdk/internal/util/Preconditions" "SIOOBE_FORMATTER" "Ljava/util/function/BiFunction;" A U H
theorem zSt.kept {sa : Nat → Nat} {A : Nat → Prop} {U : State} {H H1 : Heap} (h : zSt sa A U H) (hq : ∀ a : Nat, a < H.size → ¬ A a → H1[a]? = H[a]?) : zSt sa A U H1 := by
  obtain ⟨⟨a1, a2⟩, ⟨b1, b2⟩, ⟨c1, c2⟩, d1, ⟨⟨e1, e0⟩, e2⟩, f1⟩ := h
  exact ⟨⟨a1.kept hq, a2.kept hq⟩, ⟨b1.kept hq, b2.kept hq⟩, ⟨c1.kept hq, c2.kept hq⟩, d1.kept hq, ⟨⟨e1, e0⟩, e2.kept hq⟩, f1.kept hq⟩
theorem zSt.warm {sa : Nat → Nat} {A : Nat → Prop} {s U : State} {H : Heap} (hW : s.WarmedH U.vm) (h : zSt sa A s H) : zSt sa A U H := by
  obtain ⟨⟨a1, a2⟩, ⟨b1, b2⟩, ⟨c1, c2⟩, d1, ⟨⟨e1, e0⟩, e2⟩, f1⟩ := h
  have hv := hW.alike
  exact ⟨⟨a1.moved hv, a2.moved hv⟩, ⟨b1.moved hv, b2.moved hv⟩, ⟨c1.moved hv, c2.moved hv⟩, d1.moved hv, ⟨⟨e1.warm hW, e0.warm hW⟩, e2.moved hv⟩, f1.moved hv⟩
theorem zSt.same {sa : Nat → Nat} {A : Nat → Prop} {u U : State} {H : Heap} (hv : u.vm = U.vm) (h : zSt sa A u H) : zSt sa A U H := by
  obtain ⟨⟨a1, a2⟩, ⟨b1, b2⟩, ⟨c1, c2⟩, d1, ⟨⟨e1, e0⟩, e2⟩, f1⟩ := h
  have hq : u.vm.Alike U.vm := by rw [hv]; exact Vm.Alike.refl U.vm
  exact ⟨⟨a1.moved hq, a2.moved hq⟩, ⟨b1.moved hq, b2.moved hq⟩, ⟨c1.moved hq, c2.moved hq⟩, d1.moved hq, ⟨⟨e1.same hv.symm, e0.same hv.symm⟩, e2.moved hq⟩, f1.moved hq⟩
def zE (D : va_G) (ca : Nat → ClassId) (sa : Nat → Nat) (A : Nat → Prop) (U : State) (H : Heap) : Prop :=
  va_K D vwCl (zT ca) U ∧ zN U ∧ zSt sa A U H ∧ ∀ q : Nat, H.size ≤ q → A q
theorem zE.warm {D : va_G} {ca : Nat → ClassId} {sa : Nat → Nat} {A : Nat → Prop} {s U : State} {H : Heap} {locs : List Loc} (h : zE D ca sa A s s.heap) (hS : va_S A s.heap H locs) (hU : U.heap = H) (hW : s.WarmedH U.vm) : zE D ca sa A U U.heap := by
  obtain ⟨h1, h2, h3, h4⟩ := h
  rw [hU]
  exact ⟨va_K.moved hW.alike h1, h2.warm hW, (h3.kept hS.2.1).warm hW, fun q hq => h4 q (Nat.le_trans hS.1 hq)⟩
theorem zE.same {D : va_G} {ca : Nat → ClassId} {sa : Nat → Nat} {A : Nat → Prop} {u U : State} {H : Heap} (hv : u.vm = U.vm) (h : zE D ca sa A u H) : zE D ca sa A U H := by
  obtain ⟨h1, h2, h3, h4⟩ := h
  exact ⟨va_K.moved (by rw [hv]; exact Vm.Alike.refl U.vm) h1, h2.same hv, h3.same hv, h4⟩
def zPre (D : va_G) (ca : Nat → ClassId) (sa : Nat → Nat) (A : Nat → Prop) (ws : va_W) : State → Prop := fun U => zE D ca sa A U U.heap ∧ va_P D vwCl ws U.heap ∧ va_D A ws
def zPost (D : va_G) (A : Nat → Prop) (ws : va_W) : State → Prop := fun t => va_P D vwCl ws t.heap ∧ va_D A ws
theorem z_blind {D : va_G} {ca : Nat → ClassId} {sa : Nat → Nat} {A : Nat → Prop} {ws : va_W} {av : List Value} : FrameBlind (va_Pc av (zPre D ca sa A ws)) := by
  intro a U g mk q
  obtain ⟨q0, qE, qP, qD⟩ := q
  exact ⟨q0, zE.same (u := U) (U := U.calling g mk a) (H := U.heap) rfl qE, qP, qD⟩
section ZCALL
variable {p : Program} {l : Launch} {e : Env} {R : Room} {s : State} {m : MethodId} {args : Array Value} {below : List Frame} {meth : Method} {c : Code} {H : Heap} {locs : List Loc} {cells slots : Nat} {Q : State → Prop}
variable {D : va_G} {ca : Nat → ClassId} {sa : Nat → Nat} {A : Nat → Prop} {w0 : va_W} {y : MethodName} {ws : List Cond} {rm : Room} {bytes cc : ByteArray} {maxL nL n index : Nat} {ret : Option FieldType} {Ts : List Cond} {own C : String} {b : Addr} {As rest st0 : List Value} {pc : Nat} {ls : Array Slot} {host : String} {mc ms : Nat}
theorem z_pre {av : List Value} (hE : zE D ca sa A s s.heap) (hP : va_P D vwCl w0 H) (hD : va_D A w0) (hS : va_S A s.heap H locs) : ∀ U : State, U.heap = H → s.WarmedH U.vm → va_Pc av (zPre D ca sa A w0) av.toArray U :=
  fun _ hU hW => ⟨rfl, hE.warm hS hU hW, by rw [hU]; exact hP, hD⟩
theorem z_iV {S : Type} {post : Int32 → S → Prop} {w1 : S → va_W} (F : CallFix p m c cc nL s args Ts own) (hM : Met l y ws rm (va_Pc (.ref b :: As) (zPre D ca sa A w0)) (va_Qi post (fun u t => zPost D A (w1 u) t) A) mc ms A) (cw : CallW R s args own C index y bytes maxL ret ws rm mc ms n) (hE : zE D ca sa A s s.heap) (hP : va_P D vwCl w0 H) (hD : va_D A w0) (hS : va_S A s.heap H locs) (ci q0 : Nat) {T : u_T} {N : Nat} {fs : List Value} (hc : vwCl[ci]? = some (C, T, N)) (he : w0[q0]? = some (b, .inr (ci, fs))) (hn : As.length = n) (hz : ls.size = nL) (hst : st0 = As.reverse ++ .ref b :: rest) (hW : (rest.map fun v => v.category).sum ≤ 8) (hdg : decode cc pc = .ok (.invokevirtual index, 3)) (hf : cells + mc ≤ R.cells ∧ slots + ms ≤ R.slots)
    (kk : ∀ (r : Int32) (u : S) (H1 : Heap) (locs1 : List Loc), post r u → va_P D vwCl (w1 u) H1 → va_D A (w1 u) → va_S A s.heap H1 locs1 → W p l e R s m args below meth c H1 locs1 (cells + mc) (slots + ms) Q (F0 m (pc + 3) ls (.int r :: rest))) : W p l e R s m args below meth c H locs cells slots Q (F0 m pc ls st0) := by
  subst hst
  exact va_calli (va_runV F hM cw ⟨z_blind, va_recv hE.1 hP hc he, z_pre hE hP hD hS⟩ rfl hn hz rfl (lv_room hW) hdg hf) hS (fun _ _ h => h) (fun _ h => h) (fun r u t H1 locs1 ht _ hp hb _ _ hS1 => kk r u H1 locs1 hp (by rw [← ht]; exact hb.1) hb.2 hS1)
theorem z_iR {S : Type} {post : Int32 → S → Prop} {w1 : S → va_W} (F : CallFix p m c cc nL s args Ts own) (hM : Met l y ws rm (va_Pc (.ref b :: As) (zPre D ca sa A w0)) (va_Qi post (fun u t => zPost D A (w1 u) t) A) mc ms A) (cw : CallW R s args own C index y bytes maxL ret ws rm mc ms n) (hE : zE D ca sa A s s.heap) (hP : va_P D vwCl w0 H) (hD : va_D A w0) (hS : va_S A s.heap H locs) (hrec : ∃ cellB : Cell, H[b]? = some cellB ∧ cellB.vm.isStatics = false ∧ s.vm.findClass C = some cellB.cls) (hn : As.length = n) (hz : ls.size = nL) (hst : st0 = As.reverse ++ .ref b :: rest) (hW : (rest.map fun v => v.category).sum ≤ 8) (hdg : decode cc pc = .ok (.invokevirtual index, 3)) (hf : cells + mc ≤ R.cells ∧ slots + ms ≤ R.slots)
    (kk : ∀ (r : Int32) (u : S) (H1 : Heap) (locs1 : List Loc), post r u → va_P D vwCl (w1 u) H1 → va_D A (w1 u) → va_S A s.heap H1 locs1 → W p l e R s m args below meth c H1 locs1 (cells + mc) (slots + ms) Q (F0 m (pc + 3) ls (.int r :: rest))) : W p l e R s m args below meth c H locs cells slots Q (F0 m pc ls st0) := by
  subst hst
  exact va_calli (va_runV F hM cw ⟨z_blind, hrec, z_pre hE hP hD hS⟩ rfl hn hz rfl (lv_room hW) hdg hf) hS (fun _ _ h => h) (fun _ h => h) (fun r u t H1 locs1 ht _ hp hb _ _ hS1 => kk r u H1 locs1 hp (by rw [← ht]; exact hb.1) hb.2 hS1)
theorem z_lV {S : Type} {post : Int64 → S → Prop} {w1 : S → va_W} (F : CallFix p m c cc nL s args Ts own) (hM : Met l y ws rm (va_Pc (.ref b :: As) (zPre D ca sa A w0)) (va_Ql post (fun u t => zPost D A (w1 u) t) A) mc ms A) (cw : CallW R s args own C index y bytes maxL ret ws rm mc ms n) (hE : zE D ca sa A s s.heap) (hP : va_P D vwCl w0 H) (hD : va_D A w0) (hS : va_S A s.heap H locs) (ci q0 : Nat) {T : u_T} {N : Nat} {fs : List Value} (hc : vwCl[ci]? = some (C, T, N)) (he : w0[q0]? = some (b, .inr (ci, fs))) (hn : As.length = n) (hz : ls.size = nL) (hst : st0 = As.reverse ++ .ref b :: rest) (hW : (rest.map fun v => v.category).sum ≤ 8) (hdg : decode cc pc = .ok (.invokevirtual index, 3)) (hf : cells + mc ≤ R.cells ∧ slots + ms ≤ R.slots)
    (kk : ∀ (r : Int64) (u : S) (H1 : Heap) (locs1 : List Loc), post r u → va_P D vwCl (w1 u) H1 → va_D A (w1 u) → va_S A s.heap H1 locs1 → W p l e R s m args below meth c H1 locs1 (cells + mc) (slots + ms) Q (F0 m (pc + 3) ls (.long r :: rest))) : W p l e R s m args below meth c H locs cells slots Q (F0 m pc ls st0) := by
  subst hst
  exact va_calll (va_runV F hM cw ⟨z_blind, va_recv hE.1 hP hc he, z_pre hE hP hD hS⟩ rfl hn hz rfl (lv_room hW) hdg hf) hS (fun _ _ h => h) (fun _ h => h) (fun r u t H1 locs1 ht _ hp hb _ _ hS1 => kk r u H1 locs1 hp (by rw [← ht]; exact hb.1) hb.2 hS1)
theorem z_vV {S : Type} {post : S → Prop} {w1 : S → va_W} (F : CallFix p m c cc nL s args Ts own) (hM : Met l y ws rm (va_Pc (.ref b :: As) (zPre D ca sa A w0)) (va_Qv post (fun u t => zPost D A (w1 u) t) A) mc ms A) (cw : CallW R s args own C index y bytes maxL ret ws rm mc ms n) (hE : zE D ca sa A s s.heap) (hP : va_P D vwCl w0 H) (hD : va_D A w0) (hS : va_S A s.heap H locs) (ci q0 : Nat) {T : u_T} {N : Nat} {fs : List Value} (hc : vwCl[ci]? = some (C, T, N)) (he : w0[q0]? = some (b, .inr (ci, fs))) (hn : As.length = n) (hz : ls.size = nL) (hst : st0 = As.reverse ++ .ref b :: rest) (hW : (rest.map fun v => v.category).sum ≤ 8) (hdg : decode cc pc = .ok (.invokevirtual index, 3)) (hf : cells + mc ≤ R.cells ∧ slots + ms ≤ R.slots)
    (kk : ∀ (u : S) (H1 : Heap) (locs1 : List Loc), post u → va_P D vwCl (w1 u) H1 → va_D A (w1 u) → va_S A s.heap H1 locs1 → W p l e R s m args below meth c H1 locs1 (cells + mc) (slots + ms) Q (F0 m (pc + 3) ls rest)) : W p l e R s m args below meth c H locs cells slots Q (F0 m pc ls st0) := by
  subst hst
  exact va_callv (va_runV F hM cw ⟨z_blind, va_recv hE.1 hP hc he, z_pre hE hP hD hS⟩ rfl hn hz rfl (lv_room hW) hdg hf) hS (fun _ _ h => h) (fun _ h => h) (fun u t H1 locs1 ht _ hp hb _ _ hS1 => kk u H1 locs1 hp (by rw [← ht]; exact hb.1) hb.2 hS1)
theorem z_iS {S : Type} {post : Int32 → S → Prop} {w1 : S → va_W} (F : CallFix p m c cc nL s args Ts own) (hM : Met l y ws rm (va_Pc As (zPre D ca sa A w0)) (va_Qi post (fun u t => zPost D A (w1 u) t) A) mc ms A) (cw : CallB R s args own index y bytes maxL ret ws rm mc ms n ∧ (Cond.static y).before args s = true) (hE : zE D ca sa A s s.heap) (hP : va_P D vwCl w0 H) (hD : va_D A w0) (hS : va_S A s.heap H locs) (hn : As.length = n) (hz : ls.size = nL) (hst : st0 = As.reverse ++ rest) (hW : (rest.map fun v => v.category).sum ≤ 8) (hdg : decode cc pc = .ok (.invokestatic index, 3)) (hf : cells + mc ≤ R.cells ∧ slots + ms ≤ R.slots)
    (kk : ∀ (r : Int32) (u : S) (H1 : Heap) (locs1 : List Loc), post r u → va_P D vwCl (w1 u) H1 → va_D A (w1 u) → va_S A s.heap H1 locs1 → W p l e R s m args below meth c H1 locs1 (cells + mc) (slots + ms) Q (F0 m (pc + 3) ls (.int r :: rest))) : W p l e R s m args below meth c H locs cells slots Q (F0 m pc ls st0) := by
  subst hst
  exact va_calli (va_runS F hM cw ⟨z_blind, z_pre hE hP hD hS⟩ rfl hn hz rfl (lv_room hW) hdg hf) hS (fun _ _ h => h) (fun _ h => h) (fun r u t H1 locs1 ht _ hp hb _ _ hS1 => kk r u H1 locs1 hp (by rw [← ht]; exact hb.1) hb.2 hS1)
theorem z_vS {S : Type} {post : S → Prop} {w1 : S → va_W} (F : CallFix p m c cc nL s args Ts own) (hM : Met l y ws rm (va_Pc As (zPre D ca sa A w0)) (va_Qv post (fun u t => zPost D A (w1 u) t) A) mc ms A) (cw : CallB R s args own index y bytes maxL ret ws rm mc ms n ∧ (Cond.static y).before args s = true) (hE : zE D ca sa A s s.heap) (hP : va_P D vwCl w0 H) (hD : va_D A w0) (hS : va_S A s.heap H locs) (hn : As.length = n) (hz : ls.size = nL) (hst : st0 = As.reverse ++ rest) (hW : (rest.map fun v => v.category).sum ≤ 8) (hdg : decode cc pc = .ok (.invokestatic index, 3)) (hf : cells + mc ≤ R.cells ∧ slots + ms ≤ R.slots)
    (kk : ∀ (u : S) (H1 : Heap) (locs1 : List Loc), post u → va_P D vwCl (w1 u) H1 → va_D A (w1 u) → va_S A s.heap H1 locs1 → W p l e R s m args below meth c H1 locs1 (cells + mc) (slots + ms) Q (F0 m (pc + 3) ls rest)) : W p l e R s m args below meth c H locs cells slots Q (F0 m pc ls st0) := by
  subst hst
  exact va_callv (va_runS F hM cw ⟨z_blind, z_pre hE hP hD hS⟩ rfl hn hz rfl (lv_room hW) hdg hf) hS (fun _ _ h => h) (fun _ h => h) (fun u t H1 locs1 ht _ hp hb _ _ hS1 => kk u H1 locs1 hp (by rw [← ht]; exact hb.1) hb.2 hS1)
theorem z_iN {S : Type} {post : Int32 → S → Prop} {w1 : S → va_W} (F : CallFix p m c cc nL s args Ts own) (hM : Met l y ws rm (va_Pc As (zPre D ca sa A w0)) (va_Qi post (fun u t => zPost D A (w1 u) t) A) mc ms A) (cw : va_CN R s args own index y host bytes maxL ret ws rm mc ms n ∧ (Cond.static y).before args s = true ∧ True) (hE : zE D ca sa A s s.heap) (hP : va_P D vwCl w0 H) (hD : va_D A w0) (hS : va_S A s.heap H locs) (hn : As.length = n) (hz : ls.size = nL) (hst : st0 = As.reverse ++ rest) (hW : (rest.map fun v => v.category).sum ≤ 8) (hdg : decode cc pc = .ok (.invokestatic index, 3)) (hf : cells + mc ≤ R.cells ∧ slots + ms ≤ R.slots)
    (kk : ∀ (r : Int32) (u : S) (H1 : Heap) (locs1 : List Loc), post r u → va_P D vwCl (w1 u) H1 → va_D A (w1 u) → va_S A s.heap H1 locs1 → W p l e R s m args below meth c H1 locs1 (cells + mc) (slots + ms) Q (F0 m (pc + 3) ls (.int r :: rest))) : W p l e R s m args below meth c H locs cells slots Q (F0 m pc ls st0) := by
  subst hst
  exact va_calli (va_runSN F hM cw ⟨z_blind, z_pre hE hP hD hS⟩ rfl hn hz rfl (lv_room hW) hdg hf) hS (fun _ _ h => h) (fun _ h => h) (fun r u t H1 locs1 ht _ hp hb _ _ hS1 => kk r u H1 locs1 hp (by rw [← ht]; exact hb.1) hb.2 hS1)
theorem z_lN {S : Type} {post : Int64 → S → Prop} {w1 : S → va_W} (F : CallFix p m c cc nL s args Ts own) (hM : Met l y ws rm (va_Pc As (zPre D ca sa A w0)) (va_Ql post (fun u t => zPost D A (w1 u) t) A) mc ms A) (cw : va_CN R s args own index y host bytes maxL ret ws rm mc ms n ∧ (Cond.static y).before args s = true ∧ True) (hE : zE D ca sa A s s.heap) (hP : va_P D vwCl w0 H) (hD : va_D A w0) (hS : va_S A s.heap H locs) (hn : As.length = n) (hz : ls.size = nL) (hst : st0 = As.reverse ++ rest) (hW : (rest.map fun v => v.category).sum ≤ 8) (hdg : decode cc pc = .ok (.invokestatic index, 3)) (hf : cells + mc ≤ R.cells ∧ slots + ms ≤ R.slots)
    (kk : ∀ (r : Int64) (u : S) (H1 : Heap) (locs1 : List Loc), post r u → va_P D vwCl (w1 u) H1 → va_D A (w1 u) → va_S A s.heap H1 locs1 → W p l e R s m args below meth c H1 locs1 (cells + mc) (slots + ms) Q (F0 m (pc + 3) ls (.long r :: rest))) : W p l e R s m args below meth c H locs cells slots Q (F0 m pc ls st0) := by
  subst hst
  exact va_calll (va_runSN F hM cw ⟨z_blind, z_pre hE hP hD hS⟩ rfl hn hz rfl (lv_room hW) hdg hf) hS (fun _ _ h => h) (fun _ h => h) (fun r u t H1 locs1 ht _ hp hb _ _ hS1 => kk r u H1 locs1 hp (by rw [← ht]; exact hb.1) hb.2 hS1)
end ZCALL
/-! numbers -/
theorem z_rngI (x : Int32) : -2147483648 ≤ x.toInt ∧ x.toInt < 2147483648 := by
  have h1 := Int32.le_toInt x
  have h2 := Int32.toInt_lt x
  omega
theorem z_bmod {z : Int} (h1 : -2147483648 ≤ z) (h2 : z < 2147483648) : z.bmod (2 ^ 32) = z := by
  rw [Int.bmod_def]
  omega
theorem z_add {a b x : Int32} {i j : Int} (e : x = a + b) (ha : a.toInt = i) (hb : b.toInt = j) (h1 : -2147483648 ≤ i + j) (h2 : i + j < 2147483648) : x.toInt = i + j := by
  rw [e, Int32.toInt_add, ha, hb]; exact z_bmod h1 h2
theorem z_sub {a b x : Int32} {i j : Int} (e : x = a - b) (ha : a.toInt = i) (hb : b.toInt = j) (h1 : -2147483648 ≤ i - j) (h2 : i - j < 2147483648) : x.toInt = i - j := by
  rw [e, Int32.toInt_sub, ha, hb]; exact z_bmod h1 h2
theorem z_mul {a b x : Int32} {i j : Int} (e : x = a * b) (ha : a.toInt = i) (hb : b.toInt = j) (h1 : -2147483648 ≤ i * j) (h2 : i * j < 2147483648) : x.toInt = i * j := by
  rw [e, Int32.toInt_mul, ha, hb]; exact z_bmod h1 h2
theorem z_lt {a b : Int32} {i j : Int} (ha : a.toInt = i) (hb : b.toInt = j) (c : a < b) : i < j := by rw [← ha, ← hb]; exact Int32.lt_iff_toInt_lt.mp c
theorem z_nlt {a b : Int32} {i j : Int} (ha : a.toInt = i) (hb : b.toInt = j) (c : ¬ a < b) : j ≤ i := by rw [← ha, ← hb]; exact Int.not_lt.mp (fun h => c (Int32.lt_iff_toInt_lt.mpr h))
theorem z_le {a b : Int32} {i j : Int} (ha : a.toInt = i) (hb : b.toInt = j) (c : a ≤ b) : i ≤ j := by rw [← ha, ← hb]; exact Int32.le_iff_toInt_le.mp c
theorem z_nle {a b : Int32} {i j : Int} (ha : a.toInt = i) (hb : b.toInt = j) (c : ¬ a ≤ b) : j < i := by rw [← ha, ← hb]; exact Int.not_le.mp (fun h => c (Int32.le_iff_toInt_le.mpr h))
theorem z_eq {a b : Int32} {i j : Int} (ha : a.toInt = i) (hb : b.toInt = j) (c : a = b) : i = j := by rw [← ha, ← hb, c]
theorem z_ne {a b : Int32} {i j : Int} (ha : a.toInt = i) (hb : b.toInt = j) (c : ¬ a = b) : i ≠ j := by rw [← ha, ← hb]; exact fun h => c (Int32.toInt_inj.mp h)
theorem z_in {x : Int32} {n : Nat} {i : Int} (hx : x.toInt = i) (h0 : 0 ≤ i) (h1 : i < (n : Int)) : vp_in x n := vp_in_iff.mpr ⟨by omega, by omega⟩
theorem z_at {lo hi : Int} {f : Nat → Int32} {k : Nat} {x : Int32} (h : z_rng lo hi f) (e : x = f k) : lo ≤ x.toInt ∧ x.toInt ≤ hi := by rw [e]; exact h k
theorem z_upd {lo hi : Int} {f g : Nat → Int32} {k : Nat} {x : Int32} {i : Int} (e : g = upd f k x) (h : z_rng lo hi f) (hx : x.toInt = i) (h0 : lo ≤ i) (h1 : i ≤ hi) : z_rng lo hi g := by
  intro j
  rw [e]
  unfold upd
  split
  · omega
  · exact h j
theorem z_01 {x : Int32} (h : 0 ≤ x.toInt ∧ x.toInt ≤ 1) : x = 0 ∨ x = 1 := by
  rcases (show x.toInt = 0 ∨ x.toInt = 1 by omega) with q | q
  · exact Or.inl (Int32.toInt_inj.mp q)
  · exact Or.inr (Int32.toInt_inj.mp q)
theorem z_nz {x : Int32} (h : 0 ≤ x.toInt ∧ x.toInt ≤ 1) : narrow .boolean (.int x) = .int x := by
  rcases z_01 h with q | q <;> rw [q] <;> rfl
theorem z_fz {x : Int32} (h : 0 ≤ x.toInt ∧ x.toInt ≤ 1) : fits .boolean (.int x) = true := by
  rcases z_01 h with q | q <;> rw [q] <;> rfl
theorem z_cl (x : Int32) : x.toNatClampNeg = x.toInt.toNat := rfl
