/-! new cells come to the front of the world -/
theorem z_rotP {D : va_G} {cl : List vw_C} {ws : va_W} {x : Nat × va_E} {H : Heap} (h : va_P D cl (ws ++ [x]) H) : va_P D cl (x :: ws) H := by
  intro k q hk
  cases k with
  | zero =>
    refine h ws.length q ?_
    have hk : some x = some q := hk
    rw [← hk]
    simp
  | succ k =>
    have hk : ws[k]? = some q := hk
    refine h k q ?_
    rw [List.getElem?_append_left (List.getElem?_eq_some_iff.mp hk).1]
    exact hk
theorem z_rotD {A : Nat → Prop} {ws : va_W} {x : Nat × va_E} (h : va_D A (ws ++ [x])) : va_D A (x :: ws) := by
  refine h.by (fun k => match k with | 0 => ws.length | k + 1 => k) (fun k q hk => ?_) (fun i j hi hj e => ?_)
  · cases k with
    | zero =>
      show (ws ++ [x])[ws.length]? = some q
      have hk : some x = some q := hk
      rw [← hk]
      simp
    | succ k =>
      show (ws ++ [x])[k]? = some q
      have hk : ws[k]? = some q := hk
      rw [List.getElem?_append_left (List.getElem?_eq_some_iff.mp hk).1]
      exact hk
  · rw [List.length_cons] at hi hj
    cases i with
    | zero =>
      cases j with
      | zero => rfl
      | succ j =>
        have e : ws.length = j := e
        omega
    | succ i =>
      cases j with
      | zero =>
        have e : i = ws.length := e
        omega
      | succ j =>
        have e : i = j := e
        rw [e]
section ZNEW
variable {p : Program} {l : Launch} {e : Env} {R : Room} {s : State} {m : MethodId} {args : Array Value} {below : List Frame} {meth : Method} {c : Code} {H : Heap} {locs : List Loc} {cells slots : Nat} {Q : State → Prop}
variable {D : va_G} {ca : Nat → ClassId} {sa : Nat → Nat} {A : Nat → Prop} {w0 : va_W} {y : MethodName} {ws : List Cond} {rm : Room} {bytes cc : ByteArray} {maxL nL n index : Nat} {Ts : List Cond} {own C : String} {b : Addr} {As rest st0 : List Value} {pc : Nat} {ls : Array Slot} {host : String} {mc ms : Nat}
theorem z_newa {atype : ArrayType} {ty : FieldType} (k : Nat) (hx : p.tables.exec = Jvm.exec) (hb : c.code = cc) (harr : (Cond.arrayClass (newarray.typeOf atype)).before args s = true) (hty : newarray.typeOf atype = ty) (hE : zE D ca sa A s s.heap) (hk : (zT ca)[k]? = some (ca k, ty)) (hR : ∀ cA : ClassId, va_RA s cA ty → s.vm.findClass ("[" ++ ty.toString) = some cA) (hP : va_P D vwCl w0 H) (hD : va_D A w0) (hS : va_S A s.heap H locs) {k0 : Int32} {N' : Nat} {a0 : vp_A} (ha : ∀ cA : ClassId, vp_cell cA a0 = arrV cA N' (fun _ => defaultValue ty)) (hn : ¬ k0 < 0) (hN : k0.toNatClampNeg = N') (hbytes : N' * componentBytes ty ≤ 536870912) (hcells : cells + 1 ≤ R.cells) (hslots : slots + N' ≤ R.slots) (hdg : decode cc pc = .ok (.newarray atype, 2))
    (kk : ∀ (q : Nat) (H1 : Heap), va_P D vwCl ((q, .inl (ca k, a0)) :: w0) H1 → va_D A ((q, .inl (ca k, a0)) :: w0) → va_S A s.heap H1 locs → W p l e R s m args below meth c H1 locs (cells + 1) (slots + N') Q (F0 m (pc + 2) ls (.ref q :: rest))) : W p l e R s m args below meth c H locs cells slots Q (F0 m pc ls (.int k0 :: rest)) := by
  refine va_newa hx hb harr hty hE.1 hP hD hS hE.2.2.2 ha hn hN hbytes hcells hslots hdg (fun q cA H1 hK1 hP1 hD1 hS1 => ?_)
  have h1 := hR _ (hK1.2 4 (cA, ty) rfl).2
  have h2 := hR _ (hE.1.2 k (ca k, ty) hk).2
  have h3 : cA = ca k := Option.some.inj (h1.symm.trans h2)
  subst h3
  exact kk q H1 (z_rotP hP1) (z_rotD hD1) hS1
theorem z_new {T : u_T} {N ci : Nat} (hx : p.tables.exec = Jvm.exec) (hb : c.code = cc) (hts : ∀ w ∈ Ts, w.before args s = true) (hin : ∀ w ∈ u_ws C T N, w ∈ Ts) (ty : Nat → FieldType) (hty : ∀ k, k < N → parseFieldDescriptor (T k).2.2.1 = some (ty k)) (hown : s.vm.findClass own = some m.cls) (hcl : (Cond.classLink own index C).before args s = true) (hinst : (Cond.instantiable C N).before args s = true) (hini : (Cond.initialized C).before args s = true)
    (hE : zE D ca sa A s s.heap) (hP : va_P D vwCl w0 H) (hD : va_D A w0) (hS : va_S A s.heap H locs) (hc : vwCl[ci]? = some (C, T, N)) {fs : List Value} (hfs : ∀ j, j < N → defaultValue (ty j) = vp_V fs j) (hcells : cells + 1 ≤ R.cells) (hslots : slots + N ≤ R.slots) (hdg : decode cc pc = .ok (.new index, 3))
    (kk : ∀ (q : Nat) (H1 : Heap), va_P D vwCl ((q, .inr (ci, fs)) :: w0) H1 → va_D A ((q, .inr (ci, fs)) :: w0) → va_S A s.heap H1 locs →
      W p l e R s m args below meth c H1 locs (cells + 1) (slots + N) Q (F0 m (pc + 3) ls (.ref q :: rest))) : W p l e R s m args below meth c H locs cells slots Q (F0 m pc ls rest) :=
  va_new hx hb hts hin ty hty hown hcl hinst hini hE.1 hP hD hS hE.2.2.2 hc hfs hcells hslots hdg (fun q H1 hP1 hD1 hS1 => kk q H1 (z_rotP hP1) (z_rotD hD1) hS1)
theorem z_vI {S : Type} {post : S → Prop} {w1 : S → va_W} (F : CallFix p m c cc nL s args Ts own) (hM : Met l y ws rm (va_Pc (.ref b :: As) (zPre D ca sa A w0)) (va_Qv post (fun u t => zPost D A (w1 u) t) A) mc ms A) (cw : CallB R s args own index y bytes maxL none ws rm mc ms n ∧ y.name = "<init>" ∧ (Cond.instanceMethod y).before args s = true) (hE : zE D ca sa A s s.heap) (hP : va_P D vwCl w0 H) (hD : va_D A w0) (hS : va_S A s.heap H locs) (hn : As.length = n) (hz : ls.size = nL) (hst : st0 = As.reverse ++ .ref b :: rest) (hW : (rest.map fun v => v.category).sum ≤ 8) (hdg : decode cc pc = .ok (.invokespecial index, 3)) (hf : cells + mc ≤ R.cells ∧ slots + ms ≤ R.slots)
    (kk : ∀ (u : S) (H1 : Heap) (locs1 : List Loc), post u → va_P D vwCl (w1 u) H1 → va_D A (w1 u) → va_S A s.heap H1 locs1 → W p l e R s m args below meth c H1 locs1 (cells + mc) (slots + ms) Q (F0 m (pc + 3) ls rest)) : W p l e R s m args below meth c H locs cells slots Q (F0 m pc ls st0) := by
  subst hst
  exact va_callv (va_runI F hM cw ⟨z_blind, z_pre hE hP hD hS⟩ rfl hn hz rfl (lv_room hW) hdg hf) hS (fun _ _ h => h) (fun _ h => h) (fun u t H1 locs1 ht _ hp hb _ _ hS1 => kk u H1 locs1 hp (by rw [← ht]; exact hb.1) hb.2 hS1)
theorem z_vIN {S : Type} {post : S → Prop} {w1 : S → va_W} (F : CallFix p m c cc nL s args Ts own) (hM : Met l y ws rm (va_Pc (.ref b :: As) (zPre D ca sa A w0)) (va_Qv post (fun u t => zPost D A (w1 u) t) A) mc ms A) (cw : va_CN R s args own index y host bytes maxL none ws rm mc ms n ∧ y.name = "<init>" ∧ (Cond.instanceMethod y).before args s = true) (hE : zE D ca sa A s s.heap) (hP : va_P D vwCl w0 H) (hD : va_D A w0) (hS : va_S A s.heap H locs) (hn : As.length = n) (hz : ls.size = nL) (hst : st0 = As.reverse ++ .ref b :: rest) (hW : (rest.map fun v => v.category).sum ≤ 8) (hdg : decode cc pc = .ok (.invokespecial index, 3)) (hf : cells + mc ≤ R.cells ∧ slots + ms ≤ R.slots)
    (kk : ∀ (u : S) (H1 : Heap) (locs1 : List Loc), post u → va_P D vwCl (w1 u) H1 → va_D A (w1 u) → va_S A s.heap H1 locs1 → W p l e R s m args below meth c H1 locs1 (cells + mc) (slots + ms) Q (F0 m (pc + 3) ls rest)) : W p l e R s m args below meth c H locs cells slots Q (F0 m pc ls st0) := by
  subst hst
  exact va_callv (va_runIN F hM cw ⟨z_blind, z_pre hE hP hD hS⟩ rfl hn hz rfl (lv_room hW) hdg hf) hS (fun _ _ h => h) (fun _ h => h) (fun u t H1 locs1 ht _ hp hb _ _ hS1 => kk u H1 locs1 hp (by rw [← ht]; exact hb.1) hb.2 hS1)
end ZNEW
def zRw (n : Nat) (f : Nat → Int32) : Prop := ∀ j : Nat, j < n → zIv (j % 8) (f j)
theorem zRw_s {n : Nat} {f f' : Nat → Int32} {j : Nat} {x : Int32} (h : zRw n f) (e : upd f j x = f') (hj : j = n) (hx : zIv (j % 8) x) : zRw (n + 1) f' := by
  subst e
  intro i hi
  unfold upd
  split
  · next q => rw [q]; exact hx
  · exact h i (by omega)
theorem zRw_ok {f : Nat → Int32} (h : zRw 32 f) : zOkR f (fun _ => 0) := by
  refine ⟨fun j hj => h j hj, fun p hp r hr => ?_⟩
  have q := h r (by omega)
  rw [show r % 8 = r by omega] at q
  rw [show 8 * (0 : Int32).toNatClampNeg + r = r from by rw [show (0 : Int32).toNatClampNeg = 0 from by decide]; omega]
  exact q
