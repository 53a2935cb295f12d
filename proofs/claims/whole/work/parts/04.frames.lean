/-! the worlds of the two objects, and the frames of contracts and calls -/
abbrev w0 (h ar ao : Nat) (cA cB : ClassId) (g o : Nat → Int32) (n k : Int32) (v : Int64) : va_W := [(h, .inr (0, [.ref ar, .int n, .ref ao, .int k, .long v])), (ar, .inl (cA, 1000, .inl g)), (ao, .inl (cB, 1000, .inl o))]
abbrev w1 (h ar ao : Nat) (cA cB : ClassId) (g o : Nat → Int32) (n k : Int32) (v : Int64) : va_W := [(h, .inr (1, [.ref ar, .ref ao, .int n, .int k, .long v])), (ar, .inl (cA, 1000, .inl g)), (ao, .inl (cB, 1000, .inl o))]
abbrev ty0 (cA cB : ClassId) : List (ClassId × FieldType) := [(cA, .int), (cB, .int)]
abbrev ty1 (cA cB : ClassId) : List (ClassId × FieldType) := [(cA, .byte), (cB, .byte)]
abbrev gS : Type := (Nat → Int32) × (Nat → Int32) × Int32 × Int32 × Int64
abbrev B0 (h ar ao : Nat) (cA cB : ClassId) (u : gS) : va_W := w0 h ar ao cA cB u.1 u.2.1 u.2.2.1 u.2.2.2.1 u.2.2.2.2
abbrev B1 (h ar ao : Nat) (cA cB : ClassId) (u : gS) : va_W := w1 h ar ao cA cB u.1 u.2.1 u.2.2.1 u.2.2.2.1 u.2.2.2.2
/-- a state holds the row t of n bytes, the output z of k bytes, the value v -/
def gs_is (R : (Nat → Nat) → Nat → (Nat → Int32) → Prop) (t : Nat → Nat) (n : Nat) (z : Nat → Nat) (k : Nat) (v : Int64) (u : gS) : Prop := R t n u.1 ∧ R z k u.2.1 ∧ u.2.2.1 = nI n ∧ u.2.2.2.1 = nI k ∧ u.2.2.2.2 = v
abbrev Pw (D : va_G) (cl : List vw_C) (tys : List (ClassId × FieldType)) (sz : Nat) (W0 : va_W) : State → Prop := fun U => U.heap.size = sz ∧ va_P D cl W0 U.heap ∧ va_K D cl tys U ∧ va_D (fun _ => True) W0
abbrev Bw {S : Type} (D : va_G) (cl : List vw_C) (tys : List (ClassId × FieldType)) (sz : Nat) (W0 : va_W) (B : S → va_W) : S → State → Prop := fun u t => va_P D cl (B u) t.heap ∧ va_K D cl tys t ∧ va_D (va_A W0 sz) (B u)
abbrev Pr (D : va_G) (cl : List vw_C) (tys : List (ClassId × FieldType)) (W0 : va_W) : State → Prop := fun U => va_P D cl W0 U.heap ∧ va_K D cl tys U
section MM
variable {l : Launch} {y : MethodName} {ws ws' : List Cond} {rm : Room} {cc : ByteArray} {maxL : Nat} {S : Type} {av : List Value} {D : va_G} {cl : List vw_C} {tys : List (ClassId × FieldType)} {W0 : va_W} {sz mc ms : Nat} {B : S → va_W}
theorem mm_i {post : Int32 → S → Prop} (hy : plainName y.cls = true) (hw : ws = Cond.code y cc maxL (some .int) :: ws') (hlen : (lg_sl av).length ≤ maxL)
    (body : ∀ (p : Program) (e : Env) (s : State) (m : MethodId) (below : List Frame) (meth : Method) (c : Code) (Q : State → Prop) (A : Nat → Prop) (H : Heap) (ls : Array Slot),
      p.tables.exec = Jvm.exec → c.code = cc → c.maxLocals = maxL → s.vm.findClass y.cls = some m.cls → (∀ w ∈ ws, w.before av.toArray s = true) → va_K D cl tys s → va_P D cl W0 H → va_D A W0 → va_S A s.heap H [] → (∀ q, s.heap.size ≤ q → A q) → lv_has ls maxL (lv_args 0 av) →
      (∀ (H : Heap) (locs : List Loc) (ls : Array Slot) (pc : Nat) (r : Int32) (u : S), decode cc pc = .ok (.ireturn, 1) → post r u → va_P D cl (B u) H → va_D A (B u) → va_S A s.heap H locs → W p l e rm s m av.toArray below meth c H locs mc ms Q (F0 m pc ls [.int r])) →
      W p l e rm s m av.toArray below meth c H [] 0 0 Q (F0 m 0 ls [])) :
    Met l y ws rm (va_Pc av (Pw D cl tys sz W0)) (va_Qi post (Bw D cl tys sz W0 B) (va_A W0 sz)) mc ms (va_A W0 sz) := by
  refine Met.ofW (cc := cc) (maxL := maxL) (ret := some .int) hy hw ?_
  intro p e s m args below meth c s₁ Bd hml hv
  obtain ⟨rfl, hsz, hP, hK, hD0⟩ := hv
  have hts := atoms_spec (ws := ws) Bd.pre
  have hown : s.vm.findClass y.cls = some m.cls := findClass_of_methodNamed Bd.named
  have hlocks := Bd.notSynchronized
  subst hsz
  have hD := hD0.self (sz := s.heap.size)
  have hl := lv_entry av (n := maxL) hlen
  rw [lg_entry_eq]
  refine body p e s m below meth c _ (va_A W0 s.heap.size) s.heap _ Bd.exec Bd.bytes hml hown hts hK hP hD va_S.rf (fun q h => Or.inr h) hl ?_
  intro H locs ls pc r u hd hp hP hD hS
  exact W.iret (v := r) Bd.exec Bd.bytes Bd.returns (fun t ht hW => ⟨⟨r, u, rfl, hp, by rw [ht]; exact hP, va_K.moved hW.alike hK, hD⟩, hS.F ht⟩) hS.2.2 hd
theorem mm_v {post : S → Prop} (hy : plainName y.cls = true) (hw : ws = Cond.code y cc maxL none :: ws') (hlen : (lg_sl av).length ≤ maxL)
    (body : ∀ (p : Program) (e : Env) (s : State) (m : MethodId) (below : List Frame) (meth : Method) (c : Code) (Q : State → Prop) (A : Nat → Prop) (H : Heap) (ls : Array Slot),
      p.tables.exec = Jvm.exec → c.code = cc → c.maxLocals = maxL → s.vm.findClass y.cls = some m.cls → (∀ w ∈ ws, w.before av.toArray s = true) → va_K D cl tys s → va_P D cl W0 H → va_D A W0 → va_S A s.heap H [] → (∀ q, s.heap.size ≤ q → A q) → lv_has ls maxL (lv_args 0 av) →
      (∀ (H : Heap) (locs : List Loc) (ls : Array Slot) (pc : Nat) (u : S), decode cc pc = .ok (.return_, 1) → post u → va_P D cl (B u) H → va_D A (B u) → va_S A s.heap H locs → W p l e rm s m av.toArray below meth c H locs mc ms Q (F0 m pc ls [])) →
      W p l e rm s m av.toArray below meth c H [] 0 0 Q (F0 m 0 ls [])) :
    Met l y ws rm (va_Pc av (Pw D cl tys sz W0)) (va_Qv post (Bw D cl tys sz W0 B) (va_A W0 sz)) mc ms (va_A W0 sz) := by
  refine Met.ofW (cc := cc) (maxL := maxL) (ret := none) hy hw ?_
  intro p e s m args below meth c s₁ Bd hml hv
  obtain ⟨rfl, hsz, hP, hK, hD0⟩ := hv
  have hts := atoms_spec (ws := ws) Bd.pre
  have hown : s.vm.findClass y.cls = some m.cls := findClass_of_methodNamed Bd.named
  have hlocks := Bd.notSynchronized
  subst hsz
  have hD := hD0.self (sz := s.heap.size)
  have hl := lv_entry av (n := maxL) hlen
  rw [lg_entry_eq]
  refine body p e s m below meth c _ (va_A W0 s.heap.size) s.heap _ Bd.exec Bd.bytes hml hown hts hK hP hD va_S.rf (fun q h => Or.inr h) hl ?_
  intro H locs ls pc u hd hp hP hD hS
  exact W.vret Bd.exec Bd.bytes Bd.returns (fun t ht hW => ⟨⟨u, rfl, hp, by rw [ht]; exact hP, va_K.moved hW.alike hK, hD⟩, hS.F ht⟩) hS.2.2 hd
theorem ro_i {PU : State → Prop} {post : Int32 → Prop} (hy : plainName y.cls = true) (hw : ws = Cond.code y cc maxL (some .int) :: ws') (hlen : (lg_sl av).length ≤ maxL)
    (body : ∀ (p : Program) (e : Env) (s : State) (m : MethodId) (below : List Frame) (meth : Method) (c : Code) (Q : State → Prop) (ls : Array Slot),
      p.tables.exec = Jvm.exec → c.code = cc → c.maxLocals = maxL → s.vm.findClass y.cls = some m.cls → (∀ w ∈ ws, w.before av.toArray s = true) → PU s → lv_has ls maxL (lv_args 0 av) →
      (∀ (ls : Array Slot) (pc : Nat) (r : Int32), decode cc pc = .ok (.ireturn, 1) → post r → W p l e rm s m av.toArray below meth c s.heap [] 0 0 Q (F0 m pc ls [.int r])) →
      W p l e rm s m av.toArray below meth c s.heap [] 0 0 Q (F0 m 0 ls [])) :
    Met l y ws rm (va_Pc av PU) (vp_Si post) 0 0 (fun _ => False) := by
  refine Met.ofW (cc := cc) (maxL := maxL) (ret := some .int) hy hw ?_
  intro p e s m args below meth c s₁ Bd hml hv
  obtain ⟨rfl, hPU⟩ := hv
  have hts := atoms_spec (ws := ws) Bd.pre
  have hown : s.vm.findClass y.cls = some m.cls := findClass_of_methodNamed Bd.named
  have hlocks := Bd.notSynchronized
  have hl := lv_entry av (n := maxL) hlen
  rw [lg_entry_eq]
  refine body p e s m below meth c _ _ Bd.exec Bd.bytes hml hown hts hPU hl ?_
  intro ls pc r hd hp
  exact W.iret (v := r) Bd.exec Bd.bytes Bd.returns (fun t ht hW => ⟨r, rfl, hp, ht⟩) (fun q h => by cases h) hd
theorem ro_z {PU : State → Prop} {post : Int32 → Prop} (hy : plainName y.cls = true) (hw : ws = Cond.code y cc maxL (some .boolean) :: ws') (hlen : (lg_sl av).length ≤ maxL)
    (body : ∀ (p : Program) (e : Env) (s : State) (m : MethodId) (below : List Frame) (meth : Method) (c : Code) (Q : State → Prop) (ls : Array Slot),
      p.tables.exec = Jvm.exec → c.code = cc → c.maxLocals = maxL → s.vm.findClass y.cls = some m.cls → (∀ w ∈ ws, w.before av.toArray s = true) → PU s → lv_has ls maxL (lv_args 0 av) →
      (∀ (ls : Array Slot) (pc : Nat) (r : Int32), (r = 0 ∨ r = 1) → decode cc pc = .ok (.ireturn, 1) → post r → W p l e rm s m av.toArray below meth c s.heap [] 0 0 Q (F0 m pc ls [.int r])) →
      W p l e rm s m av.toArray below meth c s.heap [] 0 0 Q (F0 m 0 ls [])) :
    Met l y ws rm (va_Pc av PU) (vp_Si post) 0 0 (fun _ => False) := by
  refine Met.ofW (cc := cc) (maxL := maxL) (ret := some .boolean) hy hw ?_
  intro p e s m args below meth c s₁ Bd hml hv
  obtain ⟨rfl, hPU⟩ := hv
  have hts := atoms_spec (ws := ws) Bd.pre
  have hown : s.vm.findClass y.cls = some m.cls := findClass_of_methodNamed Bd.named
  have hlocks := Bd.notSynchronized
  have hl := lv_entry av (n := maxL) hlen
  rw [lg_entry_eq]
  refine body p e s m below meth c _ _ Bd.exec Bd.bytes hml hown hts hPU hl ?_
  intro ls pc r h01 hd hp
  exact W.zret (v := r) Bd.exec Bd.bytes Bd.returns (by rcases h01 with rfl | rfl <;> decide) (fun t ht hW => ⟨r, rfl, hp, ht⟩) (fun q h => by cases h) hd
theorem ro_l {PU : State → Prop} {post : Int64 → Prop} (hy : plainName y.cls = true) (hw : ws = Cond.code y cc maxL (some .long) :: ws') (hlen : (lg_sl av).length ≤ maxL)
    (body : ∀ (p : Program) (e : Env) (s : State) (m : MethodId) (below : List Frame) (meth : Method) (c : Code) (Q : State → Prop) (ls : Array Slot),
      p.tables.exec = Jvm.exec → c.code = cc → c.maxLocals = maxL → s.vm.findClass y.cls = some m.cls → (∀ w ∈ ws, w.before av.toArray s = true) → PU s → lv_has ls maxL (lv_args 0 av) →
      (∀ (ls : Array Slot) (pc : Nat) (r : Int64), decode cc pc = .ok (.lreturn, 1) → post r → W p l e rm s m av.toArray below meth c s.heap [] 0 0 Q (F0 m pc ls [.long r])) →
      W p l e rm s m av.toArray below meth c s.heap [] 0 0 Q (F0 m 0 ls [])) :
    Met l y ws rm (va_Pc av PU) (vp_Sl post) 0 0 (fun _ => False) := by
  refine Met.ofW (cc := cc) (maxL := maxL) (ret := some .long) hy hw ?_
  intro p e s m args below meth c s₁ Bd hml hv
  obtain ⟨rfl, hPU⟩ := hv
  have hts := atoms_spec (ws := ws) Bd.pre
  have hown : s.vm.findClass y.cls = some m.cls := findClass_of_methodNamed Bd.named
  have hlocks := Bd.notSynchronized
  have hl := lv_entry av (n := maxL) hlen
  rw [lg_entry_eq]
  refine body p e s m below meth c _ _ Bd.exec Bd.bytes hml hown hts hPU hl ?_
  intro ls pc r hd hp
  exact W.lret (v := r) Bd.exec Bd.bytes Bd.returns (fun t ht hW => ⟨r, rfl, hp, ht⟩) (fun q h => by cases h) hd
end MM
theorem fm_of {α β : Type} {f : α → Option β} : ∀ {is : List α} {w : List β}, is.map f = w.map some → is.filterMap f = w
  | [], [], _ => rfl
  | [], _ :: _, h => by simp at h
  | _ :: _, [], h => by simp at h
  | i :: is, a :: w, h => by
    rw [List.map_cons, List.map_cons] at h
    injection h with h1 h2
    rw [List.filterMap_cons, h1]
    exact congrArg (a :: ·) (fm_of h2)
section CC
variable {p : Program} {l : Launch} {e : Env} {R : Room} {s : State} {m : MethodId} {args : Array Value} {below : List Frame} {meth : Method} {c : Code} {H : Heap} {locs : List Loc} {cells slots : Nat} {Q : State → Prop}
variable {pc : Nat} {ls : Array Slot} {rest st : List Value} {cc bytes : ByteArray} {nL maxL n index : Nat} {Ts ws : List Cond} {own : String} {y : MethodName} {ret : Option FieldType} {rm : Room} {av : List Value}
/-- a static method that only answers -/
theorem cc_si {post : Int32 → Prop} (C0 : CallFix p m c cc nL s args Ts own) (hM : Met l y ws rm (va_Pc av (fun _ => True)) (vp_Si post) 0 0 (fun _ => False)) (cw : CallB R s args own index y bytes maxL ret ws rm 0 0 n ∧ (Cond.static y).before args s = true)
    (hn : av.length = n) (hsize : ls.size = nL) (hstack : st = av.reverse ++ rest) (hW : (rest.map fun v => v.category).sum ≤ 8) (hdg : decode cc pc = .ok (.invokestatic index, 3)) (hf : cells ≤ R.cells ∧ slots ≤ R.slots)
    (kk : ∀ r : Int32, post r → W p l e R s m args below meth c H locs cells slots Q (F0 m (pc + 3) ls (.int r :: rest))) : W p l e R s m args below meth c H locs cells slots Q (F0 m pc ls st) :=
  vp_callSi (W.runS (g := F0 m pc ls st) (rest := rest) C0 hM cw ⟨fun a U g mk q => q, fun U hU hW => ⟨rfl, trivial⟩⟩ rfl hn hsize hstack (lv_room hW) hdg hf) kk
theorem cc_sl {post : Int64 → Prop} (C0 : CallFix p m c cc nL s args Ts own) (hM : Met l y ws rm (va_Pc av (fun _ => True)) (vp_Sl post) 0 0 (fun _ => False)) (cw : CallB R s args own index y bytes maxL ret ws rm 0 0 n ∧ (Cond.static y).before args s = true)
    (hn : av.length = n) (hsize : ls.size = nL) (hstack : st = av.reverse ++ rest) (hW : (rest.map fun v => v.category).sum ≤ 8) (hdg : decode cc pc = .ok (.invokestatic index, 3)) (hf : cells ≤ R.cells ∧ slots ≤ R.slots)
    (kk : ∀ r : Int64, post r → W p l e R s m args below meth c H locs cells slots Q (F0 m (pc + 3) ls (.long r :: rest))) : W p l e R s m args below meth c H locs cells slots Q (F0 m pc ls st) :=
  vp_callSl (W.runS (g := F0 m pc ls st) (rest := rest) C0 hM cw ⟨fun a U g mk q => q, fun U hU hW => ⟨rfl, trivial⟩⟩ rfl hn hsize hstack (lv_room hW) hdg hf) kk
variable {D : va_G} {cl : List vw_C} {tys : List (ClassId × FieldType)} {wc : va_W} {b ci : Nat} {fs : List Value} {qc : vw_C}
/-- an object's method that only answers -/
theorem cc_vi {post : Int32 → Prop} (C0 : CallFix p m c cc nL s args Ts own) (hM : Met l y ws rm (va_Pc (.ref b :: av) (Pr D cl tys wc)) (vp_Si post) 0 0 (fun _ => False)) (cw : CallW R s args own qc.1 index y bytes maxL ret ws rm 0 0 n)
    (hP : va_P D cl wc H) (hK : va_K D cl tys s) (hc : cl[ci]? = some qc) (he : wc[0]? = some (b, .inr (ci, fs)))
    (hn : av.length = n) (hsize : ls.size = nL) (hstack : st = av.reverse ++ .ref b :: rest) (hW : (rest.map fun v => v.category).sum ≤ 8) (hdg : decode cc pc = .ok (.invokevirtual index, 3)) (hf : cells ≤ R.cells ∧ slots ≤ R.slots)
    (kk : ∀ r : Int32, post r → W p l e R s m args below meth c H locs cells slots Q (F0 m (pc + 3) ls (.int r :: rest))) : W p l e R s m args below meth c H locs cells slots Q (F0 m pc ls st) :=
  vp_callSi (W.runV (g := F0 m pc ls st) (rest := rest) C0 hM cw ⟨fun a U g mk q => ⟨q.1, q.2.1, va_K.moved (u := U) (U := U.calling g mk a) (Vm.Alike.refl U.vm) q.2.2⟩, va_recv hK hP hc he, fun U hU hW => ⟨rfl, by rw [hU]; exact hP, va_K.moved hW.alike hK⟩⟩ rfl hn hsize hstack (lv_room hW) hdg hf) kk
theorem cc_vl {post : Int64 → Prop} (C0 : CallFix p m c cc nL s args Ts own) (hM : Met l y ws rm (va_Pc (.ref b :: av) (Pr D cl tys wc)) (vp_Sl post) 0 0 (fun _ => False)) (cw : CallW R s args own qc.1 index y bytes maxL ret ws rm 0 0 n)
    (hP : va_P D cl wc H) (hK : va_K D cl tys s) (hc : cl[ci]? = some qc) (he : wc[0]? = some (b, .inr (ci, fs)))
    (hn : av.length = n) (hsize : ls.size = nL) (hstack : st = av.reverse ++ .ref b :: rest) (hW : (rest.map fun v => v.category).sum ≤ 8) (hdg : decode cc pc = .ok (.invokevirtual index, 3)) (hf : cells ≤ R.cells ∧ slots ≤ R.slots)
    (kk : ∀ r : Int64, post r → W p l e R s m args below meth c H locs cells slots Q (F0 m (pc + 3) ls (.long r :: rest))) : W p l e R s m args below meth c H locs cells slots Q (F0 m pc ls st) :=
  vp_callSl (W.runV (g := F0 m pc ls st) (rest := rest) C0 hM cw ⟨fun a U g mk q => ⟨q.1, q.2.1, va_K.moved (u := U) (U := U.calling g mk a) (Vm.Alike.refl U.vm) q.2.2⟩, va_recv hK hP hc he, fun U hU hW => ⟨rfl, by rw [hU]; exact hP, va_K.moved hW.alike hK⟩⟩ rfl hn hsize hstack (lv_room hW) hdg hf) kk
variable {S : Type} {B : S → va_W} {wa wr : va_W} {A0 : Nat → Prop} {H0 : Heap}
/-- an object's method that changes its own cells -/
theorem cc_mi {post : Int32 → S → Prop} (isC isR : List Nat) (C0 : CallFix p m c cc nL s args Ts own) (hM : Met l y ws rm (va_Pc (.ref b :: av) (Pw D cl tys H.size wc)) (va_Qi post (Bw D cl tys H.size wc B) (va_A wc H.size)) 0 0 (va_A wc H.size)) (cw : CallW R s args own qc.1 index y bytes maxL ret ws rm 0 0 n)
    (hP : va_P D cl wa H) (hD : va_D A0 wa) (hS : va_S A0 H0 H locs) (hA : ∀ q, H0.size ≤ q → A0 q) (hK : va_K D cl tys s) (hC : isC.map (fun i => wa[i]?) = wc.map some) (hR : isR.map (fun i => wa[i]?) = wr.map some) (hnC : va_nd isC = true) (hnR : va_nd isR = true) (hdis : ∀ i ∈ isR, i ∉ isC) (hc : cl[ci]? = some qc) (he : wc[0]? = some (b, .inr (ci, fs)))
    (hn : av.length = n) (hsize : ls.size = nL) (hstack : st = av.reverse ++ .ref b :: rest) (hW : (rest.map fun v => v.category).sum ≤ 8) (hdg : decode cc pc = .ok (.invokevirtual index, 3)) (hf : cells ≤ R.cells ∧ slots ≤ R.slots)
    (kk : ∀ (r : Int32) (u : S) (H : Heap) (locs : List Loc), post r u → va_P D cl (wr ++ B u) H → va_D A0 (wr ++ B u) → va_S A0 H0 H locs → W p l e R s m args below meth c H locs cells slots Q (F0 m (pc + 3) ls (.int r :: rest))) : W p l e R s m args below meth c H locs cells slots Q (F0 m pc ls st) := by
  have hPc := hP.sub (ws' := wc) isC (fm_of hC)
  have hDc := hD.sub (ws' := wc) isC hnC hC
  have hFc := va_free (wc := wc) hD hS hA isC hC
  refine va_calli (va_runV (g := F0 m pc ls st) (As := av) (rest := rest) C0 hM cw ⟨fun a U g mk q => ⟨q.1, q.2.1, q.2.2.1, va_K.moved (u := U) (U := U.calling g mk a) (Vm.Alike.refl U.vm) q.2.2.2.1, q.2.2.2.2⟩, va_recv hK hPc hc he, fun U hU hW => ⟨rfl, by rw [hU], by rw [hU]; exact hPc, va_K.moved hW.alike hK, hDc.weaken (fun _ _ _ _ => trivial)⟩⟩ rfl hn hsize hstack (lv_room hW) hdg hf) hS (fun q _ h => hFc q h) hFc (fun r u t H1 locs ht hvm hw hB hz1 hk1 hS => ?_)
  obtain ⟨hP1, hK1, hD1⟩ := hB
  rw [ht] at hP1
  obtain ⟨hP, hD⟩ := va_join hP hD isC isR hC hR hnR hdis hk1 hFc hP1 hD1
  exact kk r u H1 locs hw hP hD hS
theorem cc_mv {post : S → Prop} (isC isR : List Nat) (C0 : CallFix p m c cc nL s args Ts own) (hM : Met l y ws rm (va_Pc (.ref b :: av) (Pw D cl tys H.size wc)) (va_Qv post (Bw D cl tys H.size wc B) (va_A wc H.size)) 0 0 (va_A wc H.size)) (cw : CallW R s args own qc.1 index y bytes maxL ret ws rm 0 0 n)
    (hP : va_P D cl wa H) (hD : va_D A0 wa) (hS : va_S A0 H0 H locs) (hA : ∀ q, H0.size ≤ q → A0 q) (hK : va_K D cl tys s) (hC : isC.map (fun i => wa[i]?) = wc.map some) (hR : isR.map (fun i => wa[i]?) = wr.map some) (hnC : va_nd isC = true) (hnR : va_nd isR = true) (hdis : ∀ i ∈ isR, i ∉ isC) (hc : cl[ci]? = some qc) (he : wc[0]? = some (b, .inr (ci, fs)))
    (hn : av.length = n) (hsize : ls.size = nL) (hstack : st = av.reverse ++ .ref b :: rest) (hW : (rest.map fun v => v.category).sum ≤ 8) (hdg : decode cc pc = .ok (.invokevirtual index, 3)) (hf : cells ≤ R.cells ∧ slots ≤ R.slots)
    (kk : ∀ (u : S) (H : Heap) (locs : List Loc), post u → va_P D cl (wr ++ B u) H → va_D A0 (wr ++ B u) → va_S A0 H0 H locs → W p l e R s m args below meth c H locs cells slots Q (F0 m (pc + 3) ls rest)) : W p l e R s m args below meth c H locs cells slots Q (F0 m pc ls st) := by
  have hPc := hP.sub (ws' := wc) isC (fm_of hC)
  have hDc := hD.sub (ws' := wc) isC hnC hC
  have hFc := va_free (wc := wc) hD hS hA isC hC
  refine va_callv (va_runV (g := F0 m pc ls st) (As := av) (rest := rest) C0 hM cw ⟨fun a U g mk q => ⟨q.1, q.2.1, q.2.2.1, va_K.moved (u := U) (U := U.calling g mk a) (Vm.Alike.refl U.vm) q.2.2.2.1, q.2.2.2.2⟩, va_recv hK hPc hc he, fun U hU hW => ⟨rfl, by rw [hU], by rw [hU]; exact hPc, va_K.moved hW.alike hK, hDc.weaken (fun _ _ _ _ => trivial)⟩⟩ rfl hn hsize hstack (lv_room hW) hdg hf) hS (fun q _ h => hFc q h) hFc (fun u t H1 locs ht hvm hw hB hz1 hk1 hS => ?_)
  obtain ⟨hP1, hK1, hD1⟩ := hB
  rw [ht] at hP1
  obtain ⟨hP, hD⟩ := va_join hP hD isC isR hC hR hnR hdis hk1 hFc hP1 hD1
  exact kk u H1 locs hw hP hD hS
end CC
