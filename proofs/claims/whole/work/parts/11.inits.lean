/-! the two constructors -/
abbrev RI : Room := { frames := 1, cells := 2, slots := 2000, locals := 30 }

set_option maxHeartbeats 4000000 in
set_option maxRecDepth 100000 in
theorem c_X0_init (l : Launch) (dC : Nat → ClassId) (dI : Nat → Nat → Nat) (h0 sz : Nat) : Met l yX0_init wsX0_init RI (va_Pc [.ref h0] (Pw (dC, dI) vwCl [] sz ([(h0, .inr (0, [.null, .int 0, .null, .int 0, .long 0]))]))) (va_Qv (S := Nat × Nat × ClassId × ClassId) (fun _ => True) (fun u t => va_P (dC, dI) vwCl (w0 h0 u.1 u.2.1 u.2.2.1 u.2.2.2 (fun _ => 0) (fun _ => 0) (nI 0) (nI 0) 0) t.heap ∧ va_K (dC, dI) vwCl (ty0 u.2.2.1 u.2.2.2) t ∧ va_D (va_A ([(h0, .inr (0, [.null, .int 0, .null, .int 0, .long 0]))]) sz) (w0 h0 u.1 u.2.1 u.2.2.1 u.2.2.2 (fun _ => 0) (fun _ => 0) (nI 0) (nI 0) 0)) (va_A ([(h0, .inr (0, [.null, .int 0, .null, .int 0, .long 0]))]) sz)) 2 2000 (va_A ([(h0, .inr (0, [.null, .int 0, .null, .int 0, .long 0]))]) sz) := by
  refine Met.ofW (cc := cX0_init) (maxL := 1) (ret := none) (by decide) rfl ?_
  intro p e s m args below meth c s₁ B hml hv
  obtain ⟨rfl, hsz, hP, hK, hD0⟩ := hv
  have hx := B.exec
  have hb := B.bytes
  have hr := B.returns
  have hts := atoms_spec (ws := wsX0_init) B.pre
  have hown : s.vm.findClass RX0 = some m.cls := findClass_of_methodNamed B.named
  have hlocks := B.notSynchronized
  have hin : meth.name = "<init>" := (name_of_methodNamed B.named B.method).1
  have hin0 : ∀ w ∈ wsX00, w ∈ wsX0_init := by decide +kernel
  subst hsz
  have hD := hD0.self (sz := s.heap.size)
  generalize hAe : va_A ([(h0, .inr (0, [.null, .int 0, .null, .int 0, .long 0]))]) s.heap.size = A at hD ⊢
  have hA : ∀ q : Nat, s.heap.size ≤ q → A q := fun q h => by rw [← hAe]; exact Or.inr h
  have hS : va_S A s.heap s.heap [] := va_S.rf
  have hP : va_P (dC, dI) vwCl ([(h0, .inr (0, [.null, .int 0, .null, .int 0, .long 0]))]) s.heap := hP
  have hl := lv_entry ([.ref h0]) (n := 1) (Nat.le_of_ble_eq_true rfl)
  rw [lg_entry_eq]
  generalize (lg_sl ([.ref h0]) ++ List.replicate (1 - (lg_sl ([.ref h0])).length) Slot.unset).toArray = ls at hl ⊢
  have hl : lv_has ls 1 [(0, .ref h0)] := hl
  refine lv_aload_n hx hb dX0_init_0 rfl (lv_at hl 0 rfl) ?_
  refine W.objInit hx hb hown (hts (.methodLink RX0 1 objectInit) (by decide +kernel)) (hts (.instanceMethod objectInit) (by decide +kernel)) (hts _ (List.mem_cons_of_mem _ (List.mem_append_left _ (List.mem_of_getElem? (i := 2) rfl)))) rfl (by rw [hml]; exact hl.1) rfl dX0_init_1 (Nat.le_of_ble_eq_true rfl) (Nat.le_of_ble_eq_true rfl) ?_
  refine W.eq (g2 := F0 m 4 ls []) rfl ?_
  refine lv_aload_n hx hb dX0_init_4 rfl (lv_at hl 0 rfl) ?_
  refine lv_sipush (v := 1000) hx hb dX0_init_5 (by decide) ?_
  refine va_newa hx hb (atype := .int) (hts (.arrayClass .int) (by decide +kernel)) (ty := .int) rfl hK hP hD hS hA (n := 1000) (N' := 1000) (a0 := (1000, .inl (fun _ => 0))) (fun cA => rfl) (by decide) (by decide) (by decide) (Nat.le_of_ble_eq_true rfl) (Nat.le_of_ble_eq_true rfl) dX0_init_8 (fun ar cA H hK hP hD hS => ?_)
  have hP : va_P (dC, dI) vwCl ([(h0, .inr (0, [.null, .int 0, .null, .int 0, .long 0])), (ar, .inl (cA, 1000, .inl (fun _ => 0)))]) H := hP
  have hD : va_D A ([(h0, .inr (0, [.null, .int 0, .null, .int 0, .long 0])), (ar, .inl (cA, 1000, .inl (fun _ => 0)))]) := hD
  have hK : va_K (dC, dI) vwCl [(cA, .int)] s := hK
  refine va_putF (D := (dC, dI)) (ci := 0) (v := .ref ar) (ty := .array .int) (C := RX0) (T := TX0) (N := 5) hx hb hts hin0 tyX0 tyX0_ok nmX0 hown hK hP hD hS 0 rfl rfl 0 (by decide) (hts (.fieldLink RX0 9 "GroupedNumbers" "row" "[I") (by decide +kernel)) (fun _ h9 => h9) rfl hin rfl (by decide +kernel) rfl rfl (Nat.le_of_ble_eq_true rfl) dX0_init_10 (fun H locs hP hD hS => ?_)
  have hP : va_P (dC, dI) vwCl ([(h0, .inr (0, [.ref ar, .int 0, .null, .int 0, .long 0])), (ar, .inl (cA, 1000, .inl (fun _ => 0)))]) H := hP
  have hD : va_D A ([(h0, .inr (0, [.ref ar, .int 0, .null, .int 0, .long 0])), (ar, .inl (cA, 1000, .inl (fun _ => 0)))]) := hD
  refine lv_aload_n hx hb dX0_init_13 rfl (lv_at hl 0 rfl) ?_
  refine lv_iconst (v := nI 0) hx hb dX0_init_14 (by decide) ?_
  refine va_put (D := (dC, dI)) (ci := 0) (v := .int (nI 0)) (ty := .int) (C := RX0) (T := TX0) (N := 5) hx hb hts hin0 tyX0 tyX0_ok nmX0 hown hK hP hD hS 0 rfl rfl 1 (by decide) (hts (.fieldLink RX0 13 "GroupedNumbers" "rowLength" "I") (by decide +kernel)) (fun _ h9 => h9) rfl (by decide +kernel) rfl rfl (Nat.le_of_ble_eq_true rfl) dX0_init_15 (fun H locs hP hD hS => ?_)
  have hP : va_P (dC, dI) vwCl ([(h0, .inr (0, [.ref ar, .int (nI 0), .null, .int 0, .long 0])), (ar, .inl (cA, 1000, .inl (fun _ => 0)))]) H := hP
  have hD : va_D A ([(h0, .inr (0, [.ref ar, .int (nI 0), .null, .int 0, .long 0])), (ar, .inl (cA, 1000, .inl (fun _ => 0)))]) := hD
  refine lv_aload_n hx hb dX0_init_18 rfl (lv_at hl 0 rfl) ?_
  refine lv_sipush (v := 1000) hx hb dX0_init_19 (by decide) ?_
  refine va_newa hx hb (atype := .int) (hts (.arrayClass .int) (by decide +kernel)) (ty := .int) rfl hK hP hD hS hA (n := 1000) (N' := 1000) (a0 := (1000, .inl (fun _ => 0))) (fun cA => rfl) (by decide) (by decide) (by decide) (Nat.le_of_ble_eq_true rfl) (Nat.le_of_ble_eq_true rfl) dX0_init_22 (fun ao cB H hK hP hD hS => ?_)
  have hP : va_P (dC, dI) vwCl ([(h0, .inr (0, [.ref ar, .int (nI 0), .null, .int 0, .long 0])), (ar, .inl (cA, 1000, .inl (fun _ => 0))), (ao, .inl (cB, 1000, .inl (fun _ => 0)))]) H := hP
  have hD : va_D A ([(h0, .inr (0, [.ref ar, .int (nI 0), .null, .int 0, .long 0])), (ar, .inl (cA, 1000, .inl (fun _ => 0))), (ao, .inl (cB, 1000, .inl (fun _ => 0)))]) := hD
  have hK : va_K (dC, dI) vwCl [(cA, .int), (cB, .int)] s := hK
  refine va_putF (D := (dC, dI)) (ci := 0) (v := .ref ao) (ty := .array .int) (C := RX0) (T := TX0) (N := 5) hx hb hts hin0 tyX0 tyX0_ok nmX0 hown hK hP hD hS 0 rfl rfl 2 (by decide) (hts (.fieldLink RX0 17 "GroupedNumbers" "output" "[I") (by decide +kernel)) (fun _ h9 => h9) rfl hin rfl (by decide +kernel) rfl rfl (Nat.le_of_ble_eq_true rfl) dX0_init_24 (fun H locs hP hD hS => ?_)
  have hP : va_P (dC, dI) vwCl ([(h0, .inr (0, [.ref ar, .int (nI 0), .ref ao, .int 0, .long 0])), (ar, .inl (cA, 1000, .inl (fun _ => 0))), (ao, .inl (cB, 1000, .inl (fun _ => 0)))]) H := hP
  have hD : va_D A ([(h0, .inr (0, [.ref ar, .int (nI 0), .ref ao, .int 0, .long 0])), (ar, .inl (cA, 1000, .inl (fun _ => 0))), (ao, .inl (cB, 1000, .inl (fun _ => 0)))]) := hD
  refine lv_aload_n hx hb dX0_init_27 rfl (lv_at hl 0 rfl) ?_
  refine lv_iconst (v := nI 0) hx hb dX0_init_28 (by decide) ?_
  refine va_put (D := (dC, dI)) (ci := 0) (v := .int (nI 0)) (ty := .int) (C := RX0) (T := TX0) (N := 5) hx hb hts hin0 tyX0 tyX0_ok nmX0 hown hK hP hD hS 0 rfl rfl 3 (by decide) (hts (.fieldLink RX0 20 "GroupedNumbers" "outputLength" "I") (by decide +kernel)) (fun _ h9 => h9) rfl (by decide +kernel) rfl rfl (Nat.le_of_ble_eq_true rfl) dX0_init_29 (fun H locs hP hD hS => ?_)
  have hP : va_P (dC, dI) vwCl ([(h0, .inr (0, [.ref ar, .int (nI 0), .ref ao, .int (nI 0), .long 0])), (ar, .inl (cA, 1000, .inl (fun _ => 0))), (ao, .inl (cB, 1000, .inl (fun _ => 0)))]) H := hP
  have hD : va_D A ([(h0, .inr (0, [.ref ar, .int (nI 0), .ref ao, .int (nI 0), .long 0])), (ar, .inl (cA, 1000, .inl (fun _ => 0))), (ao, .inl (cB, 1000, .inl (fun _ => 0)))]) := hD
  refine lv_aload_n hx hb dX0_init_32 rfl (lv_at hl 0 rfl) ?_
  refine lv_lconst (v := 0) hx hb dX0_init_33 (by decide) ?_
  refine va_put (D := (dC, dI)) (ci := 0) (v := .long 0) (ty := .long) (C := RX0) (T := TX0) (N := 5) hx hb hts hin0 tyX0 tyX0_ok nmX0 hown hK hP hD hS 0 rfl rfl 4 (by decide) (hts (.fieldLink RX0 23 "GroupedNumbers" "lastRead" "J") (by decide +kernel)) (fun _ h9 => h9) rfl (by decide +kernel) rfl rfl (Nat.le_of_ble_eq_true rfl) dX0_init_34 (fun H locs hP hD hS => ?_)
  have hP : va_P (dC, dI) vwCl ([(h0, .inr (0, [.ref ar, .int (nI 0), .ref ao, .int (nI 0), .long 0])), (ar, .inl (cA, 1000, .inl (fun _ => 0))), (ao, .inl (cB, 1000, .inl (fun _ => 0)))]) H := hP
  have hD : va_D A ([(h0, .inr (0, [.ref ar, .int (nI 0), .ref ao, .int (nI 0), .long 0])), (ar, .inl (cA, 1000, .inl (fun _ => 0))), (ao, .inl (cB, 1000, .inl (fun _ => 0)))]) := hD
  refine W.widen (k := 2) (n := 2000) (by decide) (by decide) ?_
  exact W.vret hx hb hr (fun t ht hW => ⟨⟨(ar, ao, cA, cB), rfl, trivial, by rw [ht]; exact hP, va_K.moved hW.alike hK, hD⟩, hS.F ht⟩) hS.2.2 dX0_init_37

set_option maxHeartbeats 4000000 in
set_option maxRecDepth 100000 in
theorem c_X1_init (l : Launch) (dC : Nat → ClassId) (dI : Nat → Nat → Nat) (h0 sz : Nat) : Met l yX1_init wsX1_init RI (va_Pc [.ref h0] (Pw (dC, dI) vwCl [] sz ([(h0, .inr (1, [.null, .null, .int 0, .int 0, .long 0]))]))) (va_Qv (S := Nat × Nat × ClassId × ClassId) (fun _ => True) (fun u t => va_P (dC, dI) vwCl (w1 h0 u.1 u.2.1 u.2.2.1 u.2.2.2 (fun _ => 0) (fun _ => 0) (nI 0) (nI 0) 0) t.heap ∧ va_K (dC, dI) vwCl (ty1 u.2.2.1 u.2.2.2) t ∧ va_D (va_A ([(h0, .inr (1, [.null, .null, .int 0, .int 0, .long 0]))]) sz) (w1 h0 u.1 u.2.1 u.2.2.1 u.2.2.2 (fun _ => 0) (fun _ => 0) (nI 0) (nI 0) 0)) (va_A ([(h0, .inr (1, [.null, .null, .int 0, .int 0, .long 0]))]) sz)) 2 2000 (va_A ([(h0, .inr (1, [.null, .null, .int 0, .int 0, .long 0]))]) sz) := by
  refine Met.ofW (cc := cX1_init) (maxL := 1) (ret := none) (by decide) rfl ?_
  intro p e s m args below meth c s₁ B hml hv
  obtain ⟨rfl, hsz, hP, hK, hD0⟩ := hv
  have hx := B.exec
  have hb := B.bytes
  have hr := B.returns
  have hts := atoms_spec (ws := wsX1_init) B.pre
  have hown : s.vm.findClass RX1 = some m.cls := findClass_of_methodNamed B.named
  have hlocks := B.notSynchronized
  have hin : meth.name = "<init>" := (name_of_methodNamed B.named B.method).1
  have hin0 : ∀ w ∈ wsX10, w ∈ wsX1_init := by decide +kernel
  subst hsz
  have hD := hD0.self (sz := s.heap.size)
  generalize hAe : va_A ([(h0, .inr (1, [.null, .null, .int 0, .int 0, .long 0]))]) s.heap.size = A at hD ⊢
  have hA : ∀ q : Nat, s.heap.size ≤ q → A q := fun q h => by rw [← hAe]; exact Or.inr h
  have hS : va_S A s.heap s.heap [] := va_S.rf
  have hP : va_P (dC, dI) vwCl ([(h0, .inr (1, [.null, .null, .int 0, .int 0, .long 0]))]) s.heap := hP
  have hl := lv_entry ([.ref h0]) (n := 1) (Nat.le_of_ble_eq_true rfl)
  rw [lg_entry_eq]
  generalize (lg_sl ([.ref h0]) ++ List.replicate (1 - (lg_sl ([.ref h0])).length) Slot.unset).toArray = ls at hl ⊢
  have hl : lv_has ls 1 [(0, .ref h0)] := hl
  refine lv_aload_n hx hb dX1_init_0 rfl (lv_at hl 0 rfl) ?_
  refine W.objInit hx hb hown (hts (.methodLink RX1 1 objectInit) (by decide +kernel)) (hts (.instanceMethod objectInit) (by decide +kernel)) (hts _ (List.mem_cons_of_mem _ (List.mem_append_left _ (List.mem_of_getElem? (i := 2) rfl)))) rfl (by rw [hml]; exact hl.1) rfl dX1_init_1 (Nat.le_of_ble_eq_true rfl) (Nat.le_of_ble_eq_true rfl) ?_
  refine W.eq (g2 := F0 m 4 ls []) rfl ?_
  refine lv_aload_n hx hb dX1_init_4 rfl (lv_at hl 0 rfl) ?_
  refine lv_sipush (v := 1000) hx hb dX1_init_5 (by decide) ?_
  refine va_newa hx hb (atype := .byte) (hts (.arrayClass .byte) (by decide +kernel)) (ty := .byte) rfl hK hP hD hS hA (n := 1000) (N' := 1000) (a0 := (1000, .inl (fun _ => 0))) (fun cA => rfl) (by decide) (by decide) (by decide) (Nat.le_of_ble_eq_true rfl) (Nat.le_of_ble_eq_true rfl) dX1_init_8 (fun ar cA H hK hP hD hS => ?_)
  have hP : va_P (dC, dI) vwCl ([(h0, .inr (1, [.null, .null, .int 0, .int 0, .long 0])), (ar, .inl (cA, 1000, .inl (fun _ => 0)))]) H := hP
  have hD : va_D A ([(h0, .inr (1, [.null, .null, .int 0, .int 0, .long 0])), (ar, .inl (cA, 1000, .inl (fun _ => 0)))]) := hD
  have hK : va_K (dC, dI) vwCl [(cA, .byte)] s := hK
  refine va_putF (D := (dC, dI)) (ci := 1) (v := .ref ar) (ty := .array .byte) (C := RX1) (T := TX1) (N := 5) hx hb hts hin0 tyX1 tyX1_ok nmX1 hown hK hP hD hS 0 rfl rfl 0 (by decide) (hts (.fieldLink RX1 9 "GroupedNumbersModel" "row" "[B") (by decide +kernel)) (fun _ h9 => h9) rfl hin rfl (by decide +kernel) rfl rfl (Nat.le_of_ble_eq_true rfl) dX1_init_10 (fun H locs hP hD hS => ?_)
  have hP : va_P (dC, dI) vwCl ([(h0, .inr (1, [.ref ar, .null, .int 0, .int 0, .long 0])), (ar, .inl (cA, 1000, .inl (fun _ => 0)))]) H := hP
  have hD : va_D A ([(h0, .inr (1, [.ref ar, .null, .int 0, .int 0, .long 0])), (ar, .inl (cA, 1000, .inl (fun _ => 0)))]) := hD
  refine lv_aload_n hx hb dX1_init_13 rfl (lv_at hl 0 rfl) ?_
  refine lv_sipush (v := 1000) hx hb dX1_init_14 (by decide) ?_
  refine va_newa hx hb (atype := .byte) (hts (.arrayClass .byte) (by decide +kernel)) (ty := .byte) rfl hK hP hD hS hA (n := 1000) (N' := 1000) (a0 := (1000, .inl (fun _ => 0))) (fun cA => rfl) (by decide) (by decide) (by decide) (Nat.le_of_ble_eq_true rfl) (Nat.le_of_ble_eq_true rfl) dX1_init_17 (fun ao cB H hK hP hD hS => ?_)
  have hP : va_P (dC, dI) vwCl ([(h0, .inr (1, [.ref ar, .null, .int 0, .int 0, .long 0])), (ar, .inl (cA, 1000, .inl (fun _ => 0))), (ao, .inl (cB, 1000, .inl (fun _ => 0)))]) H := hP
  have hD : va_D A ([(h0, .inr (1, [.ref ar, .null, .int 0, .int 0, .long 0])), (ar, .inl (cA, 1000, .inl (fun _ => 0))), (ao, .inl (cB, 1000, .inl (fun _ => 0)))]) := hD
  have hK : va_K (dC, dI) vwCl [(cA, .byte), (cB, .byte)] s := hK
  refine va_putF (D := (dC, dI)) (ci := 1) (v := .ref ao) (ty := .array .byte) (C := RX1) (T := TX1) (N := 5) hx hb hts hin0 tyX1 tyX1_ok nmX1 hown hK hP hD hS 0 rfl rfl 1 (by decide) (hts (.fieldLink RX1 13 "GroupedNumbersModel" "out" "[B") (by decide +kernel)) (fun _ h9 => h9) rfl hin rfl (by decide +kernel) rfl rfl (Nat.le_of_ble_eq_true rfl) dX1_init_19 (fun H locs hP hD hS => ?_)
  have hP : va_P (dC, dI) vwCl ([(h0, .inr (1, [.ref ar, .ref ao, .int 0, .int 0, .long 0])), (ar, .inl (cA, 1000, .inl (fun _ => 0))), (ao, .inl (cB, 1000, .inl (fun _ => 0)))]) H := hP
  have hD : va_D A ([(h0, .inr (1, [.ref ar, .ref ao, .int 0, .int 0, .long 0])), (ar, .inl (cA, 1000, .inl (fun _ => 0))), (ao, .inl (cB, 1000, .inl (fun _ => 0)))]) := hD
  refine W.widen (k := 2) (n := 2000) (by decide) (by decide) ?_
  exact W.vret hx hb hr (fun t ht hW => ⟨⟨(ar, ao, cA, cB), rfl, trivial, by rw [ht]; exact hP, va_K.moved hW.alike hK, hD⟩, hS.F ht⟩) hS.2.2 dX1_init_22
