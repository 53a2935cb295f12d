/-! loops that only answer: groupsNeeded, countGroups, joinGroups; value, size, at -/

set_option maxHeartbeats 4000000 in
set_option maxRecDepth 100000 in
theorem c_X0_groupsNeeded (l : Launch) (a : Int32) (x : Int64) : Met l yX0_groupsNeeded wsX0_groupsNeeded R1 (va_Pc [.int a, .long x] (fun _ => True)) (vp_Si (fun r => r = nI (gg_need a x))) 0 0 (fun _ => False) := by
  refine ro_i (cc := cX0_groupsNeeded) (maxL := 5) (by decide) rfl (Nat.le_of_ble_eq_true rfl) ?_
  intro p e s m below meth c Q ls hx hb hml hown hts hPU hl fin
  have hown : s.vm.findClass RX0 = some m.cls := hown
  have hl : lv_has ls 5 [(0, .int a), (1, .long x)] := hl
  refine lv_iload_n hx hb dX0_groupsNeeded_0 rfl (lv_at hl 0 rfl) ?_
  refine cc_si (av := [.int a]) (rest := []) ⟨hx, hb, hml, hown, hts⟩ (c_X0_mostGroups l a) (va_cwS 1 hts gX0_groupsNeeded_X0_mostGroups rfl rfl rfl (by decide +kernel) ⟨Nat.le_of_ble_eq_true rfl, Nat.le_of_ble_eq_true rfl⟩) rfl hl.1 rfl (Nat.le_of_ble_eq_true rfl) dX0_groupsNeeded_1 ⟨Nat.zero_le _, Nat.zero_le _⟩ (fun r hr => ?_)
  subst hr
  refine lv_istore_n (lv' := [(3, .int (nI (gg_most a))), (0, .int a), (1, .long x)]) hx hb dX0_groupsNeeded_4 rfl hl (by decide) rfl (fun ls hl => ?_)
  refine lv_iconst (v := nI 1) hx hb dX0_groupsNeeded_5 (by decide) ?_
  refine lv_istore (lv' := [(4, .int (nI 1)), (3, .int (nI (gg_most a))), (0, .int a), (1, .long x)]) hx hb dX0_groupsNeeded_6 hl (by decide) rfl (fun ls hl => ?_)
  have hm := gg_most_bd a
  have loop : ∀ (f i : Nat) (ls : Array Slot), i ≤ gg_most a → gg_most a + 1 ≤ i + f → 1 ≤ i → (∀ j, 1 ≤ j → j < i → gg_fit a x j = false) → lv_has ls 5 [(4, .int (nI i)), (3, .int (nI (gg_most a))), (0, .int a), (1, .long x)] → W p l e R1 s m ([.int a, .long x] : List Value).toArray below meth c s.heap [] 0 0 Q (F0 m 8 ls []) := by
    intro f
    induction f with
    | zero => intro i ls h1 h2
              exact absurd h2 (by omega)
    | succ f ih =>
      intro i ls hi hf hi1 hbe hl
      refine lv_iload hx hb dX0_groupsNeeded_8 (lv_at hl 0 rfl) ?_
      refine lv_iload_n hx hb dX0_groupsNeeded_10 rfl (lv_at hl 1 rfl) ?_
      refine lv_icmp_ge (tgt := 33) hx hb dX0_groupsNeeded_11 (by decide) (fun c_1 => ?_) (fun c_1 => ?_)
      · have dc_1 : i = gg_most a := by
          have q := (nI_leI (by omega) (by omega)).mp c_1
          omega
        refine lv_iload_n hx hb dX0_groupsNeeded_33 rfl (lv_at hl 1 rfl) ?_
        exact fin ls _ (nI (gg_most a)) dX0_groupsNeeded_34 (by rw [gg_need_top (fun j h1 h2 => hbe j h1 (by omega))])
      · have dc_1 : i < gg_most a := Nat.lt_of_not_le (fun q => c_1 ((nI_leI (by omega) (by omega)).mpr q))
        refine lv_iload_n hx hb dX0_groupsNeeded_14 rfl (lv_at hl 2 rfl) ?_
        refine lv_lload_n hx hb dX0_groupsNeeded_15 rfl (lv_at hl 3 rfl) ?_
        refine lv_iload hx hb dX0_groupsNeeded_16 (lv_at hl 0 rfl) ?_
        refine cc_si (av := [.int a, .long x, .int (nI i)]) (rest := []) ⟨hx, hb, hml, hown, hts⟩ (c_X0_fitsGroups l a x i) (va_cwS 3 hts gX0_groupsNeeded_X0_fitsGroups rfl rfl rfl (by decide +kernel) ⟨Nat.le_of_ble_eq_true rfl, Nat.le_of_ble_eq_true rfl⟩) rfl hl.1 rfl (Nat.le_of_ble_eq_true rfl) dX0_groupsNeeded_18 ⟨Nat.zero_le _, Nat.zero_le _⟩ (fun r hr => ?_)
        refine lv_if_eq (tgt := 27) hx hb dX0_groupsNeeded_21 (by decide) (fun c_2 => ?_) (fun c_2 => ?_)
        · refine lv_iinc (v := nI (i + 1)) (lv' := [(4, .int (nI (i + 1))), (3, .int (nI (gg_most a))), (0, .int a), (1, .long x)]) hx hb dX0_groupsNeeded_27 hl (k := 0) rfl (show nI i + 1 = nI (i + 1) from nI_1 i) (by decide) rfl (fun ls hl => ?_)
          refine lv_goto (tgt := 8) hx hb dX0_groupsNeeded_30 (by decide) ?_
          exact ih (i + 1) ls (by omega) (by omega) (by omega) (fun j h1 h2 => by
            rcases Nat.lt_or_ge j i with q | q
            · exact hbe j h1 q
            · have e : j = i := by omega
              rw [e]
              exact Bool.eq_false_iff.mpr (fun q => (hr.mpr q) c_2)) (lv_sub hl [0, 1, 2, 3] rfl)
        · refine lv_iload hx hb dX0_groupsNeeded_24 (lv_at hl 0 rfl) ?_
          exact fin ls _ (nI i) dX0_groupsNeeded_26 (by rw [gg_need_hit hi1 dc_1 hbe (hr.mp c_2)])
  exact loop (gg_most a) 1 ls (by omega) (by omega) (by omega) (fun j h1 h2 => absurd h2 (by omega)) hl

set_option maxHeartbeats 4000000 in
set_option maxRecDepth 100000 in
theorem c_X0_countGroups (l : Launch) (dC : Nat → ClassId) (dI : Nat → Nat → Nat) (h0 ar ao : Nat) (cA cB : ClassId) (g o : Nat → Int32) (n k : Nat) (v : Int64) (t : Nat → Nat) (a M : Nat) (hI : gg_I t n g) (hn : n ≤ 1000) (ha : a ≤ n) (hM : M ≤ 10) : Met l yX0_countGroups wsX0_countGroups R1 (va_Pc [.ref h0, .int (nI a), .int (nI M)] (Pr (dC, dI) vwCl (ty0 cA cB) (w0 h0 ar ao cA cB g o (nI n) (nI k) v))) (vp_Si (fun r => r = nI (gg_cnt t a (min M (n - a))))) 0 0 (fun _ => False) := by
  refine ro_i (cc := cX0_countGroups) (maxL := 5) (by decide) rfl (Nat.le_of_ble_eq_true rfl) ?_
  intro p e s m below meth c Q ls hx hb hml hown hts hPU hl fin
  have hown : s.vm.findClass RX0 = some m.cls := hown
  obtain ⟨hP, hK⟩ := hPU
  have hin : ∀ w ∈ wsX00, w ∈ wsX0_countGroups := by decide +kernel
  have hl : lv_has ls 5 [(0, .ref h0), (1, .int (nI a)), (2, .int (nI M))] := hl
  refine lv_iload_n hx hb dX0_countGroups_0 rfl (lv_at hl 2 rfl) ?_
  refine lv_aload_n hx hb dX0_countGroups_1 rfl (lv_at hl 0 rfl) ?_
  refine va_get (D := (dC, dI)) (ci := 0) (v := .int (nI n)) (C := RX0) (T := TX0) (N := 5) hx hb hts hin hown hK hP 0 rfl rfl 1 (by decide) (hts (.fieldLink RX0 13 "GroupedNumbers" "rowLength" "I") (by decide +kernel)) (fun _ h9 => h9) rfl dX0_countGroups_2 ?_
  refine lv_iload_n hx hb dX0_countGroups_5 rfl (lv_at hl 1 rfl) ?_
  refine lv_isub hx hb dX0_countGroups_6 ?_
  refine lv_topi (fun z_1 ez_1 => ?_)
  have ez_1 : z_1 = nI (n - a) := by rw [ez_1]; exact pk_sub ha
  subst ez_1
  refine va_mmin hx hb (by rw [hml]; exact hl.1.symm) hown (hts (.methodLink RX0 79 Lib.Math.min.name) (by decide +kernel)) (hts (.static Lib.Math.min.name) (by decide +kernel)) (hts (.initialized "java/lang/Math") (by decide +kernel)) (hts (.code Lib.Math.min.name Lib.Math.min.code 2 (some .int)) (by decide +kernel)) (Nat.le_of_ble_eq_true rfl) (Nat.le_of_ble_eq_true rfl) (Nat.le_of_ble_eq_true rfl) (Nat.le_of_ble_eq_true rfl) dX0_countGroups_7 ?_
  refine lv_topi (fun z_2 ez_2 => ?_)
  have ez_2 : z_2 = nI (min M (n - a)) := by rw [ez_2]; exact gg_min (by omega) (by omega)
  subst ez_2
  refine lv_istore_n (lv' := [(3, .int (nI (min M (n - a)))), (0, .ref h0), (1, .int (nI a)), (2, .int (nI M))]) hx hb dX0_countGroups_10 rfl hl (by decide) rfl (fun ls hl => ?_)
  refine lv_iconst (v := nI 0) hx hb dX0_countGroups_11 (by decide) ?_
  refine lv_istore (lv' := [(4, .int (nI 0)), (3, .int (nI (min M (n - a)))), (0, .ref h0), (1, .int (nI a)), (2, .int (nI M))]) hx hb dX0_countGroups_12 hl (by decide) rfl (fun ls hl => ?_)
  obtain ⟨K, hKe⟩ : ∃ K, K = min M (n - a) := ⟨_, rfl⟩
  rw [← hKe] at hl
  have loop : ∀ (f i : Nat) (ls : Array Slot), i ≤ K → K + 1 ≤ i + f → (∀ j, j < i → 128 ≤ t (a + j)) → lv_has ls 5 [(4, .int (nI i)), (3, .int (nI K)), (0, .ref h0), (1, .int (nI a)), (2, .int (nI M))] → W p l e R1 s m ([.ref h0, .int (nI a), .int (nI M)] : List Value).toArray below meth c s.heap [] 0 0 Q (F0 m 14 ls []) := by
    intro f
    induction f with
    | zero => intro i ls h1 h2
              exact absurd h2 (by omega)
    | succ f ih =>
      intro i ls hi hf hbe hl
      refine lv_iload hx hb dX0_countGroups_14 (lv_at hl 0 rfl) ?_
      refine lv_iload_n hx hb dX0_countGroups_16 rfl (lv_at hl 1 rfl) ?_
      refine lv_icmp_ge (tgt := 46) hx hb dX0_countGroups_17 (by decide) (fun c_3 => ?_) (fun c_3 => ?_)
      · have dc_3 : i = K := by
          have q := (nI_leI (by omega) (by omega)).mp c_3
          omega
        refine lv_iconst (v := nI 0) hx hb dX0_countGroups_46 (by decide) ?_
        exact fin ls _ (nI 0) dX0_countGroups_47 (by rw [gg_cnt_none (fun j h1 => hbe j (by omega))])
      · have dc_3 : i < K := Nat.lt_of_not_le (fun q => c_3 ((nI_leI (by omega) (by omega)).mpr q))
        refine lv_aload_n hx hb dX0_countGroups_20 rfl (lv_at hl 2 rfl) ?_
        refine va_get (D := (dC, dI)) (ci := 0) (v := .ref ar) (C := RX0) (T := TX0) (N := 5) hx hb hts hin hown hK hP 0 rfl rfl 0 (by decide) (hts (.fieldLink RX0 9 "GroupedNumbers" "row" "[I") (by decide +kernel)) (fun _ h9 => h9) rfl dX0_countGroups_21 ?_
        refine lv_iload_n hx hb dX0_countGroups_24 rfl (lv_at hl 3 rfl) ?_
        refine lv_iload hx hb dX0_countGroups_25 (lv_at hl 0 rfl) ?_
        refine lv_iadd hx hb dX0_countGroups_27 ?_
        refine lv_topi (fun z_4 ez_4 => ?_)
        have ez_4 : z_4 = nI (a + i) := by rw [ez_4]; exact nI_add a i
        subst ez_4
        refine va_iald hx hb hK hP 1 0 rfl rfl (vp_in_nI (show a + i < 1000 by omega) (by decide)) dX0_countGroups_28 ?_
        refine lv_topi (fun z_5 ez_5 => ?_)
        have ez_5 : z_5 = nI (t (a + i)) := by rw [ez_5]; rw [nI_clamp (by omega)]; exact (hI (a + i) (by omega)).2
        subst ez_5
        have hti := (hI (a + i) (by omega)).1
        refine lv_sipush (v := nI 128) hx hb dX0_countGroups_29 (by decide) ?_
        refine lv_icmp_ge (tgt := 40) hx hb dX0_countGroups_32 (by decide) (fun c_6 => ?_) (fun c_6 => ?_)
        · refine lv_iinc (v := nI (i + 1)) (lv' := [(4, .int (nI (i + 1))), (3, .int (nI K)), (0, .ref h0), (1, .int (nI a)), (2, .int (nI M))]) hx hb dX0_countGroups_40 hl (k := 0) rfl (show nI i + 1 = nI (i + 1) from nI_1 i) (by decide) rfl (fun ls hl => ?_)
          refine lv_goto (tgt := 14) hx hb dX0_countGroups_43 (by decide) ?_
          exact ih (i + 1) ls (by omega) (by omega) (fun j h1 => by
            rcases Nat.lt_or_ge j i with q | q
            · exact hbe j q
            · have e : j = i := by omega
              rw [e]
              exact (nI_leI (by decide) (by omega)).mp c_6) (lv_sub hl [0, 1, 2, 3, 4] rfl)
        · refine lv_iload hx hb dX0_countGroups_35 (lv_at hl 0 rfl) ?_
          refine lv_iconst (v := nI 1) hx hb dX0_countGroups_37 (by decide) ?_
          refine lv_iadd hx hb dX0_countGroups_38 ?_
          refine lv_topi (fun z_7 ez_7 => ?_)
          have ez_7 : z_7 = nI (i + 1) := by rw [ez_7]; exact nI_add i 1
          subst ez_7
          exact fin ls _ (nI (i + 1)) dX0_countGroups_39 (by rw [← hKe, gg_cnt_hit hbe (Nat.lt_of_not_le (fun q => c_6 ((nI_leI (by decide) (by omega)).mpr q))) dc_3])
  exact loop (K + 1) 0 ls (by omega) (by omega) (fun j h1 => absurd h1 (by omega)) hl

set_option maxHeartbeats 4000000 in
set_option maxRecDepth 100000 in
theorem c_X0_joinGroups (l : Launch) (dC : Nat → ClassId) (dI : Nat → Nat → Nat) (h0 ar ao : Nat) (cA cB : ClassId) (g o : Nat → Int32) (n k : Nat) (v : Int64) (t : Nat → Nat) (a M : Nat) (hI : gg_I t n g) (hn : n ≤ 1000) (ha : a + M ≤ n) (hM : M ≤ 10) : Met l yX0_joinGroups wsX0_joinGroups R0 (va_Pc [.ref h0, .int (nI a), .int (nI M)] (Pr (dC, dI) vwCl (ty0 cA cB) (w0 h0 ar ao cA cB g o (nI n) (nI k) v))) (vp_Sl (fun r => r = lN (gg_join t a M))) 0 0 (fun _ => False) := by
  refine ro_l (cc := cX0_joinGroups) (maxL := 8) (by decide) rfl (Nat.le_of_ble_eq_true rfl) ?_
  intro p e s m below meth c Q ls hx hb hml hown hts hPU hl fin
  have hown : s.vm.findClass RX0 = some m.cls := hown
  obtain ⟨hP, hK⟩ := hPU
  have hin : ∀ w ∈ wsX00, w ∈ wsX0_joinGroups := by decide +kernel
  have hl : lv_has ls 8 [(0, .ref h0), (1, .int (nI a)), (2, .int (nI M))] := hl
  refine lv_lconst (v := lN (gg_join t a 0)) hx hb dX0_joinGroups_0 (rfl) ?_
  refine lv_lstore_n (lv' := [(3, .long (lN (gg_join t a 0))), (0, .ref h0), (1, .int (nI a)), (2, .int (nI M))]) hx hb dX0_joinGroups_1 rfl hl (by decide) rfl (fun ls hl => ?_)
  refine lv_iconst (v := nI 0) hx hb dX0_joinGroups_2 (by decide) ?_
  refine lv_istore (lv' := [(5, .int (nI 0)), (3, .long (lN (gg_join t a 0))), (0, .ref h0), (1, .int (nI a)), (2, .int (nI M))]) hx hb dX0_joinGroups_3 hl (by decide) rfl (fun ls hl => ?_)
  have loop : ∀ (f i : Nat) (ls : Array Slot), i ≤ M → M + 1 ≤ i + f → lv_has ls 8 [(5, .int (nI i)), (3, .long (lN (gg_join t a i))), (0, .ref h0), (1, .int (nI a)), (2, .int (nI M))] → W p l e R0 s m ([.ref h0, .int (nI a), .int (nI M)] : List Value).toArray below meth c s.heap [] 0 0 Q (F0 m 5 ls []) := by
    intro f
    induction f with
    | zero => intro i ls h1 h2
              exact absurd h2 (by omega)
    | succ f ih =>
      intro i ls hi hf hl
      refine lv_iload hx hb dX0_joinGroups_5 (lv_at hl 0 rfl) ?_
      refine lv_iload_n hx hb dX0_joinGroups_7 rfl (lv_at hl 4 rfl) ?_
      refine lv_icmp_ge (tgt := 43) hx hb dX0_joinGroups_8 (by decide) (fun c_1 => ?_) (fun c_1 => ?_)
      · have dc_1 : i = M := by
          have q := (nI_leI (by omega) (by omega)).mp c_1
          omega
        refine lv_lload_n hx hb dX0_joinGroups_43 rfl (lv_at hl 1 rfl) ?_
        exact fin ls _ (lN (gg_join t a i)) dX0_joinGroups_44 (by rw [dc_1])
      · have dc_1 : i < M := Nat.lt_of_not_le (fun q => c_1 ((nI_leI (by omega) (by omega)).mpr q))
        refine lv_aload_n hx hb dX0_joinGroups_11 rfl (lv_at hl 2 rfl) ?_
        refine va_get (D := (dC, dI)) (ci := 0) (v := .ref ar) (C := RX0) (T := TX0) (N := 5) hx hb hts hin hown hK hP 0 rfl rfl 0 (by decide) (hts (.fieldLink RX0 9 "GroupedNumbers" "row" "[I") (by decide +kernel)) (fun _ h9 => h9) rfl dX0_joinGroups_12 ?_
        refine lv_iload_n hx hb dX0_joinGroups_15 rfl (lv_at hl 3 rfl) ?_
        refine lv_iload hx hb dX0_joinGroups_16 (lv_at hl 0 rfl) ?_
        refine lv_iadd hx hb dX0_joinGroups_18 ?_
        refine lv_topi (fun z_2 ez_2 => ?_)
        have ez_2 : z_2 = nI (a + i) := by rw [ez_2]; exact nI_add a i
        subst ez_2
        refine va_iald hx hb hK hP 1 0 rfl rfl (vp_in_nI (show a + i < 1000 by omega) (by decide)) dX0_joinGroups_19 ?_
        refine lv_topi (fun z_3 ez_3 => ?_)
        have ez_3 : z_3 = nI (t (a + i)) := by rw [ez_3]; rw [nI_clamp (by omega)]; exact (hI (a + i) (by omega)).2
        subst ez_3
        refine lv_bipush (v := 127) hx hb dX0_joinGroups_20 (by decide) ?_
        refine lv_iand hx hb dX0_joinGroups_22 ?_
        refine lv_topi (fun z_4 ez_4 => ?_)
        have ez_4 : z_4 = nI (t (a + i) % 128) := by rw [ez_4]; exact gg_i_127 _ (hI (a + i) (by omega)).1
        subst ez_4
        refine lv_i2l hx hb dX0_joinGroups_23 rfl ?_
        refine lv_lstore (lv' := [(6, .long ((nI (t (a + i) % 128)).toInt64)), (5, .int (nI i)), (3, .long (lN (gg_join t a i))), (0, .ref h0), (1, .int (nI a)), (2, .int (nI M))]) hx hb dX0_joinGroups_24 hl (by decide) rfl (fun ls hl => ?_)
        refine lv_lload_n hx hb dX0_joinGroups_26 rfl (lv_at hl 2 rfl) ?_
        refine lv_lload hx hb dX0_joinGroups_27 (lv_at hl 0 rfl) ?_
        refine lv_bipush (v := 7) hx hb dX0_joinGroups_29 (by decide) ?_
        refine lv_iload hx hb dX0_joinGroups_31 (lv_at hl 1 rfl) ?_
        refine lv_imul hx hb dX0_joinGroups_33 ?_
        refine lv_lshl hx hb dX0_joinGroups_34 rfl ?_
        refine lv_lor hx hb dX0_joinGroups_35 ?_
        refine lv_topl (fun z_5 ez_5 => ?_)
        have ez_5 : z_5 = lN (gg_join t a (i + 1)) := by rw [ez_5]; exact gg_join_step (Nat.mod_lt _ (by decide)) (by omega) (gg_join_lt t a i)
        subst ez_5
        refine lv_lstore_n (lv' := [(3, .long (lN (gg_join t a (i + 1)))), (6, .long ((nI (t (a + i) % 128)).toInt64)), (5, .int (nI i)), (0, .ref h0), (1, .int (nI a)), (2, .int (nI M))]) hx hb dX0_joinGroups_36 rfl hl (by decide) rfl (fun ls hl => ?_)
        refine lv_iinc (v := nI (i + 1)) (lv' := [(5, .int (nI (i + 1))), (3, .long (lN (gg_join t a (i + 1)))), (6, .long ((nI (t (a + i) % 128)).toInt64)), (0, .ref h0), (1, .int (nI a)), (2, .int (nI M))]) hx hb dX0_joinGroups_37 hl (k := 2) rfl (show nI i + 1 = nI (i + 1) from nI_1 i) (by decide) rfl (fun ls hl => ?_)
        refine lv_goto (tgt := 5) hx hb dX0_joinGroups_40 (by decide) ?_
        exact ih (i + 1) ls (by omega) (by omega) (lv_sub hl [0, 1, 3, 4, 5] rfl)
  exact loop (M + 1) 0 ls (by omega) (by omega) hl

set_option maxHeartbeats 4000000 in
set_option maxRecDepth 100000 in
theorem c_X0_value (l : Launch) (dC : Nat → ClassId) (dI : Nat → Nat → Nat) (h0 ar ao : Nat) (cA cB : ClassId) (g o : Nat → Int32) (n k : Nat) (v : Int64) : Met l yX0_value wsX0_value R0 (va_Pc [.ref h0] (Pr (dC, dI) vwCl (ty0 cA cB) (w0 h0 ar ao cA cB g o (nI n) (nI k) v))) (vp_Sl (fun r => r = v)) 0 0 (fun _ => False) := by
  refine ro_l (cc := cX0_value) (maxL := 1) (by decide) rfl (Nat.le_of_ble_eq_true rfl) ?_
  intro p e s m below meth c Q ls hx hb hml hown hts hPU hl fin
  have hown : s.vm.findClass RX0 = some m.cls := hown
  obtain ⟨hP, hK⟩ := hPU
  have hin : ∀ w ∈ wsX00, w ∈ wsX0_value := by decide +kernel
  have hl : lv_has ls 1 [(0, .ref h0)] := hl
  refine lv_aload_n hx hb dX0_value_0 rfl (lv_at hl 0 rfl) ?_
  refine va_get (D := (dC, dI)) (ci := 0) (v := .long v) (C := RX0) (T := TX0) (N := 5) hx hb hts hin hown hK hP 0 rfl rfl 4 (by decide) (hts (.fieldLink RX0 23 "GroupedNumbers" "lastRead" "J") (by decide +kernel)) (fun _ h9 => h9) rfl dX0_value_1 ?_
  exact fin ls _ v dX0_value_4 rfl

set_option maxHeartbeats 4000000 in
set_option maxRecDepth 100000 in
theorem c_X0_size (l : Launch) (dC : Nat → ClassId) (dI : Nat → Nat → Nat) (h0 ar ao : Nat) (cA cB : ClassId) (g o : Nat → Int32) (n k : Nat) (v : Int64) : Met l yX0_size wsX0_size R0 (va_Pc [.ref h0] (Pr (dC, dI) vwCl (ty0 cA cB) (w0 h0 ar ao cA cB g o (nI n) (nI k) v))) (vp_Si (fun r => r = nI k)) 0 0 (fun _ => False) := by
  refine ro_i (cc := cX0_size) (maxL := 1) (by decide) rfl (Nat.le_of_ble_eq_true rfl) ?_
  intro p e s m below meth c Q ls hx hb hml hown hts hPU hl fin
  have hown : s.vm.findClass RX0 = some m.cls := hown
  obtain ⟨hP, hK⟩ := hPU
  have hin : ∀ w ∈ wsX00, w ∈ wsX0_size := by decide +kernel
  have hl : lv_has ls 1 [(0, .ref h0)] := hl
  refine lv_aload_n hx hb dX0_size_0 rfl (lv_at hl 0 rfl) ?_
  refine va_get (D := (dC, dI)) (ci := 0) (v := .int (nI k)) (C := RX0) (T := TX0) (N := 5) hx hb hts hin hown hK hP 0 rfl rfl 3 (by decide) (hts (.fieldLink RX0 20 "GroupedNumbers" "outputLength" "I") (by decide +kernel)) (fun _ h9 => h9) rfl dX0_size_1 ?_
  exact fin ls _ (nI k) dX0_size_4 (rfl)

def gg_at (i : Int32) (z : Nat → Nat) (k : Nat) : Int32 := if ¬ i < 0 ∧ i < nI k then nI (z i.toNatClampNeg) else -1

set_option maxHeartbeats 4000000 in
set_option maxRecDepth 100000 in
theorem c_X0_at (l : Launch) (dC : Nat → ClassId) (dI : Nat → Nat → Nat) (h0 ar ao : Nat) (cA cB : ClassId) (g o : Nat → Int32) (n k : Nat) (v : Int64) (z : Nat → Nat) (i : Int32) (hI : gg_I z k o) (hk : k ≤ 1000) : Met l yX0_at wsX0_at R0 (va_Pc [.ref h0, .int i] (Pr (dC, dI) vwCl (ty0 cA cB) (w0 h0 ar ao cA cB g o (nI n) (nI k) v))) (vp_Si (fun r => r = gg_at i z k)) 0 0 (fun _ => False) := by
  refine ro_i (cc := cX0_at) (maxL := 2) (by decide) rfl (Nat.le_of_ble_eq_true rfl) ?_
  intro p e s m below meth c Q ls hx hb hml hown hts hPU hl fin
  have hown : s.vm.findClass RX0 = some m.cls := hown
  obtain ⟨hP, hK⟩ := hPU
  have hin : ∀ w ∈ wsX00, w ∈ wsX0_at := by decide +kernel
  have hl : lv_has ls 2 [(0, .ref h0), (1, .int i)] := hl
  refine lv_iload_n hx hb dX0_at_0 rfl (lv_at hl 1 rfl) ?_
  refine lv_if_lt (tgt := 12) hx hb dX0_at_1 (by decide) (fun c_1 => ?_) (fun c_1 => ?_)
  · refine lv_iconst (v := (-1)) hx hb dX0_at_12 (by decide) ?_
    exact fin ls _ (-1) dX0_at_13 (by unfold gg_at; rw [if_neg (fun q => q.1 c_1)])
  · refine lv_iload_n hx hb dX0_at_4 rfl (lv_at hl 1 rfl) ?_
    refine lv_aload_n hx hb dX0_at_5 rfl (lv_at hl 0 rfl) ?_
    refine va_get (D := (dC, dI)) (ci := 0) (v := .int (nI k)) (C := RX0) (T := TX0) (N := 5) hx hb hts hin hown hK hP 0 rfl rfl 3 (by decide) (hts (.fieldLink RX0 20 "GroupedNumbers" "outputLength" "I") (by decide +kernel)) (fun _ h9 => h9) rfl dX0_at_6 ?_
    refine lv_icmp_lt (tgt := 14) hx hb dX0_at_9 (by decide) (fun c_2 => ?_) (fun c_2 => ?_)
    · obtain ⟨j, hj31, rfl⟩ := nI_of c_1
      have hj : j < k := (nI_ltI (by omega) (by omega)).mp c_2
      refine lv_aload_n hx hb dX0_at_14 rfl (lv_at hl 0 rfl) ?_
      refine va_get (D := (dC, dI)) (ci := 0) (v := .ref ao) (C := RX0) (T := TX0) (N := 5) hx hb hts hin hown hK hP 0 rfl rfl 2 (by decide) (hts (.fieldLink RX0 17 "GroupedNumbers" "output" "[I") (by decide +kernel)) (fun _ h9 => h9) rfl dX0_at_15 ?_
      refine lv_iload_n hx hb dX0_at_18 rfl (lv_at hl 1 rfl) ?_
      refine va_iald hx hb hK hP 2 1 rfl rfl (vp_in_nI (show j < 1000 by omega) (by decide)) dX0_at_19 ?_
      refine lv_topi (fun z_3 ez_3 => ?_)
      have ez_3 : z_3 = nI (z j) := by rw [ez_3]; rw [nI_clamp (by omega)]; exact (hI j hj).2
      subst ez_3
      exact fin ls _ (nI (z j)) dX0_at_20 (by unfold gg_at; rw [if_pos ⟨c_1, c_2⟩, nI_clamp (by omega)])
    · refine lv_iconst (v := (-1)) hx hb dX0_at_12 (by decide) ?_
      exact fin ls _ (-1) dX0_at_13 (by unfold gg_at; rw [if_neg (fun q => c_2 q.2)])
