/-! the methods of GroupedNumbers that change its cells -/

set_option maxHeartbeats 4000000 in
set_option maxRecDepth 100000 in
theorem c_X0_appendToRow (l : Launch) (dC : Nat → ClassId) (dI : Nat → Nat → Nat) (h0 ar ao : Nat) (cA cB : ClassId) (sz : Nat) (g o : Nat → Int32) (n k : Nat) (v : Int64) (t : Nat → Nat) (y : Int32) (hI : gg_I t n g) (hn : n + 4 ≤ 1000) : Met l yX0_appendToRow wsX0_appendToRow R0 (va_Pc [.ref h0, .int y] (Pw (dC, dI) vwCl (ty0 cA cB) sz (w0 h0 ar ao cA cB g o (nI n) (nI k) v))) (va_Qv (fun u => gg_I (sb_cat t n (gg_wb y)) (n + 4) u) (Bw (S := Nat → Int32) (dC, dI) vwCl (ty0 cA cB) sz (w0 h0 ar ao cA cB g o (nI n) (nI k) v) (fun u => w0 h0 ar ao cA cB u o (nI (n + 4)) (nI k) v)) (va_A (w0 h0 ar ao cA cB g o (nI n) (nI k) v) sz)) 0 0 (va_A (w0 h0 ar ao cA cB g o (nI n) (nI k) v) sz) := by
  refine mm_v (cc := cX0_appendToRow) (maxL := 3) (by decide) rfl (Nat.le_of_ble_eq_true rfl) ?_
  intro p e s m below meth c Q A H ls hx hb hml hown hts hK hP hD hS hA hl fin
  have hown : s.vm.findClass RX0 = some m.cls := hown
  have hin : ∀ w ∈ wsX00, w ∈ wsX0_appendToRow := by decide +kernel
  have hl : lv_has ls 3 [(0, .ref h0), (1, .int y)] := hl
  have hP : va_P (dC, dI) vwCl (w0 h0 ar ao cA cB g o (nI n) (nI k) v) H := hP
  have hD : va_D A (w0 h0 ar ao cA cB g o (nI n) (nI k) v) := hD
  refine lv_iconst (v := nI 0) hx hb dX0_appendToRow_0 (by decide) ?_
  refine lv_istore_n (lv' := [(2, .int (nI 0)), (0, .ref h0), (1, .int y)]) hx hb dX0_appendToRow_1 rfl hl (by decide) rfl (fun ls hl => ?_)
  have loop : ∀ (f i : Nat) (gi : Nat → Int32) (H : Heap) (locs : List Loc) (ls : Array Slot), i ≤ 4 → 5 ≤ i + f → gg_I (sb_cat t n (gg_wb y)) (n + i) gi → va_P (dC, dI) vwCl (w0 h0 ar ao cA cB gi o (nI (n + i)) (nI k) v) H → va_D A (w0 h0 ar ao cA cB gi o (nI (n + i)) (nI k) v) → va_S A s.heap H locs → lv_has ls 3 [(2, .int (nI i)), (0, .ref h0), (1, .int y)] → W p l e R0 s m ([.ref h0, .int y] : List Value).toArray below meth c H locs 0 0 Q (F0 m 2 ls []) := by
    intro f
    induction f with
    | zero => intro i gi H locs ls h1 h2
              exact absurd h2 (by omega)
    | succ f ih =>
      intro i gi H locs ls hi hf hI hP hD hS hl
      refine lv_iload_n hx hb dX0_appendToRow_2 rfl (lv_at hl 0 rfl) ?_
      refine lv_iconst (v := nI 4) hx hb dX0_appendToRow_3 (by decide) ?_
      refine lv_icmp_ge (tgt := 45) hx hb dX0_appendToRow_4 (by decide) (fun c_1 => ?_) (fun c_1 => ?_)
      · have dc_1 : i = 4 := by
          have q := (nI_leI (by decide) (by omega)).mp c_1
          omega
        subst dc_1
        exact fin H locs ls _ gi dX0_appendToRow_45 hI hP hD hS
      · have dc_1 : i < 4 := Nat.lt_of_not_le (fun q => c_1 ((nI_leI (by decide) (by omega)).mpr q))
        refine lv_aload_n hx hb dX0_appendToRow_7 rfl (lv_at hl 1 rfl) ?_
        refine va_get (D := (dC, dI)) (ci := 0) (v := .ref ar) (C := RX0) (T := TX0) (N := 5) hx hb hts hin hown hK hP 0 rfl rfl 0 (by decide) (hts (.fieldLink RX0 9 "GroupedNumbers" "row" "[I") (by decide +kernel)) (fun _ h9 => h9) rfl dX0_appendToRow_8 ?_
        refine lv_aload_n hx hb dX0_appendToRow_11 rfl (lv_at hl 1 rfl) ?_
        refine va_get (D := (dC, dI)) (ci := 0) (v := .int (nI (n + i))) (C := RX0) (T := TX0) (N := 5) hx hb hts hin hown hK hP 0 rfl rfl 1 (by decide) (hts (.fieldLink RX0 13 "GroupedNumbers" "rowLength" "I") (by decide +kernel)) (fun _ h9 => h9) rfl dX0_appendToRow_12 ?_
        refine lv_iload_n hx hb dX0_appendToRow_15 rfl (lv_at hl 2 rfl) ?_
        refine lv_bipush (v := 24) hx hb dX0_appendToRow_16 (by decide) ?_
        refine lv_bipush (v := 8) hx hb dX0_appendToRow_18 (by decide) ?_
        refine lv_iload_n hx hb dX0_appendToRow_20 rfl (lv_at hl 0 rfl) ?_
        refine lv_imul hx hb dX0_appendToRow_21 ?_
        refine lv_isub hx hb dX0_appendToRow_22 ?_
        refine lv_iushr hx hb dX0_appendToRow_23 rfl ?_
        refine lv_sipush (v := 255) hx hb dX0_appendToRow_24 (by decide) ?_
        refine lv_iand hx hb dX0_appendToRow_27 ?_
        refine lv_topi (fun z_2 ez_2 => ?_)
        have ez_2 : z_2 = nI (gg_wb y i) := by rw [ez_2]; exact gg_wb_I y dc_1
        subst ez_2
        refine va_iast hx hb hK hP hD hS 1 0 rfl rfl (vp_in_nI (show n + i < 1000 by omega) (by decide)) dX0_appendToRow_28 (fun H locs hP hD hS => ?_)
        rw [nI_clamp (show n + i < 2 ^ 31 by omega)] at hP hD
        have hP : va_P (dC, dI) vwCl (w0 h0 ar ao cA cB (upd gi (n + i) (nI (gg_wb y i))) o (nI (n + i)) (nI k) v) H := hP
        have hD : va_D A (w0 h0 ar ao cA cB (upd gi (n + i) (nI (gg_wb y i))) o (nI (n + i)) (nI k) v) := hD
        refine lv_aload_n hx hb dX0_appendToRow_29 rfl (lv_at hl 1 rfl) ?_
        refine lv_dup hx hb dX0_appendToRow_30 rfl ?_
        refine va_get (D := (dC, dI)) (ci := 0) (v := .int (nI (n + i))) (C := RX0) (T := TX0) (N := 5) hx hb hts hin hown hK hP 0 rfl rfl 1 (by decide) (hts (.fieldLink RX0 13 "GroupedNumbers" "rowLength" "I") (by decide +kernel)) (fun _ h9 => h9) rfl dX0_appendToRow_31 ?_
        refine lv_iconst (v := nI 1) hx hb dX0_appendToRow_34 (by decide) ?_
        refine lv_iadd hx hb dX0_appendToRow_35 ?_
        refine lv_topi (fun z_3 ez_3 => ?_)
        have ez_3 : z_3 = nI (n + (i + 1)) := by rw [ez_3]; exact nI_add (n + i) 1
        subst ez_3
        refine va_put (D := (dC, dI)) (ci := 0) (v := .int (nI (n + (i + 1)))) (ty := .int) (C := RX0) (T := TX0) (N := 5) hx hb hts hin tyX0 tyX0_ok nmX0 hown hK hP hD hS 0 rfl rfl 1 (by decide) (hts (.fieldLink RX0 13 "GroupedNumbers" "rowLength" "I") (by decide +kernel)) (fun _ h9 => h9) rfl (by decide +kernel) rfl rfl (Nat.le_of_ble_eq_true rfl) dX0_appendToRow_36 (fun H locs hP hD hS => ?_)
        have hP : va_P (dC, dI) vwCl (w0 h0 ar ao cA cB (upd gi (n + i) (nI (gg_wb y i))) o (nI (n + (i + 1))) (nI k) v) H := hP
        have hD : va_D A (w0 h0 ar ao cA cB (upd gi (n + i) (nI (gg_wb y i))) o (nI (n + (i + 1))) (nI k) v) := hD
        refine lv_iinc (v := nI (i + 1)) (lv' := [(2, .int (nI (i + 1))), (0, .ref h0), (1, .int y)]) hx hb dX0_appendToRow_39 hl (k := 0) rfl (show nI i + 1 = nI (i + 1) from nI_1 i) (by decide) rfl (fun ls hl => ?_)
        refine lv_goto (tgt := 2) hx hb dX0_appendToRow_42 (by decide) ?_
        exact ih (i + 1) _ H locs ls (by omega) (by omega) (gg_I_push (n := n + i) hI (by rw [sb_cat_hi]; exact gg_wb_lt y i) (by rw [sb_cat_hi])) hP hD hS (lv_sub hl [0, 1, 2] rfl)
  exact loop 5 0 g H [] ls (by omega) (by omega) (gg_I_cat hI) hP hD hS hl

set_option maxHeartbeats 4000000 in
set_option maxRecDepth 100000 in
theorem c_X0_appendToOutput (l : Launch) (dC : Nat → ClassId) (dI : Nat → Nat → Nat) (h0 ar ao : Nat) (cA cB : ClassId) (sz : Nat) (g o : Nat → Int32) (n k : Nat) (v : Int64) (z : Nat → Nat) (x : Int64) (M : Nat) (hI : gg_I z k o) (hn : k + M ≤ 1000) (hM1 : 1 ≤ M) (hM : M ≤ 10) : Met l yX0_appendToOutput wsX0_appendToOutput R0 (va_Pc [.ref h0, .long x, .int (nI M)] (Pw (dC, dI) vwCl (ty0 cA cB) sz (w0 h0 ar ao cA cB g o (nI n) (nI k) v))) (va_Qv (fun u => gg_I (sb_cat z k (gg_by x M)) (k + M) u) (Bw (S := Nat → Int32) (dC, dI) vwCl (ty0 cA cB) sz (w0 h0 ar ao cA cB g o (nI n) (nI k) v) (fun u => w0 h0 ar ao cA cB g u (nI n) (nI (k + M)) v)) (va_A (w0 h0 ar ao cA cB g o (nI n) (nI k) v) sz)) 0 0 (va_A (w0 h0 ar ao cA cB g o (nI n) (nI k) v) sz) := by
  refine mm_v (cc := cX0_appendToOutput) (maxL := 6) (by decide) rfl (Nat.le_of_ble_eq_true rfl) ?_
  intro p e s m below meth c Q A H ls hx hb hml hown hts hK hP hD hS hA hl fin
  have hown : s.vm.findClass RX0 = some m.cls := hown
  have hin : ∀ w ∈ wsX00, w ∈ wsX0_appendToOutput := by decide +kernel
  have hl : lv_has ls 6 [(0, .ref h0), (1, .long x), (3, .int (nI M))] := hl
  have hP : va_P (dC, dI) vwCl (w0 h0 ar ao cA cB g o (nI n) (nI k) v) H := hP
  have hD : va_D A (w0 h0 ar ao cA cB g o (nI n) (nI k) v) := hD
  refine lv_iconst (v := nI 0) hx hb dX0_appendToOutput_0 (by decide) ?_
  refine lv_istore (lv' := [(4, .int (nI 0)), (0, .ref h0), (1, .long x), (3, .int (nI M))]) hx hb dX0_appendToOutput_1 hl (by decide) rfl (fun ls hl => ?_)
  have loop : ∀ (f i : Nat) (gi : Nat → Int32) (H : Heap) (locs : List Loc) (ls : Array Slot), i ≤ M → M + 1 ≤ i + f → gg_I (sb_cat z k (gg_by x M)) (k + i) gi → va_P (dC, dI) vwCl (w0 h0 ar ao cA cB g gi (nI n) (nI (k + i)) v) H → va_D A (w0 h0 ar ao cA cB g gi (nI n) (nI (k + i)) v) → va_S A s.heap H locs → lv_has ls 6 [(4, .int (nI i)), (0, .ref h0), (1, .long x), (3, .int (nI M))] → W p l e R0 s m ([.ref h0, .long x, .int (nI M)] : List Value).toArray below meth c H locs 0 0 Q (F0 m 3 ls []) := by
    intro f
    induction f with
    | zero => intro i gi H locs ls h1 h2
              exact absurd h2 (by omega)
    | succ f ih =>
      intro i gi H locs ls hi hf hI hP hD hS hl
      refine lv_iload hx hb dX0_appendToOutput_3 (lv_at hl 0 rfl) ?_
      refine lv_iload_n hx hb dX0_appendToOutput_5 rfl (lv_at hl 3 rfl) ?_
      refine lv_icmp_ge (tgt := 66) hx hb dX0_appendToOutput_6 (by decide) (fun c_1 => ?_) (fun c_1 => ?_)
      · have dc_1 : i = M := by
          have q := (nI_leI (by omega) (by omega)).mp c_1
          omega
        subst dc_1
        exact fin H locs ls _ gi dX0_appendToOutput_66 hI hP hD hS
      · have dc_1 : i < M := Nat.lt_of_not_le (fun q => c_1 ((nI_leI (by omega) (by omega)).mpr q))
        refine lv_lload_n hx hb dX0_appendToOutput_9 rfl (lv_at hl 2 rfl) ?_
        refine lv_bipush (v := 7) hx hb dX0_appendToOutput_10 (by decide) ?_
        refine lv_iload hx hb dX0_appendToOutput_12 (lv_at hl 0 rfl) ?_
        refine lv_imul hx hb dX0_appendToOutput_14 ?_
        refine lv_lshr hx hb dX0_appendToOutput_15 rfl ?_
        refine lv_l2i hx hb dX0_appendToOutput_16 rfl ?_
        refine lv_bipush (v := 127) hx hb dX0_appendToOutput_17 (by decide) ?_
        refine lv_iand hx hb dX0_appendToOutput_19 ?_
        refine lv_topi (fun z_2 ez_2 => ?_)
        have ez_2 : z_2 = nI (gg_grp x i) := by rw [ez_2]; exact gg_grp_I x i
        subst ez_2
        refine lv_istore (lv' := [(5, .int (nI (gg_grp x i))), (4, .int (nI i)), (0, .ref h0), (1, .long x), (3, .int (nI M))]) hx hb dX0_appendToOutput_20 hl (by decide) rfl (fun ls hl => ?_)
        refine lv_aload_n hx hb dX0_appendToOutput_22 rfl (lv_at hl 2 rfl) ?_
        refine va_get (D := (dC, dI)) (ci := 0) (v := .ref ao) (C := RX0) (T := TX0) (N := 5) hx hb hts hin hown hK hP 0 rfl rfl 2 (by decide) (hts (.fieldLink RX0 17 "GroupedNumbers" "output" "[I") (by decide +kernel)) (fun _ h9 => h9) rfl dX0_appendToOutput_23 ?_
        refine lv_aload_n hx hb dX0_appendToOutput_26 rfl (lv_at hl 2 rfl) ?_
        refine va_get (D := (dC, dI)) (ci := 0) (v := .int (nI (k + i))) (C := RX0) (T := TX0) (N := 5) hx hb hts hin hown hK hP 0 rfl rfl 3 (by decide) (hts (.fieldLink RX0 20 "GroupedNumbers" "outputLength" "I") (by decide +kernel)) (fun _ h9 => h9) rfl dX0_appendToOutput_27 ?_
        refine lv_iload hx hb dX0_appendToOutput_30 (lv_at hl 1 rfl) ?_
        refine lv_iload_n hx hb dX0_appendToOutput_32 rfl (lv_at hl 4 rfl) ?_
        refine lv_iconst (v := nI 1) hx hb dX0_appendToOutput_33 (by decide) ?_
        refine lv_isub hx hb dX0_appendToOutput_34 ?_
        refine lv_topi (fun z_3 ez_3 => ?_)
        have ez_3 : z_3 = nI (M - 1) := by rw [ez_3]; exact pk_sub (by omega)
        subst ez_3
        have hgl := gg_grp_lt x i
        refine lv_icmp_ge (tgt := 47) hx hb dX0_appendToOutput_35 (by decide) (fun c_4 => ?_) (fun c_4 => ?_)
        · have dc_4 : ¬ i + 1 < M := by
            have q := (nI_leI (by omega) (by omega)).mp c_4
            omega
          refine lv_iload hx hb dX0_appendToOutput_47 (lv_at hl 0 rfl) ?_
          have hby : gg_by x M i = gg_grp x i := by
            unfold gg_by
            rw [if_neg dc_4, Nat.add_zero]
          refine va_iast hx hb hK hP hD hS 2 1 rfl rfl (vp_in_nI (show k + i < 1000 by omega) (by decide)) dX0_appendToOutput_49 (fun H locs hP hD hS => ?_)
          rw [nI_clamp (show k + i < 2 ^ 31 by omega)] at hP hD
          have hP : va_P (dC, dI) vwCl (w0 h0 ar ao cA cB g (upd gi (k + i) (nI (gg_grp x i))) (nI n) (nI (k + i)) v) H := hP
          have hD : va_D A (w0 h0 ar ao cA cB g (upd gi (k + i) (nI (gg_grp x i))) (nI n) (nI (k + i)) v) := hD
          refine lv_aload_n hx hb dX0_appendToOutput_50 rfl (lv_at hl 2 rfl) ?_
          refine lv_dup hx hb dX0_appendToOutput_51 rfl ?_
          refine va_get (D := (dC, dI)) (ci := 0) (v := .int (nI (k + i))) (C := RX0) (T := TX0) (N := 5) hx hb hts hin hown hK hP 0 rfl rfl 3 (by decide) (hts (.fieldLink RX0 20 "GroupedNumbers" "outputLength" "I") (by decide +kernel)) (fun _ h9 => h9) rfl dX0_appendToOutput_52 ?_
          refine lv_iconst (v := nI 1) hx hb dX0_appendToOutput_55 (by decide) ?_
          refine lv_iadd hx hb dX0_appendToOutput_56 ?_
          refine lv_topi (fun z_5 ez_5 => ?_)
          have ez_5 : z_5 = nI (k + (i + 1)) := by rw [ez_5]; exact nI_add (k + i) 1
          subst ez_5
          refine va_put (D := (dC, dI)) (ci := 0) (v := .int (nI (k + (i + 1)))) (ty := .int) (C := RX0) (T := TX0) (N := 5) hx hb hts hin tyX0 tyX0_ok nmX0 hown hK hP hD hS 0 rfl rfl 3 (by decide) (hts (.fieldLink RX0 20 "GroupedNumbers" "outputLength" "I") (by decide +kernel)) (fun _ h9 => h9) rfl (by decide +kernel) rfl rfl (Nat.le_of_ble_eq_true rfl) dX0_appendToOutput_57 (fun H locs hP hD hS => ?_)
          have hP : va_P (dC, dI) vwCl (w0 h0 ar ao cA cB g (upd gi (k + i) (nI (gg_grp x i))) (nI n) (nI (k + (i + 1))) v) H := hP
          have hD : va_D A (w0 h0 ar ao cA cB g (upd gi (k + i) (nI (gg_grp x i))) (nI n) (nI (k + (i + 1))) v) := hD
          refine lv_iinc (v := nI (i + 1)) (lv' := [(4, .int (nI (i + 1))), (5, .int (nI (gg_grp x i))), (0, .ref h0), (1, .long x), (3, .int (nI M))]) hx hb dX0_appendToOutput_60 hl (k := 1) rfl (show nI i + 1 = nI (i + 1) from nI_1 i) (by decide) rfl (fun ls hl => ?_)
          refine lv_goto (tgt := 3) hx hb dX0_appendToOutput_63 (by decide) ?_
          exact ih (i + 1) _ H locs ls (by omega) (by omega) (gg_I_push (n := k + i) hI (by rw [sb_cat_hi]; exact gg_by_lt x M i) (by rw [sb_cat_hi, hby])) hP hD hS (lv_sub hl [0, 2, 3, 4] rfl)
        · have dc_4 : i + 1 < M := by
            have q : ¬ M - 1 ≤ i := fun q => c_4 ((nI_leI (by omega) (by omega)).mpr q)
            omega
          refine lv_iload hx hb dX0_appendToOutput_38 (lv_at hl 0 rfl) ?_
          refine lv_sipush (v := nI 128) hx hb dX0_appendToOutput_40 (by decide) ?_
          refine lv_iadd hx hb dX0_appendToOutput_43 ?_
          refine lv_topi (fun z_6 ez_6 => ?_)
          have ez_6 : z_6 = nI (gg_grp x i + 128) := by rw [ez_6]; exact nI_add _ 128
          subst ez_6
          refine lv_goto (tgt := 49) hx hb dX0_appendToOutput_44 (by decide) ?_
          have hby : gg_by x M i = gg_grp x i + 128 := by
            unfold gg_by
            rw [if_pos dc_4]
          refine va_iast hx hb hK hP hD hS 2 1 rfl rfl (vp_in_nI (show k + i < 1000 by omega) (by decide)) dX0_appendToOutput_49 (fun H locs hP hD hS => ?_)
          rw [nI_clamp (show k + i < 2 ^ 31 by omega)] at hP hD
          have hP : va_P (dC, dI) vwCl (w0 h0 ar ao cA cB g (upd gi (k + i) (nI (gg_grp x i + 128))) (nI n) (nI (k + i)) v) H := hP
          have hD : va_D A (w0 h0 ar ao cA cB g (upd gi (k + i) (nI (gg_grp x i + 128))) (nI n) (nI (k + i)) v) := hD
          refine lv_aload_n hx hb dX0_appendToOutput_50 rfl (lv_at hl 2 rfl) ?_
          refine lv_dup hx hb dX0_appendToOutput_51 rfl ?_
          refine va_get (D := (dC, dI)) (ci := 0) (v := .int (nI (k + i))) (C := RX0) (T := TX0) (N := 5) hx hb hts hin hown hK hP 0 rfl rfl 3 (by decide) (hts (.fieldLink RX0 20 "GroupedNumbers" "outputLength" "I") (by decide +kernel)) (fun _ h9 => h9) rfl dX0_appendToOutput_52 ?_
          refine lv_iconst (v := nI 1) hx hb dX0_appendToOutput_55 (by decide) ?_
          refine lv_iadd hx hb dX0_appendToOutput_56 ?_
          refine lv_topi (fun z_7 ez_7 => ?_)
          have ez_7 : z_7 = nI (k + (i + 1)) := by rw [ez_7]; exact nI_add (k + i) 1
          subst ez_7
          refine va_put (D := (dC, dI)) (ci := 0) (v := .int (nI (k + (i + 1)))) (ty := .int) (C := RX0) (T := TX0) (N := 5) hx hb hts hin tyX0 tyX0_ok nmX0 hown hK hP hD hS 0 rfl rfl 3 (by decide) (hts (.fieldLink RX0 20 "GroupedNumbers" "outputLength" "I") (by decide +kernel)) (fun _ h9 => h9) rfl (by decide +kernel) rfl rfl (Nat.le_of_ble_eq_true rfl) dX0_appendToOutput_57 (fun H locs hP hD hS => ?_)
          have hP : va_P (dC, dI) vwCl (w0 h0 ar ao cA cB g (upd gi (k + i) (nI (gg_grp x i + 128))) (nI n) (nI (k + (i + 1))) v) H := hP
          have hD : va_D A (w0 h0 ar ao cA cB g (upd gi (k + i) (nI (gg_grp x i + 128))) (nI n) (nI (k + (i + 1))) v) := hD
          refine lv_iinc (v := nI (i + 1)) (lv' := [(4, .int (nI (i + 1))), (5, .int (nI (gg_grp x i))), (0, .ref h0), (1, .long x), (3, .int (nI M))]) hx hb dX0_appendToOutput_60 hl (k := 1) rfl (show nI i + 1 = nI (i + 1) from nI_1 i) (by decide) rfl (fun ls hl => ?_)
          refine lv_goto (tgt := 3) hx hb dX0_appendToOutput_63 (by decide) ?_
          exact ih (i + 1) _ H locs ls (by omega) (by omega) (gg_I_push (n := k + i) hI (by rw [sb_cat_hi]; exact gg_by_lt x M i) (by rw [sb_cat_hi, hby])) hP hD hS (lv_sub hl [0, 2, 3, 4] rfl)
  exact loop (M + 1) 0 o H [] ls (by omega) (by omega) (gg_I_cat hI) hP hD hS hl

def gg_ft (t : Nat → Nat) (n : Nat) (a b c d f : Int32) : Nat → Nat := sb_cat (sb_cat (sb_cat (sb_cat (sb_cat t n (gg_wb a)) (n + 4) (gg_wb b)) (n + 8) (gg_wb c)) (n + 12) (gg_wb d)) (n + 16) (gg_wb f)
def gg_feed (t : Nat → Nat) (n : Nat) (a b c d f : Int32) : Int32 × Nat × (Nat → Nat) := if n + 20 ≤ 1000 then (nI (n + 20), n + 20, gg_ft t n a b c d f) else (-1, n, t)

set_option maxHeartbeats 4000000 in
set_option maxRecDepth 100000 in
theorem c_X0_feed (l : Launch) (dC : Nat → ClassId) (dI : Nat → Nat → Nat) (h0 ar ao : Nat) (cA cB : ClassId) (sz : Nat) (g o : Nat → Int32) (n k : Nat) (v : Int64) (t z : Nat → Nat) (x1 x2 x3 x4 x5 : Int32) (hI : gg_I t n g) (hO : gg_I z k o) (hn : n ≤ 1000) (hk : k ≤ 1000) : Met l yX0_feed wsX0_feed R1 (va_Pc [.ref h0, .int x1, .int x2, .int x3, .int x4, .int x5] (Pw (dC, dI) vwCl (ty0 cA cB) sz (w0 h0 ar ao cA cB g o (nI n) (nI k) v))) (va_Qi (fun r u => r = (gg_feed t n x1 x2 x3 x4 x5).1 ∧ gs_is gg_I (gg_feed t n x1 x2 x3 x4 x5).2.2 (gg_feed t n x1 x2 x3 x4 x5).2.1 z k v u) (Bw (S := gS) (dC, dI) vwCl (ty0 cA cB) sz (w0 h0 ar ao cA cB g o (nI n) (nI k) v) (B0 h0 ar ao cA cB)) (va_A (w0 h0 ar ao cA cB g o (nI n) (nI k) v) sz)) 0 0 (va_A (w0 h0 ar ao cA cB g o (nI n) (nI k) v) sz) := by
  refine mm_i (cc := cX0_feed) (maxL := 6) (by decide) rfl (Nat.le_of_ble_eq_true rfl) ?_
  intro p e s m below meth c Q A H ls hx hb hml hown hts hK hP hD hS hA hl fin
  have hown : s.vm.findClass RX0 = some m.cls := hown
  have hin : ∀ w ∈ wsX00, w ∈ wsX0_feed := by decide +kernel
  have hl : lv_has ls 6 [(0, .ref h0), (1, .int x1), (2, .int x2), (3, .int x3), (4, .int x4), (5, .int x5)] := hl
  have hP : va_P (dC, dI) vwCl (w0 h0 ar ao cA cB g o (nI n) (nI k) v) H := hP
  have hD : va_D A (w0 h0 ar ao cA cB g o (nI n) (nI k) v) := hD
  refine lv_aload_n hx hb dX0_feed_0 rfl (lv_at hl 0 rfl) ?_
  refine va_get (D := (dC, dI)) (ci := 0) (v := .int (nI n)) (C := RX0) (T := TX0) (N := 5) hx hb hts hin hown hK hP 0 rfl rfl 1 (by decide) (hts (.fieldLink RX0 13 "GroupedNumbers" "rowLength" "I") (by decide +kernel)) (fun _ h9 => h9) rfl dX0_feed_1 ?_
  refine lv_sipush (v := nI 980) hx hb dX0_feed_4 (by decide) ?_
  refine lv_icmp_le (tgt := 12) hx hb dX0_feed_7 (by decide) (fun c_1 => ?_) (fun c_1 => ?_)
  · have hn20 : n + 20 ≤ 1000 := by
      have q := (nI_leI (by omega) (by decide)).mp c_1
      omega
    refine lv_aload_n hx hb dX0_feed_12 rfl (lv_at hl 0 rfl) ?_
    refine lv_iload_n hx hb dX0_feed_13 rfl (lv_at hl 1 rfl) ?_
    refine cc_mv (av := [.int x1]) (rest := []) [0, 1, 2] [] ⟨hx, hb, hml, hown, hts⟩ (c_X0_appendToRow l dC dI h0 ar ao cA cB H.size g o (n) k v (t) x1 hI (by omega)) (cwV 1 hts gX0_feed_X0_appendToRow rfl rfl rfl (by decide +kernel) ⟨Nat.le_of_ble_eq_true rfl, Nat.le_of_ble_eq_true rfl⟩) hP hD hS hA hK (wr := []) rfl rfl (by decide) (by decide) (by decide) (ci := 0) rfl rfl rfl hl.1 rfl (Nat.le_of_ble_eq_true rfl) dX0_feed_14 ⟨Nat.zero_le _, Nat.zero_le _⟩ (fun g1 H locs hI1 hP hD hS => ?_)
    have hP : va_P (dC, dI) vwCl (w0 h0 ar ao cA cB g1 o (nI (n + 4)) (nI k) v) H := hP
    have hD : va_D A (w0 h0 ar ao cA cB g1 o (nI (n + 4)) (nI k) v) := hD
    refine lv_aload_n hx hb dX0_feed_17 rfl (lv_at hl 0 rfl) ?_
    refine lv_iload_n hx hb dX0_feed_18 rfl (lv_at hl 2 rfl) ?_
    refine cc_mv (av := [.int x2]) (rest := []) [0, 1, 2] [] ⟨hx, hb, hml, hown, hts⟩ (c_X0_appendToRow l dC dI h0 ar ao cA cB H.size g1 o (n + 4) k v (sb_cat (t) (n) (gg_wb x1)) x2 hI1 (by omega)) (cwV 1 hts gX0_feed_X0_appendToRow rfl rfl rfl (by decide +kernel) ⟨Nat.le_of_ble_eq_true rfl, Nat.le_of_ble_eq_true rfl⟩) hP hD hS hA hK (wr := []) rfl rfl (by decide) (by decide) (by decide) (ci := 0) rfl rfl rfl hl.1 rfl (Nat.le_of_ble_eq_true rfl) dX0_feed_19 ⟨Nat.zero_le _, Nat.zero_le _⟩ (fun g2 H locs hI2 hP hD hS => ?_)
    have hP : va_P (dC, dI) vwCl (w0 h0 ar ao cA cB g2 o (nI (n + 8)) (nI k) v) H := hP
    have hD : va_D A (w0 h0 ar ao cA cB g2 o (nI (n + 8)) (nI k) v) := hD
    refine lv_aload_n hx hb dX0_feed_22 rfl (lv_at hl 0 rfl) ?_
    refine lv_iload_n hx hb dX0_feed_23 rfl (lv_at hl 3 rfl) ?_
    refine cc_mv (av := [.int x3]) (rest := []) [0, 1, 2] [] ⟨hx, hb, hml, hown, hts⟩ (c_X0_appendToRow l dC dI h0 ar ao cA cB H.size g2 o (n + 8) k v (sb_cat (sb_cat (t) (n) (gg_wb x1)) (n + 4) (gg_wb x2)) x3 hI2 (by omega)) (cwV 1 hts gX0_feed_X0_appendToRow rfl rfl rfl (by decide +kernel) ⟨Nat.le_of_ble_eq_true rfl, Nat.le_of_ble_eq_true rfl⟩) hP hD hS hA hK (wr := []) rfl rfl (by decide) (by decide) (by decide) (ci := 0) rfl rfl rfl hl.1 rfl (Nat.le_of_ble_eq_true rfl) dX0_feed_24 ⟨Nat.zero_le _, Nat.zero_le _⟩ (fun g3 H locs hI3 hP hD hS => ?_)
    have hP : va_P (dC, dI) vwCl (w0 h0 ar ao cA cB g3 o (nI (n + 12)) (nI k) v) H := hP
    have hD : va_D A (w0 h0 ar ao cA cB g3 o (nI (n + 12)) (nI k) v) := hD
    refine lv_aload_n hx hb dX0_feed_27 rfl (lv_at hl 0 rfl) ?_
    refine lv_iload hx hb dX0_feed_28 (lv_at hl 4 rfl) ?_
    refine cc_mv (av := [.int x4]) (rest := []) [0, 1, 2] [] ⟨hx, hb, hml, hown, hts⟩ (c_X0_appendToRow l dC dI h0 ar ao cA cB H.size g3 o (n + 12) k v (sb_cat (sb_cat (sb_cat (t) (n) (gg_wb x1)) (n + 4) (gg_wb x2)) (n + 8) (gg_wb x3)) x4 hI3 (by omega)) (cwV 1 hts gX0_feed_X0_appendToRow rfl rfl rfl (by decide +kernel) ⟨Nat.le_of_ble_eq_true rfl, Nat.le_of_ble_eq_true rfl⟩) hP hD hS hA hK (wr := []) rfl rfl (by decide) (by decide) (by decide) (ci := 0) rfl rfl rfl hl.1 rfl (Nat.le_of_ble_eq_true rfl) dX0_feed_30 ⟨Nat.zero_le _, Nat.zero_le _⟩ (fun g4 H locs hI4 hP hD hS => ?_)
    have hP : va_P (dC, dI) vwCl (w0 h0 ar ao cA cB g4 o (nI (n + 16)) (nI k) v) H := hP
    have hD : va_D A (w0 h0 ar ao cA cB g4 o (nI (n + 16)) (nI k) v) := hD
    refine lv_aload_n hx hb dX0_feed_33 rfl (lv_at hl 0 rfl) ?_
    refine lv_iload hx hb dX0_feed_34 (lv_at hl 5 rfl) ?_
    refine cc_mv (av := [.int x5]) (rest := []) [0, 1, 2] [] ⟨hx, hb, hml, hown, hts⟩ (c_X0_appendToRow l dC dI h0 ar ao cA cB H.size g4 o (n + 16) k v (sb_cat (sb_cat (sb_cat (sb_cat (t) (n) (gg_wb x1)) (n + 4) (gg_wb x2)) (n + 8) (gg_wb x3)) (n + 12) (gg_wb x4)) x5 hI4 (by omega)) (cwV 1 hts gX0_feed_X0_appendToRow rfl rfl rfl (by decide +kernel) ⟨Nat.le_of_ble_eq_true rfl, Nat.le_of_ble_eq_true rfl⟩) hP hD hS hA hK (wr := []) rfl rfl (by decide) (by decide) (by decide) (ci := 0) rfl rfl rfl hl.1 rfl (Nat.le_of_ble_eq_true rfl) dX0_feed_36 ⟨Nat.zero_le _, Nat.zero_le _⟩ (fun g5 H locs hI5 hP hD hS => ?_)
    have hP : va_P (dC, dI) vwCl (w0 h0 ar ao cA cB g5 o (nI (n + 20)) (nI k) v) H := hP
    have hD : va_D A (w0 h0 ar ao cA cB g5 o (nI (n + 20)) (nI k) v) := hD
    refine lv_aload_n hx hb dX0_feed_39 rfl (lv_at hl 0 rfl) ?_
    refine va_get (D := (dC, dI)) (ci := 0) (v := .int (nI (n + 20))) (C := RX0) (T := TX0) (N := 5) hx hb hts hin hown hK hP 0 rfl rfl 1 (by decide) (hts (.fieldLink RX0 13 "GroupedNumbers" "rowLength" "I") (by decide +kernel)) (fun _ h9 => h9) rfl dX0_feed_40 ?_
    have hf : gg_feed t n x1 x2 x3 x4 x5 = (nI (n + 20), n + 20, gg_ft t n x1 x2 x3 x4 x5) := by unfold gg_feed; rw [if_pos hn20]
    exact fin H _ ls _ (nI (n + 20)) (g5, o, nI (n + 20), nI k, v) dX0_feed_43 (by rw [hf]; exact ⟨rfl, hI5, hO, rfl, rfl, rfl⟩) hP hD hS
  · have hn20 : ¬ n + 20 ≤ 1000 := by
      have q : ¬ n ≤ 980 := fun q => c_1 ((nI_leI (by omega) (by decide)).mpr q)
      omega
    have hf : gg_feed t n x1 x2 x3 x4 x5 = (-1, n, t) := by unfold gg_feed; rw [if_neg hn20]
    refine lv_iconst (v := (-1)) hx hb dX0_feed_10 (by decide) ?_
    exact fin H _ ls _ (-1) (g, o, nI n, nI k, v) dX0_feed_11 (by rw [hf]; exact ⟨rfl, hI, hO, rfl, rfl, rfl⟩) hP hD hS

def gg_end (x : Int32) (n : Nat) : Int32 × Nat := if ¬ x < 0 ∧ x ≤ nI n then (x, x.toNatClampNeg) else (-1, n)
theorem gg_end_bd {x : Int32} {n : Nat} (hn : n ≤ 1000) : (gg_end x n).2 ≤ n := by
  unfold gg_end
  split
  · rename_i h
    obtain ⟨j, hj, rfl⟩ := nI_of h.1
    show (nI j).toNatClampNeg ≤ n
    rw [nI_clamp hj]
    exact (nI_leI hj (by omega)).mp h.2
  · exact Nat.le_refl n

set_option maxHeartbeats 4000000 in
set_option maxRecDepth 100000 in
theorem c_X0_end (l : Launch) (dC : Nat → ClassId) (dI : Nat → Nat → Nat) (h0 ar ao : Nat) (cA cB : ClassId) (sz : Nat) (g o : Nat → Int32) (n k : Nat) (v : Int64) (t z : Nat → Nat) (x : Int32) (hI : gg_I t n g) (hO : gg_I z k o) (hn : n ≤ 1000) (hk : k ≤ 1000) : Met l yX0_end wsX0_end R0 (va_Pc [.ref h0, .int x] (Pw (dC, dI) vwCl (ty0 cA cB) sz (w0 h0 ar ao cA cB g o (nI n) (nI k) v))) (va_Qi (fun r u => r = (gg_end x n).1 ∧ gs_is gg_I t (gg_end x n).2 z k v u) (Bw (S := gS) (dC, dI) vwCl (ty0 cA cB) sz (w0 h0 ar ao cA cB g o (nI n) (nI k) v) (B0 h0 ar ao cA cB)) (va_A (w0 h0 ar ao cA cB g o (nI n) (nI k) v) sz)) 0 0 (va_A (w0 h0 ar ao cA cB g o (nI n) (nI k) v) sz) := by
  refine mm_i (cc := cX0_end) (maxL := 2) (by decide) rfl (Nat.le_of_ble_eq_true rfl) ?_
  intro p e s m below meth c Q A H ls hx hb hml hown hts hK hP hD hS hA hl fin
  have hown : s.vm.findClass RX0 = some m.cls := hown
  have hin : ∀ w ∈ wsX00, w ∈ wsX0_end := by decide +kernel
  have hl : lv_has ls 2 [(0, .ref h0), (1, .int x)] := hl
  have hP : va_P (dC, dI) vwCl (w0 h0 ar ao cA cB g o (nI n) (nI k) v) H := hP
  have hD : va_D A (w0 h0 ar ao cA cB g o (nI n) (nI k) v) := hD
  refine lv_iload_n hx hb dX0_end_0 rfl (lv_at hl 1 rfl) ?_
  refine lv_if_lt (tgt := 12) hx hb dX0_end_1 (by decide) (fun c_1 => ?_) (fun c_1 => ?_)
  · have hf : gg_end x n = (-1, n) := by unfold gg_end; rw [if_neg (fun q => q.1 c_1)]
    refine lv_iconst (v := (-1)) hx hb dX0_end_12 (by decide) ?_
    exact fin H _ ls _ (-1) (g, o, nI n, nI k, v) dX0_end_13 (by rw [hf]; exact ⟨rfl, hI, hO, rfl, rfl, rfl⟩) hP hD hS
  · refine lv_iload_n hx hb dX0_end_4 rfl (lv_at hl 1 rfl) ?_
    refine lv_aload_n hx hb dX0_end_5 rfl (lv_at hl 0 rfl) ?_
    refine va_get (D := (dC, dI)) (ci := 0) (v := .int (nI n)) (C := RX0) (T := TX0) (N := 5) hx hb hts hin hown hK hP 0 rfl rfl 1 (by decide) (hts (.fieldLink RX0 13 "GroupedNumbers" "rowLength" "I") (by decide +kernel)) (fun _ h9 => h9) rfl dX0_end_6 ?_
    refine lv_icmp_le (tgt := 14) hx hb dX0_end_9 (by decide) (fun c_2 => ?_) (fun c_2 => ?_)
    · have hf : gg_end x n = (x, x.toNatClampNeg) := by unfold gg_end; rw [if_pos ⟨c_1, c_2⟩]
      have hbd := gg_end_bd (x := x) hn
      obtain ⟨j, hj, ej⟩ := nI_of c_1
      have ec : x.toNatClampNeg = j := by rw [ej]; exact nI_clamp hj
      rw [hf] at hbd
      have hbd : x.toNatClampNeg ≤ n := hbd
      rw [ec] at hbd
      refine lv_aload_n hx hb dX0_end_14 rfl (lv_at hl 0 rfl) ?_
      refine lv_iload_n hx hb dX0_end_15 rfl (lv_at hl 1 rfl) ?_
      refine va_put (D := (dC, dI)) (ci := 0) (v := .int x) (ty := .int) (C := RX0) (T := TX0) (N := 5) hx hb hts hin tyX0 tyX0_ok nmX0 hown hK hP hD hS 0 rfl rfl 1 (by decide) (hts (.fieldLink RX0 13 "GroupedNumbers" "rowLength" "I") (by decide +kernel)) (fun _ h9 => h9) rfl (by decide +kernel) rfl rfl (Nat.le_of_ble_eq_true rfl) dX0_end_16 (fun H locs hP hD hS => ?_)
      have hP : va_P (dC, dI) vwCl (w0 h0 ar ao cA cB g o x (nI k) v) H := hP
      have hD : va_D A (w0 h0 ar ao cA cB g o x (nI k) v) := hD
      refine lv_iload_n hx hb dX0_end_19 rfl (lv_at hl 1 rfl) ?_
      exact fin H _ ls _ x (g, o, x, nI k, v) dX0_end_20 (by rw [hf]; exact ⟨rfl, by show gg_I t x.toNatClampNeg g; rw [ec]; exact gg_I_sub hI hbd, hO, by show x = nI x.toNatClampNeg; rw [ec]; exact ej, rfl, rfl⟩) hP hD hS
    · have hf : gg_end x n = (-1, n) := by unfold gg_end; rw [if_neg (fun q => c_2 q.2)]
      refine lv_iconst (v := (-1)) hx hb dX0_end_12 (by decide) ?_
      exact fin H _ ls _ (-1) (g, o, nI n, nI k, v) dX0_end_13 (by rw [hf]; exact ⟨rfl, hI, hO, rfl, rfl, rfl⟩) hP hD hS

set_option maxHeartbeats 4000000 in
set_option maxRecDepth 100000 in
theorem c_X0_clear (l : Launch) (dC : Nat → ClassId) (dI : Nat → Nat → Nat) (h0 ar ao : Nat) (cA cB : ClassId) (sz : Nat) (g o : Nat → Int32) (n k : Nat) (v : Int64) (t z : Nat → Nat) (hI : gg_I t n g) (hO : gg_I z k o) (hn : n ≤ 1000) (hk : k ≤ 1000) : Met l yX0_clear wsX0_clear R0 (va_Pc [.ref h0] (Pw (dC, dI) vwCl (ty0 cA cB) sz (w0 h0 ar ao cA cB g o (nI n) (nI k) v))) (va_Qv (fun u => gs_is gg_I t 0 z 0 v u) (Bw (S := gS) (dC, dI) vwCl (ty0 cA cB) sz (w0 h0 ar ao cA cB g o (nI n) (nI k) v) (B0 h0 ar ao cA cB)) (va_A (w0 h0 ar ao cA cB g o (nI n) (nI k) v) sz)) 0 0 (va_A (w0 h0 ar ao cA cB g o (nI n) (nI k) v) sz) := by
  refine mm_v (cc := cX0_clear) (maxL := 1) (by decide) rfl (Nat.le_of_ble_eq_true rfl) ?_
  intro p e s m below meth c Q A H ls hx hb hml hown hts hK hP hD hS hA hl fin
  have hown : s.vm.findClass RX0 = some m.cls := hown
  have hin : ∀ w ∈ wsX00, w ∈ wsX0_clear := by decide +kernel
  have hl : lv_has ls 1 [(0, .ref h0)] := hl
  have hP : va_P (dC, dI) vwCl (w0 h0 ar ao cA cB g o (nI n) (nI k) v) H := hP
  have hD : va_D A (w0 h0 ar ao cA cB g o (nI n) (nI k) v) := hD
  refine lv_aload_n hx hb dX0_clear_0 rfl (lv_at hl 0 rfl) ?_
  refine lv_iconst (v := nI 0) hx hb dX0_clear_1 (by decide) ?_
  refine va_put (D := (dC, dI)) (ci := 0) (v := .int (nI 0)) (ty := .int) (C := RX0) (T := TX0) (N := 5) hx hb hts hin tyX0 tyX0_ok nmX0 hown hK hP hD hS 0 rfl rfl 3 (by decide) (hts (.fieldLink RX0 20 "GroupedNumbers" "outputLength" "I") (by decide +kernel)) (fun _ h9 => h9) rfl (by decide +kernel) rfl rfl (Nat.le_of_ble_eq_true rfl) dX0_clear_2 (fun H locs hP hD hS => ?_)
  have hP : va_P (dC, dI) vwCl (w0 h0 ar ao cA cB g o (nI n) (nI 0) v) H := hP
  have hD : va_D A (w0 h0 ar ao cA cB g o (nI n) (nI 0) v) := hD
  refine lv_aload_n hx hb dX0_clear_5 rfl (lv_at hl 0 rfl) ?_
  refine lv_iconst (v := nI 0) hx hb dX0_clear_6 (by decide) ?_
  refine va_put (D := (dC, dI)) (ci := 0) (v := .int (nI 0)) (ty := .int) (C := RX0) (T := TX0) (N := 5) hx hb hts hin tyX0 tyX0_ok nmX0 hown hK hP hD hS 0 rfl rfl 1 (by decide) (hts (.fieldLink RX0 13 "GroupedNumbers" "rowLength" "I") (by decide +kernel)) (fun _ h9 => h9) rfl (by decide +kernel) rfl rfl (Nat.le_of_ble_eq_true rfl) dX0_clear_7 (fun H locs hP hD hS => ?_)
  have hP : va_P (dC, dI) vwCl (w0 h0 ar ao cA cB g o (nI 0) (nI 0) v) H := hP
  have hD : va_D A (w0 h0 ar ao cA cB g o (nI 0) (nI 0) v) := hD
  exact fin H _ ls _ (g, o, nI 0, nI 0, v) dX0_clear_10 ⟨gg_I_sub hI (Nat.zero_le _), gg_I_sub hO (Nat.zero_le _), rfl, rfl, rfl⟩ hP hD hS

set_option maxHeartbeats 4000000 in
set_option maxRecDepth 100000 in
theorem c_X0_read (l : Launch) (dC : Nat → ClassId) (dI : Nat → Nat → Nat) (h0 ar ao : Nat) (cA cB : ClassId) (sz : Nat) (g o : Nat → Int32) (n k : Nat) (v : Int64) (t z : Nat → Nat) (a x : Int32) (hI : gg_I t n g) (hO : gg_I z k o) (hn : n ≤ 1000) (hk : k ≤ 1000) : Met l yX0_read wsX0_read R2 (va_Pc [.ref h0, .int a, .int x] (Pw (dC, dI) vwCl (ty0 cA cB) sz (w0 h0 ar ao cA cB g o (nI n) (nI k) v))) (va_Qi (fun r u => r = (gg_read a x t n v).1 ∧ gs_is gg_I t n z k (gg_read a x t n v).2 u) (Bw (S := gS) (dC, dI) vwCl (ty0 cA cB) sz (w0 h0 ar ao cA cB g o (nI n) (nI k) v) (B0 h0 ar ao cA cB)) (va_A (w0 h0 ar ao cA cB g o (nI n) (nI k) v) sz)) 0 0 (va_A (w0 h0 ar ao cA cB g o (nI n) (nI k) v) sz) := by
  refine mm_i (cc := cX0_read) (maxL := 7) (by decide) rfl (Nat.le_of_ble_eq_true rfl) ?_
  intro p e s m below meth c Q A H ls hx hb hml hown hts hK hP hD hS hA hl fin
  have hown : s.vm.findClass RX0 = some m.cls := hown
  have hin : ∀ w ∈ wsX00, w ∈ wsX0_read := by decide +kernel
  have hl : lv_has ls 7 [(0, .ref h0), (1, .int a), (2, .int x)] := hl
  have hP : va_P (dC, dI) vwCl (w0 h0 ar ao cA cB g o (nI n) (nI k) v) H := hP
  have hD : va_D A (w0 h0 ar ao cA cB g o (nI n) (nI k) v) := hD
  refine lv_iload_n hx hb dX0_read_0 rfl (lv_at hl 1 rfl) ?_
  refine cc_si (av := [.int a]) (rest := []) ⟨hx, hb, hml, hown, hts⟩ (c_X0_isKind l a) (va_cwS 1 hts gX0_read_X0_isKind rfl rfl rfl (by decide +kernel) ⟨Nat.le_of_ble_eq_true rfl, Nat.le_of_ble_eq_true rfl⟩) rfl hl.1 rfl (Nat.le_of_ble_eq_true rfl) dX0_read_1 ⟨Nat.zero_le _, Nat.zero_le _⟩ (fun r hr => ?_)
  refine lv_if_eq (tgt := 19) hx hb dX0_read_4 (by decide) (fun c_1 => ?_) (fun c_1 => ?_)
  · have hf : gg_read a x t n v = (-2, v) := by unfold gg_read; rw [if_neg (fun q => hr.mpr q.1 c_1)]
    refine lv_bipush (v := (-2)) hx hb dX0_read_19 (by decide) ?_
    exact fin H _ ls _ (-2) (g, o, nI n, nI k, v) dX0_read_21 (by rw [hf]; exact ⟨rfl, hI, hO, rfl, rfl, rfl⟩) hP hD hS
  · have hok : gg_ok a := hr.mp c_1
    refine lv_iload_n hx hb dX0_read_7 rfl (lv_at hl 2 rfl) ?_
    refine lv_if_lt (tgt := 19) hx hb dX0_read_8 (by decide) (fun c_2 => ?_) (fun c_2 => ?_)
    · have hf : gg_read a x t n v = (-2, v) := by unfold gg_read; rw [if_neg (fun q => q.2.1 c_2)]
      refine lv_bipush (v := (-2)) hx hb dX0_read_19 (by decide) ?_
      exact fin H _ ls _ (-2) (g, o, nI n, nI k, v) dX0_read_21 (by rw [hf]; exact ⟨rfl, hI, hO, rfl, rfl, rfl⟩) hP hD hS
    · refine lv_iload_n hx hb dX0_read_11 rfl (lv_at hl 2 rfl) ?_
      refine lv_aload_n hx hb dX0_read_12 rfl (lv_at hl 0 rfl) ?_
      refine va_get (D := (dC, dI)) (ci := 0) (v := .int (nI n)) (C := RX0) (T := TX0) (N := 5) hx hb hts hin hown hK hP 0 rfl rfl 1 (by decide) (hts (.fieldLink RX0 13 "GroupedNumbers" "rowLength" "I") (by decide +kernel)) (fun _ h9 => h9) rfl dX0_read_13 ?_
      refine lv_icmp_le (tgt := 22) hx hb dX0_read_16 (by decide) (fun c_3 => ?_) (fun c_3 => ?_)
      · have hf0 : gg_read a x t n v = gg_rd a t x.toNatClampNeg (gg_cnt t x.toNatClampNeg (min (gg_most a) (n - x.toNatClampNeg))) v := by unfold gg_read; rw [if_pos ⟨hok, c_2, c_3⟩]
        obtain ⟨j, hj31, rfl⟩ := nI_of c_2
        have hj : j ≤ n := (nI_leI (by omega) (by omega)).mp c_3
        rw [nI_clamp hj31] at hf0
        have hmb := gg_most_bd a
        obtain ⟨C, hC⟩ : ∃ C, C = gg_cnt t j (min (gg_most a) (n - j)) := ⟨_, rfl⟩
        rw [← hC] at hf0
        have hC1 : C ≤ min (gg_most a) (n - j) := by rw [hC]; exact gg_cnt_le _ _ _
        refine lv_aload_n hx hb dX0_read_22 rfl (lv_at hl 0 rfl) ?_
        refine lv_iload_n hx hb dX0_read_23 rfl (lv_at hl 2 rfl) ?_
        refine lv_iload_n hx hb dX0_read_24 rfl (lv_at hl 1 rfl) ?_
        refine cc_si (av := [.int a]) (rest := [.int (nI j), .ref h0]) ⟨hx, hb, hml, hown, hts⟩ (c_X0_mostGroups l a) (va_cwS 1 hts gX0_read_X0_mostGroups rfl rfl rfl (by decide +kernel) ⟨Nat.le_of_ble_eq_true rfl, Nat.le_of_ble_eq_true rfl⟩) rfl hl.1 rfl (Nat.le_of_ble_eq_true rfl) dX0_read_25 ⟨Nat.zero_le _, Nat.zero_le _⟩ (fun r hr => ?_)
        subst hr
        refine cc_vi (av := [.int (nI j), .int (nI (gg_most a))]) (rest := []) ⟨hx, hb, hml, hown, hts⟩ (c_X0_countGroups l dC dI h0 ar ao cA cB g o n k v t j (gg_most a) hI hn hj (by omega)) (cwV 2 hts gX0_read_X0_countGroups rfl rfl rfl (by decide +kernel) ⟨Nat.le_of_ble_eq_true rfl, Nat.le_of_ble_eq_true rfl⟩) hP hK (ci := 0) rfl rfl rfl hl.1 rfl (Nat.le_of_ble_eq_true rfl) dX0_read_28 ⟨Nat.zero_le _, Nat.zero_le _⟩ (fun r hr => ?_)
        rw [← hC] at hr
        subst hr
        refine lv_istore_n (lv' := [(3, .int (nI C)), (0, .ref h0), (1, .int a), (2, .int (nI j))]) hx hb dX0_read_31 rfl hl (by decide) rfl (fun ls hl => ?_)
        refine lv_iload_n hx hb dX0_read_32 rfl (lv_at hl 0 rfl) ?_
        refine lv_if_ne (tgt := 38) hx hb dX0_read_33 (by decide) (fun c_4 => ?_) (fun c_4 => ?_)
        · have hC0 : ¬ C = 0 := fun q => c_4 (by rw [q]; rfl)
          have hlast : t (j + (C - 1)) < 128 := gg_cnt_at (a := j) (k := min (gg_most a) (n - j)) (by rw [← hC]; omega)
          refine lv_aload_n hx hb dX0_read_38 rfl (lv_at hl 1 rfl) ?_
          refine va_get (D := (dC, dI)) (ci := 0) (v := .ref ar) (C := RX0) (T := TX0) (N := 5) hx hb hts hin hown hK hP 0 rfl rfl 0 (by decide) (hts (.fieldLink RX0 9 "GroupedNumbers" "row" "[I") (by decide +kernel)) (fun _ h9 => h9) rfl dX0_read_39 ?_
          refine lv_iload_n hx hb dX0_read_42 rfl (lv_at hl 3 rfl) ?_
          refine lv_iload_n hx hb dX0_read_43 rfl (lv_at hl 0 rfl) ?_
          refine lv_iadd hx hb dX0_read_44 ?_
          refine lv_topi (fun z_5 ez_5 => ?_)
          have ez_5 : z_5 = nI (j + C) := by rw [ez_5]; exact nI_add j C
          subst ez_5
          refine lv_iconst (v := nI 1) hx hb dX0_read_45 (by decide) ?_
          refine lv_isub hx hb dX0_read_46 ?_
          refine lv_topi (fun z_6 ez_6 => ?_)
          have ez_6 : z_6 = nI (j + (C - 1)) := by rw [ez_6]; rw [show j + (C - 1) = j + C - 1 by omega]; exact pk_sub (b := 1) (by omega)
          subst ez_6
          refine va_iald hx hb hK hP 1 0 rfl rfl (vp_in_nI (show j + (C - 1) < 1000 by omega) (by decide)) dX0_read_47 ?_
          refine lv_topi (fun z_7 ez_7 => ?_)
          have ez_7 : z_7 = nI (t (j + (C - 1))) := by rw [ez_7]; rw [nI_clamp (by omega)]; exact (hI (j + (C - 1)) (by omega)).2
          subst ez_7
          refine lv_istore (lv' := [(4, .int (nI (t (j + (C - 1))))), (3, .int (nI C)), (0, .ref h0), (1, .int a), (2, .int (nI j))]) hx hb dX0_read_48 hl (by decide) rfl (fun ls hl => ?_)
          have k69 : ¬ (C = gg_most a ∧ gg_bad a (t (j + (C - 1)))) → W p l e R2 s m ([.ref h0, .int a, .int (nI j)] : List Value).toArray below meth c H [] 0 0 Q (F0 m 69 ls []) := by
            intro hnb
            have hf : gg_read a (nI j) t n v = (nI C, lN (gg_val a t j C)) := by rw [hf0]; unfold gg_rd; rw [if_neg hC0, if_neg hnb]
            refine lv_aload_n hx hb dX0_read_69 rfl (lv_at hl 2 rfl) ?_
            refine lv_iload_n hx hb dX0_read_70 rfl (lv_at hl 4 rfl) ?_
            refine lv_iload_n hx hb dX0_read_71 rfl (lv_at hl 1 rfl) ?_
            refine cc_vl (av := [.int (nI j), .int (nI C)]) (rest := []) ⟨hx, hb, hml, hown, hts⟩ (c_X0_joinGroups l dC dI h0 ar ao cA cB g o n k v t j C hI hn (by omega) (by omega)) (cwV 2 hts gX0_read_X0_joinGroups rfl rfl rfl (by decide +kernel) ⟨Nat.le_of_ble_eq_true rfl, Nat.le_of_ble_eq_true rfl⟩) hP hK (ci := 0) rfl rfl rfl hl.1 rfl (Nat.le_of_ble_eq_true rfl) dX0_read_72 ⟨Nat.zero_le _, Nat.zero_le _⟩ (fun r hr => ?_)
            subst hr
            refine lv_lstore (lv' := [(5, .long (lN (gg_join t j C))), (4, .int (nI (t (j + (C - 1))))), (3, .int (nI C)), (0, .ref h0), (1, .int a), (2, .int (nI j))]) hx hb dX0_read_75 hl (by decide) rfl (fun ls hl => ?_)
            refine lv_aload_n hx hb dX0_read_77 rfl (lv_at hl 3 rfl) ?_
            refine lv_iload_n hx hb dX0_read_78 rfl (lv_at hl 4 rfl) ?_
            refine lv_if_ne (tgt := 87) hx hb dX0_read_79 (by decide) (fun c_8 => ?_) (fun c_8 => ?_)
            · refine lv_lload hx hb dX0_read_87 (lv_at hl 0 rfl) ?_
              refine lv_iload hx hb dX0_read_89 (lv_at hl 1 rfl) ?_
              refine lv_iload_n hx hb dX0_read_91 rfl (lv_at hl 2 rfl) ?_
              refine cc_sl (av := [.long (lN (gg_join t j C)), .int (nI (t (j + (C - 1)))), .int (nI C)]) (rest := [.ref h0]) ⟨hx, hb, hml, hown, hts⟩ (c_X0_extendSign l (gg_join t j C) (t (j + (C - 1))) C (gg_join_lt t j C) hlast (by omega)) (va_cwS 3 hts gX0_read_X0_extendSign rfl rfl rfl (by decide +kernel) ⟨Nat.le_of_ble_eq_true rfl, Nat.le_of_ble_eq_true rfl⟩) rfl hl.1 rfl (Nat.le_of_ble_eq_true rfl) dX0_read_92 ⟨Nat.zero_le _, Nat.zero_le _⟩ (fun r hr => ?_)
              have hv : r = lN (gg_val a t j C) := by
                rw [hr]
                unfold gg_val
                by_cases q : 64 ≤ t (j + (C - 1))
                · rw [if_pos q, if_pos ⟨c_8, q⟩]
                · rw [if_neg q, if_neg (fun h => q h.2)]
              refine va_put (D := (dC, dI)) (ci := 0) (v := .long r) (ty := .long) (C := RX0) (T := TX0) (N := 5) hx hb hts hin tyX0 tyX0_ok nmX0 hown hK hP hD hS 0 rfl rfl 4 (by decide) (hts (.fieldLink RX0 23 "GroupedNumbers" "lastRead" "J") (by decide +kernel)) (fun _ h9 => h9) rfl (by decide +kernel) rfl rfl (Nat.le_of_ble_eq_true rfl) dX0_read_95 (fun H locs hP hD hS => ?_)
              have hP : va_P (dC, dI) vwCl (w0 h0 ar ao cA cB g o (nI n) (nI k) r) H := hP
              have hD : va_D A (w0 h0 ar ao cA cB g o (nI n) (nI k) r) := hD
              refine lv_iload_n hx hb dX0_read_98 rfl (lv_at hl 2 rfl) ?_
              exact fin H _ ls _ (nI C) (g, o, nI n, nI k, r) dX0_read_99 (by rw [hf]; exact ⟨rfl, hI, hO, rfl, rfl, hv⟩) hP hD hS
            · have hv : lN (gg_join t j C) = lN (gg_val a t j C) := by unfold gg_val; rw [if_neg (fun q => q.1 c_8)]; rfl
              refine lv_lload hx hb dX0_read_82 (lv_at hl 0 rfl) ?_
              refine lv_goto (tgt := 95) hx hb dX0_read_84 (by decide) ?_
              refine va_put (D := (dC, dI)) (ci := 0) (v := .long (lN (gg_join t j C))) (ty := .long) (C := RX0) (T := TX0) (N := 5) hx hb hts hin tyX0 tyX0_ok nmX0 hown hK hP hD hS 0 rfl rfl 4 (by decide) (hts (.fieldLink RX0 23 "GroupedNumbers" "lastRead" "J") (by decide +kernel)) (fun _ h9 => h9) rfl (by decide +kernel) rfl rfl (Nat.le_of_ble_eq_true rfl) dX0_read_95 (fun H locs hP hD hS => ?_)
              have hP : va_P (dC, dI) vwCl (w0 h0 ar ao cA cB g o (nI n) (nI k) (lN (gg_join t j C))) H := hP
              have hD : va_D A (w0 h0 ar ao cA cB g o (nI n) (nI k) (lN (gg_join t j C))) := hD
              refine lv_iload_n hx hb dX0_read_98 rfl (lv_at hl 2 rfl) ?_
              exact fin H _ ls _ (nI C) (g, o, nI n, nI k, lN (gg_join t j C)) dX0_read_99 (by rw [hf]; exact ⟨rfl, hI, hO, rfl, rfl, hv⟩) hP hD hS
          refine lv_iload_n hx hb dX0_read_50 rfl (lv_at hl 1 rfl) ?_
          refine lv_iload_n hx hb dX0_read_51 rfl (lv_at hl 3 rfl) ?_
          refine cc_si (av := [.int a]) (rest := [.int (nI C)]) ⟨hx, hb, hml, hown, hts⟩ (c_X0_mostGroups l a) (va_cwS 1 hts gX0_read_X0_mostGroups rfl rfl rfl (by decide +kernel) ⟨Nat.le_of_ble_eq_true rfl, Nat.le_of_ble_eq_true rfl⟩) rfl hl.1 rfl (Nat.le_of_ble_eq_true rfl) dX0_read_52 ⟨Nat.zero_le _, Nat.zero_le _⟩ (fun r hr => ?_)
          subst hr
          refine lv_icmp_ne (tgt := 69) hx hb dX0_read_55 (by decide) (fun c_9 => ?_) (fun c_9 => ?_)
          · exact k69 (fun q => c_9 (by rw [q.1]))
          · have hCm : C = gg_most a := (nI_eq (by omega) (by omega)).mp c_9
            refine lv_iload_n hx hb dX0_read_58 rfl (lv_at hl 3 rfl) ?_
            refine lv_iload hx hb dX0_read_59 (lv_at hl 0 rfl) ?_
            refine cc_si (av := [.int a, .int (nI (t (j + (C - 1))))]) (rest := []) ⟨hx, hb, hml, hown, hts⟩ (c_X0_mayEndLongest l a (t (j + (C - 1))) hok hlast) (va_cwS 2 hts gX0_read_X0_mayEndLongest rfl rfl rfl (by decide +kernel) ⟨Nat.le_of_ble_eq_true rfl, Nat.le_of_ble_eq_true rfl⟩) rfl hl.1 rfl (Nat.le_of_ble_eq_true rfl) dX0_read_61 ⟨Nat.zero_le _, Nat.zero_le _⟩ (fun r hr => ?_)
            refine lv_if_ne (tgt := 69) hx hb dX0_read_64 (by decide) (fun c_10 => ?_) (fun c_10 => ?_)
            · exact k69 (fun q => hr.mp c_10 q.2)
            · have hf : gg_read a (nI j) t n v = (-1, v) := by rw [hf0]; unfold gg_rd; rw [if_neg hC0, if_pos ⟨hCm, Decidable.byContradiction (fun q => hr.mpr q c_10)⟩]
              refine lv_iconst (v := (-1)) hx hb dX0_read_67 (by decide) ?_
              exact fin H _ ls _ (-1) (g, o, nI n, nI k, v) dX0_read_68 (by rw [hf]; exact ⟨rfl, hI, hO, rfl, rfl, rfl⟩) hP hD hS
        · have hf : gg_read a (nI j) t n v = (-1, v) := by rw [hf0]; unfold gg_rd; rw [if_pos ((nI_eq (b := 0) (by omega) (by decide)).mp c_4)]
          refine lv_iconst (v := (-1)) hx hb dX0_read_36 (by decide) ?_
          exact fin H _ ls _ (-1) (g, o, nI n, nI k, v) dX0_read_37 (by rw [hf]; exact ⟨rfl, hI, hO, rfl, rfl, rfl⟩) hP hD hS
      · have hf : gg_read a x t n v = (-2, v) := by unfold gg_read; rw [if_neg (fun q => c_3 q.2.2)]
        refine lv_bipush (v := (-2)) hx hb dX0_read_19 (by decide) ?_
        exact fin H _ ls _ (-2) (g, o, nI n, nI k, v) dX0_read_21 (by rw [hf]; exact ⟨rfl, hI, hO, rfl, rfl, rfl⟩) hP hD hS

set_option maxHeartbeats 4000000 in
set_option maxRecDepth 100000 in
theorem c_X0_write (l : Launch) (dC : Nat → ClassId) (dI : Nat → Nat → Nat) (h0 ar ao : Nat) (cA cB : ClassId) (sz : Nat) (g o : Nat → Int32) (n k : Nat) (v : Int64) (t z : Nat → Nat) (a : Int32) (x : Int64) (hI : gg_I t n g) (hO : gg_I z k o) (hn : n ≤ 1000) (hk : k ≤ 1000) : Met l yX0_write wsX0_write R2 (va_Pc [.ref h0, .int a, .long x] (Pw (dC, dI) vwCl (ty0 cA cB) sz (w0 h0 ar ao cA cB g o (nI n) (nI k) v))) (va_Qi (fun r u => r = (gg_write a x k z).1 ∧ gs_is gg_I t n (gg_write a x k z).2.2 (gg_write a x k z).2.1 v u) (Bw (S := gS) (dC, dI) vwCl (ty0 cA cB) sz (w0 h0 ar ao cA cB g o (nI n) (nI k) v) (B0 h0 ar ao cA cB)) (va_A (w0 h0 ar ao cA cB g o (nI n) (nI k) v) sz)) 0 0 (va_A (w0 h0 ar ao cA cB g o (nI n) (nI k) v) sz) := by
  refine mm_i (cc := cX0_write) (maxL := 5) (by decide) rfl (Nat.le_of_ble_eq_true rfl) ?_
  intro p e s m below meth c Q A H ls hx hb hml hown hts hK hP hD hS hA hl fin
  have hown : s.vm.findClass RX0 = some m.cls := hown
  have hin : ∀ w ∈ wsX00, w ∈ wsX0_write := by decide +kernel
  have hl : lv_has ls 5 [(0, .ref h0), (1, .int a), (2, .long x)] := hl
  have hP : va_P (dC, dI) vwCl (w0 h0 ar ao cA cB g o (nI n) (nI k) v) H := hP
  have hD : va_D A (w0 h0 ar ao cA cB g o (nI n) (nI k) v) := hD
  refine lv_iload_n hx hb dX0_write_0 rfl (lv_at hl 1 rfl) ?_
  refine cc_si (av := [.int a]) (rest := []) ⟨hx, hb, hml, hown, hts⟩ (c_X0_isKind l a) (va_cwS 1 hts gX0_write_X0_isKind rfl rfl rfl (by decide +kernel) ⟨Nat.le_of_ble_eq_true rfl, Nat.le_of_ble_eq_true rfl⟩) rfl hl.1 rfl (Nat.le_of_ble_eq_true rfl) dX0_write_1 ⟨Nat.zero_le _, Nat.zero_le _⟩ (fun r hr => ?_)
  have hk1 := hr
  refine lv_if_ne (tgt := 10) hx hb dX0_write_4 (by decide) (fun c_1 => ?_) (fun c_1 => ?_)
  · have hok : gg_ok a := hk1.mp c_1
    refine lv_iload_n hx hb dX0_write_10 rfl (lv_at hl 1 rfl) ?_
    refine lv_lload_n hx hb dX0_write_11 rfl (lv_at hl 2 rfl) ?_
    refine cc_si (av := [.int a, .long x]) (rest := []) ⟨hx, hb, hml, hown, hts⟩ (c_X0_isNumberOf l a x) (va_cwS 2 hts gX0_write_X0_isNumberOf rfl rfl rfl (by decide +kernel) ⟨Nat.le_of_ble_eq_true rfl, Nat.le_of_ble_eq_true rfl⟩) rfl hl.1 rfl (Nat.le_of_ble_eq_true rfl) dX0_write_12 ⟨Nat.zero_le _, Nat.zero_le _⟩ (fun r hr => ?_)
    have hk2 := hr
    refine lv_if_ne (tgt := 20) hx hb dX0_write_15 (by decide) (fun c_2 => ?_) (fun c_2 => ?_)
    · have hnum : gg_num a x := hk2.mp c_2
      have hnb := gg_need_bd a x
      have hmb := gg_most_bd a
      refine lv_iload_n hx hb dX0_write_20 rfl (lv_at hl 1 rfl) ?_
      refine lv_lload_n hx hb dX0_write_21 rfl (lv_at hl 2 rfl) ?_
      refine cc_si (av := [.int a, .long x]) (rest := []) ⟨hx, hb, hml, hown, hts⟩ (c_X0_groupsNeeded l a x) (va_cwS 2 hts gX0_write_X0_groupsNeeded rfl rfl rfl (by decide +kernel) ⟨Nat.le_of_ble_eq_true rfl, Nat.le_of_ble_eq_true rfl⟩) rfl hl.1 rfl (Nat.le_of_ble_eq_true rfl) dX0_write_22 ⟨Nat.zero_le _, Nat.zero_le _⟩ (fun r hr => ?_)
      subst hr
      refine lv_istore (lv' := [(4, .int (nI (gg_need a x))), (0, .ref h0), (1, .int a), (2, .long x)]) hx hb dX0_write_25 hl (by decide) rfl (fun ls hl => ?_)
      refine lv_iload hx hb dX0_write_27 (lv_at hl 0 rfl) ?_
      refine lv_sipush (v := nI 1000) hx hb dX0_write_29 (by decide) ?_
      refine lv_aload_n hx hb dX0_write_32 rfl (lv_at hl 1 rfl) ?_
      refine va_get (D := (dC, dI)) (ci := 0) (v := .int (nI k)) (C := RX0) (T := TX0) (N := 5) hx hb hts hin hown hK hP 0 rfl rfl 3 (by decide) (hts (.fieldLink RX0 20 "GroupedNumbers" "outputLength" "I") (by decide +kernel)) (fun _ h9 => h9) rfl dX0_write_33 ?_
      refine lv_isub hx hb dX0_write_36 ?_
      refine lv_topi (fun z_3 ez_3 => ?_)
      have ez_3 : z_3 = nI (1000 - k) := by rw [ez_3]; exact pk_sub (by omega)
      subst ez_3
      refine lv_icmp_le (tgt := 43) hx hb dX0_write_37 (by decide) (fun c_4 => ?_) (fun c_4 => ?_)
      · have hroom : k + gg_need a x ≤ 1000 := by
          have q := (nI_leI (by omega) (by omega)).mp c_4
          omega
        have hf : gg_write a x k z = (nI (gg_need a x), k + gg_need a x, sb_cat z k (gg_by x (gg_need a x))) := by unfold gg_write; rw [if_pos hok, if_pos hnum, if_pos hroom]
        refine lv_aload_n hx hb dX0_write_43 rfl (lv_at hl 1 rfl) ?_
        refine lv_lload_n hx hb dX0_write_44 rfl (lv_at hl 3 rfl) ?_
        refine lv_iload hx hb dX0_write_45 (lv_at hl 0 rfl) ?_
        refine cc_mv (av := [.long x, .int (nI (gg_need a x))]) (rest := []) [0, 1, 2] [] ⟨hx, hb, hml, hown, hts⟩ (c_X0_appendToOutput l dC dI h0 ar ao cA cB H.size g o n k v z x (gg_need a x) hO hroom hnb.1 (by omega)) (cwV 2 hts gX0_write_X0_appendToOutput rfl rfl rfl (by decide +kernel) ⟨Nat.le_of_ble_eq_true rfl, Nat.le_of_ble_eq_true rfl⟩) hP hD hS hA hK (wr := []) rfl rfl (by decide) (by decide) (by decide) (ci := 0) rfl rfl rfl hl.1 rfl (Nat.le_of_ble_eq_true rfl) dX0_write_47 ⟨Nat.zero_le _, Nat.zero_le _⟩ (fun o1 H locs hO1 hP hD hS => ?_)
        have hP : va_P (dC, dI) vwCl (w0 h0 ar ao cA cB g o1 (nI n) (nI (k + gg_need a x)) v) H := hP
        have hD : va_D A (w0 h0 ar ao cA cB g o1 (nI n) (nI (k + gg_need a x)) v) := hD
        refine lv_iload hx hb dX0_write_50 (lv_at hl 0 rfl) ?_
        exact fin H _ ls _ (nI (gg_need a x)) (g, o1, nI n, nI (k + gg_need a x), v) dX0_write_52 (by rw [hf]; exact ⟨rfl, hI, hO1, rfl, rfl, rfl⟩) hP hD hS
      · have hroom : ¬ k + gg_need a x ≤ 1000 := by
          have q : ¬ gg_need a x ≤ 1000 - k := fun q => c_4 ((nI_leI (by omega) (by omega)).mpr q)
          omega
        have hf : gg_write a x k z = (-2, k, z) := by unfold gg_write; rw [if_pos hok, if_pos hnum, if_neg hroom]
        refine lv_bipush (v := (-2)) hx hb dX0_write_40 (by decide) ?_
        exact fin H _ ls _ (-2) (g, o, nI n, nI k, v) dX0_write_42 (by rw [hf]; exact ⟨rfl, hI, hO, rfl, rfl, rfl⟩) hP hD hS
    · have hf : gg_write a x k z = (-1, k, z) := by unfold gg_write; rw [if_pos hok, if_neg (fun q => hk2.mpr q c_2)]
      refine lv_iconst (v := (-1)) hx hb dX0_write_18 (by decide) ?_
      exact fin H _ ls _ (-1) (g, o, nI n, nI k, v) dX0_write_19 (by rw [hf]; exact ⟨rfl, hI, hO, rfl, rfl, rfl⟩) hP hD hS
  · have hf : gg_write a x k z = (-2, k, z) := by unfold gg_write; rw [if_neg (fun q => hk1.mpr q c_1)]
    refine lv_bipush (v := (-2)) hx hb dX0_write_7 (by decide) ?_
    exact fin H _ ls _ (-2) (g, o, nI n, nI k, v) dX0_write_9 (by rw [hf]; exact ⟨rfl, hI, hO, rfl, rfl, rfl⟩) hP hD hS
