/-! write of the reference -/

set_option maxHeartbeats 4000000 in
set_option maxRecDepth 100000 in
theorem c_X1_write (l : Launch) (dC : Nat → ClassId) (dI : Nat → Nat → Nat) (h0 ar ao : Nat) (cA cB : ClassId) (sz : Nat) (g o : Nat → Int32) (n k : Nat) (v : Int64) (t z : Nat → Nat) (a : Int32) (x : Int64) (hI : sb_Lat t n g) (hO : sb_Lat z k o) (hn : n ≤ 1000) (hk : k ≤ 1000) : Met l yX1_write wsX1_write R2 (va_Pc [.ref h0, .int a, .long x] (Pw (dC, dI) vwCl (ty1 cA cB) sz (w1 h0 ar ao cA cB g o (nI n) (nI k) v))) (va_Qi (fun r u => r = (gg_write a x k z).1 ∧ gs_is sb_Lat t n (gg_write a x k z).2.2 (gg_write a x k z).2.1 v u) (Bw (S := gS) (dC, dI) vwCl (ty1 cA cB) sz (w1 h0 ar ao cA cB g o (nI n) (nI k) v) (B1 h0 ar ao cA cB)) (va_A (w1 h0 ar ao cA cB g o (nI n) (nI k) v) sz)) 0 0 (va_A (w1 h0 ar ao cA cB g o (nI n) (nI k) v) sz) := by
  refine mm_i (cc := cX1_write) (maxL := 7) (by decide) rfl (Nat.le_of_ble_eq_true rfl) ?_
  intro p e s m below meth c Q A H ls hx hb hml hown hts hK hP hD hS hA hl fin
  have hown : s.vm.findClass RX1 = some m.cls := hown
  have hin : ∀ w ∈ wsX10, w ∈ wsX1_write := by decide +kernel
  have hl : lv_has ls 7 [(0, .ref h0), (1, .int a), (2, .long x)] := hl
  have hP : va_P (dC, dI) vwCl (w1 h0 ar ao cA cB g o (nI n) (nI k) v) H := hP
  have hD : va_D A (w1 h0 ar ao cA cB g o (nI n) (nI k) v) := hD
  refine lv_iload_n hx hb dX1_write_0 rfl (lv_at hl 1 rfl) ?_
  refine lv_if_lt (tgt := 9) hx hb dX1_write_1 (by decide) (fun c_1 => ?_) (fun c_1 => ?_)
  · have hf : gg_write a x k z = (-2, k, z) := by unfold gg_write; rw [if_neg (fun q => gg_ok_lo q c_1)]
    refine lv_bipush (v := (-2)) hx hb dX1_write_9 (by decide) ?_
    exact fin H _ ls _ (-2) (g, o, nI n, nI k, v) dX1_write_11 (by rw [hf]; exact ⟨rfl, hI, hO, rfl, rfl, rfl⟩) hP hD hS
  · refine lv_iload_n hx hb dX1_write_4 rfl (lv_at hl 1 rfl) ?_
    refine lv_iconst (v := 2) hx hb dX1_write_5 (by decide) ?_
    refine lv_icmp_le (tgt := 12) hx hb dX1_write_6 (by decide) (fun c_2 => ?_) (fun c_2 => ?_)
    · have hok : gg_ok a := gg_ok_iff c_1 (Int32.not_lt.mpr c_2)
      have hmb := gg_most_bd a
      have hnb := gg_need_bd a x
      have k45 : gg_num a x → W p l e R2 s m ([.ref h0, .int a, .long x] : List Value).toArray below meth c H [] 0 0 Q (F0 m 45 ls []) := by
        intro hnum
        refine lv_iconst (v := nI 1) hx hb dX1_write_45 (by decide) ?_
        refine lv_istore (lv' := [(4, .int (nI 1)), (0, .ref h0), (1, .int a), (2, .long x)]) hx hb dX1_write_46 hl (by decide) rfl (fun ls hl => ?_)
        have k64 : ∀ (ls : Array Slot), lv_has ls 7 [(4, .int (nI (gg_need a x))), (0, .ref h0), (1, .int a), (2, .long x)] → W p l e R2 s m ([.ref h0, .int a, .long x] : List Value).toArray below meth c H [] 0 0 Q (F0 m 64 ls []) := by
          intro ls hl
          refine lv_aload_n hx hb dX1_write_64 rfl (lv_at hl 1 rfl) ?_
          refine va_get (D := (dC, dI)) (ci := 1) (v := .int (nI k)) (C := RX1) (T := TX1) (N := 5) hx hb hts hin hown hK hP 0 rfl rfl 3 (by decide) (hts (.fieldLink RX1 36 "GroupedNumbersModel" "outs" "I") (by decide +kernel)) (fun _ h9 => h9) rfl dX1_write_65 ?_
          refine lv_iload hx hb dX1_write_68 (lv_at hl 0 rfl) ?_
          refine lv_iadd hx hb dX1_write_70 ?_
          refine lv_topi (fun z_3 ez_3 => ?_)
          have ez_3 : z_3 = nI (k + gg_need a x) := by rw [ez_3]; exact nI_add _ _
          subst ez_3
          refine lv_sipush (v := nI 1000) hx hb dX1_write_71 (by decide) ?_
          refine lv_icmp_le (tgt := 80) hx hb dX1_write_74 (by decide) (fun c_4 => ?_) (fun c_4 => ?_)
          · have hroom : k + gg_need a x ≤ 1000 := (nI_leI (by omega) (by decide)).mp c_4
            have hf : gg_write a x k z = (nI (gg_need a x), k + gg_need a x, sb_cat z k (gg_by x (gg_need a x))) := by unfold gg_write; rw [if_pos hok, if_pos hnum, if_pos hroom]
            refine lv_iconst (v := nI 0) hx hb dX1_write_80 (by decide) ?_
            refine lv_istore (lv' := [(5, .int (nI 0)), (4, .int (nI (gg_need a x))), (0, .ref h0), (1, .int a), (2, .long x)]) hx hb dX1_write_81 hl (by decide) rfl (fun ls hl => ?_)
            obtain ⟨M, hM⟩ : ∃ M, M = gg_need a x := ⟨_, rfl⟩
            rw [← hM] at hl hf hroom hnb
            have loop2 : ∀ (f i : Nat) (gi : Nat → Int32) (H : Heap) (locs : List Loc) (ls : Array Slot), i ≤ M → M + 1 ≤ i + f → sb_Lat (sb_cat z k (gg_by x M)) (k + i) gi → va_P (dC, dI) vwCl (w1 h0 ar ao cA cB g gi (nI n) (nI (k + i)) v) H → va_D A (w1 h0 ar ao cA cB g gi (nI n) (nI (k + i)) v) → va_S A s.heap H locs → lv_has ls 7 [(5, .int (nI i)), (4, .int (nI M)), (0, .ref h0), (1, .int a), (2, .long x)] → W p l e R2 s m ([.ref h0, .int a, .long x] : List Value).toArray below meth c H locs 0 0 Q (F0 m 83 ls []) := by
              intro f
              induction f with
              | zero => intro i gi H locs ls h1 h2
                        exact absurd h2 (by omega)
              | succ f ih =>
                intro i gi H locs ls hi hf2 hOi hP hD hS hl
                refine lv_iload hx hb dX1_write_83 (lv_at hl 0 rfl) ?_
                refine lv_iload hx hb dX1_write_85 (lv_at hl 1 rfl) ?_
                refine lv_icmp_ge (tgt := 154) hx hb dX1_write_87 (by decide) (fun c_5 => ?_) (fun c_5 => ?_)
                · have dc_5 : i = M := by
                    have q := (nI_leI (by omega) (by omega)).mp c_5
                    omega
                  subst dc_5
                  refine lv_iload hx hb dX1_write_154 (lv_at hl 1 rfl) ?_
                  exact fin H _ ls _ (nI i) (g, gi, nI n, nI (k + i), v) dX1_write_156 (by rw [hf]; exact ⟨rfl, hI, hOi, rfl, rfl, rfl⟩) hP hD hS
                · have dc_5 : i < M := Nat.lt_of_not_le (fun q => c_5 ((nI_leI (by omega) (by omega)).mpr q))
                  refine lv_lload_n hx hb dX1_write_90 rfl (lv_at hl 4 rfl) ?_
                  refine lv_bipush (v := 7) hx hb dX1_write_91 (by decide) ?_
                  refine lv_iload hx hb dX1_write_93 (lv_at hl 0 rfl) ?_
                  refine lv_imul hx hb dX1_write_95 ?_
                  refine lv_bipush (v := nI 63) hx hb dX1_write_96 (by decide) ?_
                  refine va_mmin hx hb (by rw [hml]; exact hl.1.symm) hown (hts (.methodLink RX1 39 Lib.Math.min.name) (by decide +kernel)) (hts (.static Lib.Math.min.name) (by decide +kernel)) (hts (.initialized "java/lang/Math") (by decide +kernel)) (hts (.code Lib.Math.min.name Lib.Math.min.code 2 (some .int)) (by decide +kernel)) (Nat.le_of_ble_eq_true rfl) (Nat.le_of_ble_eq_true rfl) (Nat.le_of_ble_eq_true rfl) (Nat.le_of_ble_eq_true rfl) dX1_write_98 ?_
                  refine lv_topi (fun z_6 ez_6 => ?_)
                  have ez_6 : z_6 = (7 * nI i) := by rw [ez_6]; rw [gg_7, if_neg (fun q => by have q := (nI_ltI (by decide) (by omega)).mp q; omega)]
                  subst ez_6
                  refine lv_lshr hx hb dX1_write_101 rfl ?_
                  refine lv_l2i hx hb dX1_write_102 rfl ?_
                  refine lv_bipush (v := 127) hx hb dX1_write_103 (by decide) ?_
                  refine lv_iand hx hb dX1_write_105 ?_
                  refine lv_topi (fun z_7 ez_7 => ?_)
                  have ez_7 : z_7 = nI (gg_grp x i) := by rw [ez_7]; exact gg_grp_I x i
                  subst ez_7
                  refine lv_istore (lv' := [(6, .int (nI (gg_grp x i))), (5, .int (nI i)), (4, .int (nI M)), (0, .ref h0), (1, .int a), (2, .long x)]) hx hb dX1_write_106 hl (by decide) rfl (fun ls hl => ?_)
                  refine lv_aload_n hx hb dX1_write_108 rfl (lv_at hl 3 rfl) ?_
                  refine va_get (D := (dC, dI)) (ci := 1) (v := .ref ao) (C := RX1) (T := TX1) (N := 5) hx hb hts hin hown hK hP 0 rfl rfl 1 (by decide) (hts (.fieldLink RX1 13 "GroupedNumbersModel" "out" "[B") (by decide +kernel)) (fun _ h9 => h9) rfl dX1_write_109 ?_
                  refine lv_aload_n hx hb dX1_write_112 rfl (lv_at hl 3 rfl) ?_
                  refine va_get (D := (dC, dI)) (ci := 1) (v := .int (nI (k + i))) (C := RX1) (T := TX1) (N := 5) hx hb hts hin hown hK hP 0 rfl rfl 3 (by decide) (hts (.fieldLink RX1 36 "GroupedNumbersModel" "outs" "I") (by decide +kernel)) (fun _ h9 => h9) rfl dX1_write_113 ?_
                  refine lv_iload hx hb dX1_write_116 (lv_at hl 1 rfl) ?_
                  refine lv_iload hx hb dX1_write_118 (lv_at hl 2 rfl) ?_
                  refine lv_iconst (v := nI 1) hx hb dX1_write_120 (by decide) ?_
                  refine lv_isub hx hb dX1_write_121 ?_
                  refine lv_topi (fun z_8 ez_8 => ?_)
                  have ez_8 : z_8 = nI (M - 1) := by rw [ez_8]; exact pk_sub (by omega)
                  subst ez_8
                  have hgl := gg_grp_lt x i
                  refine lv_icmp_ge (tgt := 134) hx hb dX1_write_122 (by decide) (fun c_9 => ?_) (fun c_9 => ?_)
                  · have dc_9 : ¬ i + 1 < M := by
                      have q := (nI_leI (by omega) (by omega)).mp c_9
                      omega
                    refine lv_iload hx hb dX1_write_134 (lv_at hl 0 rfl) ?_
                    have hby : gg_by x M i = gg_grp x i := by
                      unfold gg_by
                      rw [if_neg dc_9, Nat.add_zero]
                    refine lv_i2b hx hb dX1_write_136 rfl ?_
                    refine lv_topi (fun z_10 ez_10 => ?_)
                    have ez_10 : z_10 = sb_b (gg_grp x i) := by rw [ez_10]; rfl
                    subst ez_10
                    have hnar : vp_nar .byte (sb_b (gg_grp x i)) = sb_b (gg_grp x i) := pk_vb _
                    refine va_bast hx hb hK hP hD hS 2 1 rfl rfl (vp_in_nI (show k + i < 1000 by omega) (by decide)) dX1_write_137 (fun H locs hP hD hS => ?_)
                    rw [nI_clamp (show k + i < 2 ^ 31 by omega), hnar] at hP hD
                    have hP : va_P (dC, dI) vwCl (w1 h0 ar ao cA cB g (upd gi (k + i) (sb_b (gg_grp x i))) (nI n) (nI (k + i)) v) H := hP
                    have hD : va_D A (w1 h0 ar ao cA cB g (upd gi (k + i) (sb_b (gg_grp x i))) (nI n) (nI (k + i)) v) := hD
                    refine lv_aload_n hx hb dX1_write_138 rfl (lv_at hl 3 rfl) ?_
                    refine lv_dup hx hb dX1_write_139 rfl ?_
                    refine va_get (D := (dC, dI)) (ci := 1) (v := .int (nI (k + i))) (C := RX1) (T := TX1) (N := 5) hx hb hts hin hown hK hP 0 rfl rfl 3 (by decide) (hts (.fieldLink RX1 36 "GroupedNumbersModel" "outs" "I") (by decide +kernel)) (fun _ h9 => h9) rfl dX1_write_140 ?_
                    refine lv_iconst (v := nI 1) hx hb dX1_write_143 (by decide) ?_
                    refine lv_iadd hx hb dX1_write_144 ?_
                    refine lv_topi (fun z_11 ez_11 => ?_)
                    have ez_11 : z_11 = nI (k + (i + 1)) := by rw [ez_11]; exact nI_add (k + i) 1
                    subst ez_11
                    refine va_put (D := (dC, dI)) (ci := 1) (v := .int (nI (k + (i + 1)))) (ty := .int) (C := RX1) (T := TX1) (N := 5) hx hb hts hin tyX1 tyX1_ok nmX1 hown hK hP hD hS 0 rfl rfl 3 (by decide) (hts (.fieldLink RX1 36 "GroupedNumbersModel" "outs" "I") (by decide +kernel)) (fun _ h9 => h9) rfl (by decide +kernel) rfl rfl (Nat.le_of_ble_eq_true rfl) dX1_write_145 (fun H locs hP hD hS => ?_)
                    have hP : va_P (dC, dI) vwCl (w1 h0 ar ao cA cB g (upd gi (k + i) (sb_b (gg_grp x i))) (nI n) (nI (k + (i + 1))) v) H := hP
                    have hD : va_D A (w1 h0 ar ao cA cB g (upd gi (k + i) (sb_b (gg_grp x i))) (nI n) (nI (k + (i + 1))) v) := hD
                    refine lv_iinc (v := nI (i + 1)) (lv' := [(5, .int (nI (i + 1))), (6, .int (nI (gg_grp x i))), (4, .int (nI M)), (0, .ref h0), (1, .int a), (2, .long x)]) hx hb dX1_write_148 hl (k := 1) rfl (show nI i + 1 = nI (i + 1) from nI_1 i) (by decide) rfl (fun ls hl => ?_)
                    refine lv_goto (tgt := 83) hx hb dX1_write_151 (by decide) ?_
                    exact ih (i + 1) _ H locs ls (by omega) (by omega) (gg_B_push (n := k + i) hOi (by rw [sb_cat_hi]; exact gg_by_lt x M i) (by rw [sb_cat_hi, hby])) hP hD hS (lv_sub hl [0, 2, 3, 4, 5] rfl)
                  · have dc_9 : i + 1 < M := by
                      have q : ¬ M - 1 ≤ i := fun q => c_9 ((nI_leI (by omega) (by omega)).mpr q)
                      omega
                    refine lv_iload hx hb dX1_write_125 (lv_at hl 0 rfl) ?_
                    refine lv_sipush (v := 128) hx hb dX1_write_127 (by decide) ?_
                    refine lv_ior hx hb dX1_write_130 ?_
                    refine lv_topi (fun z_12 ez_12 => ?_)
                    have ez_12 : z_12 = nI (gg_grp x i + 128) := by rw [ez_12]; exact gg_or128 _ hgl
                    subst ez_12
                    refine lv_goto (tgt := 136) hx hb dX1_write_131 (by decide) ?_
                    have hby : gg_by x M i = gg_grp x i + 128 := by
                      unfold gg_by
                      rw [if_pos dc_9]
                    refine lv_i2b hx hb dX1_write_136 rfl ?_
                    refine lv_topi (fun z_13 ez_13 => ?_)
                    have ez_13 : z_13 = sb_b (gg_grp x i + 128) := by rw [ez_13]; rfl
                    subst ez_13
                    have hnar : vp_nar .byte (sb_b (gg_grp x i + 128)) = sb_b (gg_grp x i + 128) := pk_vb _
                    refine va_bast hx hb hK hP hD hS 2 1 rfl rfl (vp_in_nI (show k + i < 1000 by omega) (by decide)) dX1_write_137 (fun H locs hP hD hS => ?_)
                    rw [nI_clamp (show k + i < 2 ^ 31 by omega), hnar] at hP hD
                    have hP : va_P (dC, dI) vwCl (w1 h0 ar ao cA cB g (upd gi (k + i) (sb_b (gg_grp x i + 128))) (nI n) (nI (k + i)) v) H := hP
                    have hD : va_D A (w1 h0 ar ao cA cB g (upd gi (k + i) (sb_b (gg_grp x i + 128))) (nI n) (nI (k + i)) v) := hD
                    refine lv_aload_n hx hb dX1_write_138 rfl (lv_at hl 3 rfl) ?_
                    refine lv_dup hx hb dX1_write_139 rfl ?_
                    refine va_get (D := (dC, dI)) (ci := 1) (v := .int (nI (k + i))) (C := RX1) (T := TX1) (N := 5) hx hb hts hin hown hK hP 0 rfl rfl 3 (by decide) (hts (.fieldLink RX1 36 "GroupedNumbersModel" "outs" "I") (by decide +kernel)) (fun _ h9 => h9) rfl dX1_write_140 ?_
                    refine lv_iconst (v := nI 1) hx hb dX1_write_143 (by decide) ?_
                    refine lv_iadd hx hb dX1_write_144 ?_
                    refine lv_topi (fun z_14 ez_14 => ?_)
                    have ez_14 : z_14 = nI (k + (i + 1)) := by rw [ez_14]; exact nI_add (k + i) 1
                    subst ez_14
                    refine va_put (D := (dC, dI)) (ci := 1) (v := .int (nI (k + (i + 1)))) (ty := .int) (C := RX1) (T := TX1) (N := 5) hx hb hts hin tyX1 tyX1_ok nmX1 hown hK hP hD hS 0 rfl rfl 3 (by decide) (hts (.fieldLink RX1 36 "GroupedNumbersModel" "outs" "I") (by decide +kernel)) (fun _ h9 => h9) rfl (by decide +kernel) rfl rfl (Nat.le_of_ble_eq_true rfl) dX1_write_145 (fun H locs hP hD hS => ?_)
                    have hP : va_P (dC, dI) vwCl (w1 h0 ar ao cA cB g (upd gi (k + i) (sb_b (gg_grp x i + 128))) (nI n) (nI (k + (i + 1))) v) H := hP
                    have hD : va_D A (w1 h0 ar ao cA cB g (upd gi (k + i) (sb_b (gg_grp x i + 128))) (nI n) (nI (k + (i + 1))) v) := hD
                    refine lv_iinc (v := nI (i + 1)) (lv' := [(5, .int (nI (i + 1))), (6, .int (nI (gg_grp x i))), (4, .int (nI M)), (0, .ref h0), (1, .int a), (2, .long x)]) hx hb dX1_write_148 hl (k := 1) rfl (show nI i + 1 = nI (i + 1) from nI_1 i) (by decide) rfl (fun ls hl => ?_)
                    refine lv_goto (tgt := 83) hx hb dX1_write_151 (by decide) ?_
                    exact ih (i + 1) _ H locs ls (by omega) (by omega) (gg_B_push (n := k + i) hOi (by rw [sb_cat_hi]; exact gg_by_lt x M i) (by rw [sb_cat_hi, hby])) hP hD hS (lv_sub hl [0, 2, 3, 4, 5] rfl)
            exact loop2 (M + 1) 0 o H [] ls (by omega) (by omega) (gg_B_cat hO) hP hD hS hl
          · have hroom : ¬ k + gg_need a x ≤ 1000 := fun q => c_4 ((nI_leI (by omega) (by decide)).mpr q)
            have hf : gg_write a x k z = (-2, k, z) := by unfold gg_write; rw [if_pos hok, if_pos hnum, if_neg hroom]
            refine lv_bipush (v := (-2)) hx hb dX1_write_77 (by decide) ?_
            exact fin H _ ls _ (-2) (g, o, nI n, nI k, v) dX1_write_79 (by rw [hf]; exact ⟨rfl, hI, hO, rfl, rfl, rfl⟩) hP hD hS
        have loop1 : ∀ (f i : Nat) (ls : Array Slot), i ≤ gg_most a → gg_most a + 1 ≤ i + f → 1 ≤ i → (∀ j, 1 ≤ j → j < i → gg_fit a x j = false) → lv_has ls 7 [(4, .int (nI i)), (0, .ref h0), (1, .int a), (2, .long x)] → W p l e R2 s m ([.ref h0, .int a, .long x] : List Value).toArray below meth c H [] 0 0 Q (F0 m 48 ls []) := by
          intro f
          induction f with
          | zero => intro i ls h1 h2
                    exact absurd h2 (by omega)
          | succ f ih =>
            intro i ls hi hf2 hi1 hbe hl
            refine lv_iload_n hx hb dX1_write_48 rfl (lv_at hl 2 rfl) ?_
            refine lv_lload_n hx hb dX1_write_49 rfl (lv_at hl 3 rfl) ?_
            refine lv_iload hx hb dX1_write_50 (lv_at hl 0 rfl) ?_
            refine cc_si (av := [.int a, .long x, .int (nI i)]) (rest := []) ⟨hx, hb, hml, hown, hts⟩ (c_X1_isEnough l a x i (by omega)) (va_cwS 3 hts gX1_write_X1_isEnough rfl rfl rfl (by decide +kernel) ⟨Nat.le_of_ble_eq_true rfl, Nat.le_of_ble_eq_true rfl⟩) rfl hl.1 rfl (Nat.le_of_ble_eq_true rfl) dX1_write_52 ⟨Nat.zero_le _, Nat.zero_le _⟩ (fun r hr => ?_)
            refine lv_if_ne (tgt := 64) hx hb dX1_write_55 (by decide) (fun c_15 => ?_) (fun c_15 => ?_)
            · have hne : gg_need a x = i := by
                rcases Nat.lt_or_ge i (gg_most a) with q | q
                · exact gg_need_hit hi1 q hbe ((hr.mp c_15).resolve_left (by omega))
                · have e : i = gg_most a := by omega
                  rw [e]
                  exact gg_need_top (fun j h1 h2 => hbe j h1 (by omega))
              rw [← hne] at hl
              exact k64 ls hl
            · have hnot : ¬ (63 < 7 * i ∨ gg_fit a x i = true) := fun q => hr.mpr q c_15
              have hlt : i < gg_most a := by
                rcases Nat.lt_or_ge i (gg_most a) with q | q
                · exact q
                · have e : i = gg_most a := by omega
                  exfalso
                  rcases hok with h | h | h
                  · have e5 : gg_most a = 5 := by rw [h]; rfl
                    exact hnot (Or.inr (by rw [e, e5]; exact gg_fit_top (Or.inl h) hnum))
                  · have e5 : gg_most a = 5 := by rw [h]; rfl
                    exact hnot (Or.inr (by rw [e, e5]; exact gg_fit_top (Or.inr h) hnum))
                  · have e5 : gg_most a = 10 := by rw [h]; rfl
                    exact hnot (Or.inl (by omega))
              refine lv_iinc (v := nI (i + 1)) (lv' := [(4, .int (nI (i + 1))), (0, .ref h0), (1, .int a), (2, .long x)]) hx hb dX1_write_58 hl (k := 0) rfl (show nI i + 1 = nI (i + 1) from nI_1 i) (by decide) rfl (fun ls hl => ?_)
              refine lv_goto (tgt := 48) hx hb dX1_write_61 (by decide) ?_
              exact ih (i + 1) ls (by omega) (by omega) (by omega) (fun j h1 h2 => by
                rcases Nat.lt_or_ge j i with q | q
                · exact hbe j h1 q
                · have e : j = i := by omega
                  rw [e]
                  exact Bool.eq_false_iff.mpr (fun q => hnot (Or.inr q))) (lv_sub hl [0, 1, 2, 3] rfl)
        exact loop1 (gg_most a) 1 ls (by omega) (by omega) (by omega) (fun j h1 h2 => absurd h2 (by omega)) hl
      have k30 : (a = 0 → 0 ≤ x ∧ x ≤ 4294967295) → W p l e R2 s m ([.ref h0, .int a, .long x] : List Value).toArray below meth c H [] 0 0 Q (F0 m 30 ls []) := by
        intro hu
        refine lv_iload_n hx hb dX1_write_30 rfl (lv_at hl 1 rfl) ?_
        refine lv_iconst (v := 1) hx hb dX1_write_31 (by decide) ?_
        refine lv_icmp_ne (tgt := 45) hx hb dX1_write_32 (by decide) (fun c_16 => ?_) (fun c_16 => ?_)
        · exact k45 ⟨hu, fun q => absurd q c_16⟩
        · refine lv_lload_n hx hb dX1_write_35 rfl (lv_at hl 2 rfl) ?_
          refine lv_lload_n hx hb dX1_write_36 rfl (lv_at hl 2 rfl) ?_
          refine lv_l2i hx hb dX1_write_37 rfl ?_
          refine lv_i2l hx hb dX1_write_38 rfl ?_
          refine W.lcmp hx hb dX1_write_39 ?_
          refine lv_if_eq (tgt := 45) hx hb dX1_write_40 (by decide) (fun c_17 => ?_) (fun c_17 => ?_)
          · exact k45 ⟨hu, fun _ => (gg_int x).mp ((lg_cmp_eq _ _).mp c_17)⟩
          · have hf : gg_write a x k z = (-1, k, z) := by unfold gg_write; rw [if_pos hok, if_neg (fun q => c_17 ((lg_cmp_eq _ _).mpr ((gg_int x).mpr (q.2 c_16))))]
            refine lv_iconst (v := (-1)) hx hb dX1_write_43 (by decide) ?_
            exact fin H _ ls _ (-1) (g, o, nI n, nI k, v) dX1_write_44 (by rw [hf]; exact ⟨rfl, hI, hO, rfl, rfl, rfl⟩) hP hD hS
      refine lv_iload_n hx hb dX1_write_12 rfl (lv_at hl 1 rfl) ?_
      refine lv_if_ne (tgt := 30) hx hb dX1_write_13 (by decide) (fun c_18 => ?_) (fun c_18 => ?_)
      · exact k30 (fun q => absurd q c_18)
      · refine lv_lload_n hx hb dX1_write_16 rfl (lv_at hl 2 rfl) ?_
        refine lv_lconst (v := 0) hx hb dX1_write_17 (by decide) ?_
        refine W.lcmp hx hb dX1_write_18 ?_
        refine lv_if_lt (tgt := 43) hx hb dX1_write_19 (by decide) (fun c_19 => ?_) (fun c_19 => ?_)
        · have hf : gg_write a x k z = (-1, k, z) := by unfold gg_write; rw [if_pos hok, if_neg (fun q => absurd (q.1 c_18).1 (Int64.not_le.mpr ((lg_cmp_lt _ _).mp c_19)))]
          refine lv_iconst (v := (-1)) hx hb dX1_write_43 (by decide) ?_
          exact fin H _ ls _ (-1) (g, o, nI n, nI k, v) dX1_write_44 (by rw [hf]; exact ⟨rfl, hI, hO, rfl, rfl, rfl⟩) hP hD hS
        · have hx0 : 0 ≤ x := Int64.not_lt.mp (fun q => c_19 ((lg_cmp_lt _ _).mpr q))
          refine lv_lload_n hx hb dX1_write_22 rfl (lv_at hl 2 rfl) ?_
          refine lv_ldc2 hx hb hown (hts (.constantLong RX1 30 4294967295) (by decide +kernel)) dX1_write_23 ?_
          refine W.lcmp hx hb dX1_write_26 ?_
          refine lv_if_gt (tgt := 43) hx hb dX1_write_27 (by decide) (fun c_20 => ?_) (fun c_20 => ?_)
          · have hf : gg_write a x k z = (-1, k, z) := by unfold gg_write; rw [if_pos hok, if_neg (fun q => absurd (q.1 c_18).2 (Int64.not_le.mpr ((lg_cmp_gt _ _).mp c_20)))]
            refine lv_iconst (v := (-1)) hx hb dX1_write_43 (by decide) ?_
            exact fin H _ ls _ (-1) (g, o, nI n, nI k, v) dX1_write_44 (by rw [hf]; exact ⟨rfl, hI, hO, rfl, rfl, rfl⟩) hP hD hS
          · exact k30 (fun _ => ⟨hx0, Int64.not_lt.mp (fun q => c_20 ((lg_cmp_gt _ _).mpr q))⟩)
    · have hf : gg_write a x k z = (-2, k, z) := by unfold gg_write; rw [if_neg (fun q => gg_ok_hi q (Int32.not_le.mp c_2))]
      refine lv_bipush (v := (-2)) hx hb dX1_write_9 (by decide) ?_
      exact fin H _ ls _ (-2) (g, o, nI n, nI k, v) dX1_write_11 (by rw [hf]; exact ⟨rfl, hI, hO, rfl, rfl, rfl⟩) hP hD hS
