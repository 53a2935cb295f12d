/-! read and write of the reference -/

set_option maxHeartbeats 4000000 in
set_option maxRecDepth 100000 in
theorem c_X1_read (l : Launch) (dC : Nat → ClassId) (dI : Nat → Nat → Nat) (h0 ar ao : Nat) (cA cB : ClassId) (sz : Nat) (g o : Nat → Int32) (n k : Nat) (v : Int64) (t z : Nat → Nat) (a x : Int32) (hI : sb_Lat t n g) (hO : sb_Lat z k o) (hn : n ≤ 1000) (hk : k ≤ 1000) : Met l yX1_read wsX1_read R2 (va_Pc [.ref h0, .int a, .int x] (Pw (dC, dI) vwCl (ty1 cA cB) sz (w1 h0 ar ao cA cB g o (nI n) (nI k) v))) (va_Qi (fun r u => r = (gg_read a x t n v).1 ∧ gs_is sb_Lat t n z k (gg_read a x t n v).2 u) (Bw (S := gS) (dC, dI) vwCl (ty1 cA cB) sz (w1 h0 ar ao cA cB g o (nI n) (nI k) v) (B1 h0 ar ao cA cB)) (va_A (w1 h0 ar ao cA cB g o (nI n) (nI k) v) sz)) 0 0 (va_A (w1 h0 ar ao cA cB g o (nI n) (nI k) v) sz) := by
  refine mm_i (cc := cX1_read) (maxL := 9) (by decide) rfl (Nat.le_of_ble_eq_true rfl) ?_
  intro p e s m below meth c Q A H ls hx hb hml hown hts hK hP hD hS hA hl fin
  have hown : s.vm.findClass RX1 = some m.cls := hown
  have hin : ∀ w ∈ wsX10, w ∈ wsX1_read := by decide +kernel
  have hl : lv_has ls 9 [(0, .ref h0), (1, .int a), (2, .int x)] := hl
  have hP : va_P (dC, dI) vwCl (w1 h0 ar ao cA cB g o (nI n) (nI k) v) H := hP
  have hD : va_D A (w1 h0 ar ao cA cB g o (nI n) (nI k) v) := hD
  refine lv_iload_n hx hb dX1_read_0 rfl (lv_at hl 1 rfl) ?_
  refine lv_if_lt (tgt := 21) hx hb dX1_read_1 (by decide) (fun c_1 => ?_) (fun c_1 => ?_)
  · have hf : gg_read a x t n v = (-2, v) := by unfold gg_read; rw [if_neg (fun q => gg_ok_lo q.1 c_1)]
    refine lv_bipush (v := (-2)) hx hb dX1_read_21 (by decide) ?_
    exact fin H _ ls _ (-2) (g, o, nI n, nI k, v) dX1_read_23 (by rw [hf]; exact ⟨rfl, hI, hO, rfl, rfl, rfl⟩) hP hD hS
  · refine lv_iload_n hx hb dX1_read_4 rfl (lv_at hl 1 rfl) ?_
    refine lv_iconst (v := 2) hx hb dX1_read_5 (by decide) ?_
    refine lv_icmp_gt (tgt := 21) hx hb dX1_read_6 (by decide) (fun c_2 => ?_) (fun c_2 => ?_)
    · have hf : gg_read a x t n v = (-2, v) := by unfold gg_read; rw [if_neg (fun q => gg_ok_hi q.1 c_2)]
      refine lv_bipush (v := (-2)) hx hb dX1_read_21 (by decide) ?_
      exact fin H _ ls _ (-2) (g, o, nI n, nI k, v) dX1_read_23 (by rw [hf]; exact ⟨rfl, hI, hO, rfl, rfl, rfl⟩) hP hD hS
    · refine lv_iload_n hx hb dX1_read_9 rfl (lv_at hl 2 rfl) ?_
      refine lv_if_lt (tgt := 21) hx hb dX1_read_10 (by decide) (fun c_3 => ?_) (fun c_3 => ?_)
      · have hf : gg_read a x t n v = (-2, v) := by unfold gg_read; rw [if_neg (fun q => q.2.1 c_3)]
        refine lv_bipush (v := (-2)) hx hb dX1_read_21 (by decide) ?_
        exact fin H _ ls _ (-2) (g, o, nI n, nI k, v) dX1_read_23 (by rw [hf]; exact ⟨rfl, hI, hO, rfl, rfl, rfl⟩) hP hD hS
      · refine lv_iload_n hx hb dX1_read_13 rfl (lv_at hl 2 rfl) ?_
        refine lv_aload_n hx hb dX1_read_14 rfl (lv_at hl 0 rfl) ?_
        refine va_get (D := (dC, dI)) (ci := 1) (v := .int (nI n)) (C := RX1) (T := TX1) (N := 5) hx hb hts hin hown hK hP 0 rfl rfl 2 (by decide) (hts (.fieldLink RX1 16 "GroupedNumbersModel" "rows" "I") (by decide +kernel)) (fun _ h9 => h9) rfl dX1_read_15 ?_
        refine lv_icmp_le (tgt := 24) hx hb dX1_read_18 (by decide) (fun c_4 => ?_) (fun c_4 => ?_)
        · have hok : gg_ok a := gg_ok_iff c_1 c_2
          have hf0 : gg_read a x t n v = gg_rd a t x.toNatClampNeg (gg_cnt t x.toNatClampNeg (min (gg_most a) (n - x.toNatClampNeg))) v := by unfold gg_read; rw [if_pos ⟨hok, c_3, c_4⟩]
          obtain ⟨j, hj31, rfl⟩ := nI_of c_3
          have hj : j ≤ n := (nI_leI (by omega) (by omega)).mp c_4
          rw [nI_clamp hj31] at hf0
          have hmb := gg_most_bd a
          have k35 : W p l e R2 s m ([.ref h0, .int a, .int (nI j)] : List Value).toArray below meth c H [] 0 0 Q (F0 m 35 ls [.int (nI (gg_most a))]) := by
            refine lv_istore_n (lv' := [(3, .int (nI (gg_most a))), (0, .ref h0), (1, .int a), (2, .int (nI j))]) hx hb dX1_read_35 rfl hl (by decide) rfl (fun ls hl => ?_)
            refine lv_iconst (v := nI 0) hx hb dX1_read_36 (by decide) ?_
            refine lv_istore (lv' := [(4, .int (nI 0)), (3, .int (nI (gg_most a))), (0, .ref h0), (1, .int a), (2, .int (nI j))]) hx hb dX1_read_37 hl (by decide) rfl (fun ls hl => ?_)
            have k74 : ∀ (i : Nat) (ls : Array Slot), i ≤ gg_most a → j + i ≤ n → (∀ q, q < i → 128 ≤ t (j + q)) → (i = gg_most a ∨ n ≤ j + i ∨ t (j + i) < 128) → lv_has ls 9 [(4, .int (nI i)), (3, .int (nI (gg_most a))), (0, .ref h0), (1, .int a), (2, .int (nI j))] → W p l e R2 s m ([.ref h0, .int a, .int (nI j)] : List Value).toArray below meth c H [] 0 0 Q (F0 m 74 ls []) := by
              intro i ls hi1 hi2 hbe hend hl
              refine lv_iload hx hb dX1_read_74 (lv_at hl 0 rfl) ?_
              refine lv_iload_n hx hb dX1_read_76 rfl (lv_at hl 1 rfl) ?_
              refine lv_icmp_eq (tgt := 91) hx hb dX1_read_77 (by decide) (fun c_5 => ?_) (fun c_5 => ?_)
              · have hge : i = gg_most a := (nI_eq (by omega) (by omega)).mp c_5
                have hC : gg_cnt t j (min (gg_most a) (n - j)) = 0 := gg_cnt_none (fun q hq => hbe q (by omega))
                have hf : gg_read a (nI j) t n v = (-1, v) := by rw [hf0, hC]; rfl
                refine lv_iconst (v := (-1)) hx hb dX1_read_91 (by decide) ?_
                exact fin H _ ls _ (-1) (g, o, nI n, nI k, v) dX1_read_92 (by rw [hf]; exact ⟨rfl, hI, hO, rfl, rfl, rfl⟩) hP hD hS
              · have dc_5 : ¬ i = gg_most a := fun q => c_5 (by rw [q])
                refine lv_iload_n hx hb dX1_read_80 rfl (lv_at hl 4 rfl) ?_
                refine lv_iload hx hb dX1_read_81 (lv_at hl 0 rfl) ?_
                refine lv_iadd hx hb dX1_read_83 ?_
                refine lv_topi (fun z_6 ez_6 => ?_)
                have ez_6 : z_6 = nI (j + i) := by rw [ez_6]; exact nI_add j i
                subst ez_6
                refine lv_aload_n hx hb dX1_read_84 rfl (lv_at hl 2 rfl) ?_
                refine va_get (D := (dC, dI)) (ci := 1) (v := .int (nI n)) (C := RX1) (T := TX1) (N := 5) hx hb hts hin hown hK hP 0 rfl rfl 2 (by decide) (hts (.fieldLink RX1 16 "GroupedNumbersModel" "rows" "I") (by decide +kernel)) (fun _ h9 => h9) rfl dX1_read_85 ?_
                refine lv_icmp_lt (tgt := 93) hx hb dX1_read_88 (by decide) (fun c_7 => ?_) (fun c_7 => ?_)
                · have hlt : j + i < n := (nI_ltI (by omega) (by omega)).mp c_7
                  have hlast : t (j + i) < 128 := by omega
                  have hC : gg_cnt t j (min (gg_most a) (n - j)) = i + 1 := gg_cnt_hit hbe hlast (by omega)
                  rw [hC] at hf0
                  refine lv_iinc (v := nI (i + 1)) (lv' := [(4, .int (nI (i + 1))), (3, .int (nI (gg_most a))), (0, .ref h0), (1, .int a), (2, .int (nI j))]) hx hb dX1_read_93 hl (k := 0) rfl (show nI i + 1 = nI (i + 1) from nI_1 i) (by decide) rfl (fun ls hl => ?_)
                  refine lv_aload_n hx hb dX1_read_96 rfl (lv_at hl 2 rfl) ?_
                  refine va_get (D := (dC, dI)) (ci := 1) (v := .ref ar) (C := RX1) (T := TX1) (N := 5) hx hb hts hin hown hK hP 0 rfl rfl 0 (by decide) (hts (.fieldLink RX1 9 "GroupedNumbersModel" "row" "[B") (by decide +kernel)) (fun _ h9 => h9) rfl dX1_read_97 ?_
                  refine lv_iload_n hx hb dX1_read_100 rfl (lv_at hl 4 rfl) ?_
                  refine lv_iload hx hb dX1_read_101 (lv_at hl 0 rfl) ?_
                  refine lv_iadd hx hb dX1_read_103 ?_
                  refine lv_topi (fun z_8 ez_8 => ?_)
                  have ez_8 : z_8 = nI (j + (i + 1)) := by rw [ez_8]; exact nI_add j (i + 1)
                  subst ez_8
                  refine lv_iconst (v := nI 1) hx hb dX1_read_104 (by decide) ?_
                  refine lv_isub hx hb dX1_read_105 ?_
                  refine lv_topi (fun z_9 ez_9 => ?_)
                  have ez_9 : z_9 = nI (j + i) := by rw [ez_9]; exact pk_sub (a := j + (i + 1)) (b := 1) (by omega)
                  subst ez_9
                  refine va_bald hx hb hK hP 1 0 rfl rfl (vp_in_nI (show j + i < 1000 by omega) (by decide)) dX1_read_106 ?_
                  refine lv_topi (fun z_10 ez_10 => ?_)
                  have ez_10 : z_10 = nI (t (j + i)) := by rw [ez_10]; rw [nI_clamp (by omega), (hI (j + i) (by omega)).2]; exact gg_b_low _ hlast
                  subst ez_10
                  refine lv_istore (lv' := [(5, .int (nI (t (j + i)))), (4, .int (nI (i + 1))), (3, .int (nI (gg_most a))), (0, .ref h0), (1, .int a), (2, .int (nI j))]) hx hb dX1_read_107 hl (by decide) rfl (fun ls hl => ?_)
                  have k180 : ¬ (i + 1 = gg_most a ∧ gg_bad a (t (j + i))) → W p l e R2 s m ([.ref h0, .int a, .int (nI j)] : List Value).toArray below meth c H [] 0 0 Q (F0 m 180 ls []) := by
                    intro hnb
                    have hf : gg_read a (nI j) t n v = (nI (i + 1), lN (gg_val a t j (i + 1))) := by rw [hf0]; unfold gg_rd; rw [if_neg (by omega), show i + 1 - 1 = i from rfl, if_neg hnb]
                    obtain ⟨N0, hN0⟩ : ∃ N0, N0 = (if ¬ a = 0 ∧ 64 ≤ t (j + i) then 18446744073709551615 else 0) := ⟨_, rfl⟩
                    have hT : N0 * 2 ^ (7 * (i + 1)) + gg_join t j (i + 1) = gg_val a t j (i + 1) := by
                      unfold gg_val
                      rw [hN0, show i + 1 - 1 = i from rfl]
                      split <;> omega
                    have k198 : W p l e R2 s m ([.ref h0, .int a, .int (nI j)] : List Value).toArray below meth c H [] 0 0 Q (F0 m 198 ls [.long (lN N0)]) := by
                      refine lv_lstore (lv' := [(6, .long (lN N0)), (5, .int (nI (t (j + i)))), (4, .int (nI (i + 1))), (3, .int (nI (gg_most a))), (0, .ref h0), (1, .int a), (2, .int (nI j))]) hx hb dX1_read_198 hl (by decide) rfl (fun ls hl => ?_)
                      refine lv_iload hx hb dX1_read_200 (lv_at hl 2 rfl) ?_
                      refine lv_iconst (v := nI 1) hx hb dX1_read_202 (by decide) ?_
                      refine lv_isub hx hb dX1_read_203 ?_
                      refine lv_topi (fun z_11 ez_11 => ?_)
                      have ez_11 : z_11 = (nI (i + 1) - 1) := by rw [ez_11]; rfl
                      subst ez_11
                      refine lv_istore (lv' := [(8, .int (nI (i + 1) - 1)), (6, .long (lN N0)), (5, .int (nI (t (j + i)))), (4, .int (nI (i + 1))), (3, .int (nI (gg_most a))), (0, .ref h0), (1, .int a), (2, .int (nI j))]) hx hb dX1_read_204 hl (by decide) rfl (fun ls hl => ?_)
                      have loop2 : ∀ (f q V : Nat) (ls : Array Slot), q ≤ i + 1 → q + 1 ≤ f → V * 2 ^ (7 * q) + gg_join t j q = gg_val a t j (i + 1) → lv_has ls 9 [(8, .int (nI q - 1)), (6, .long (lN V)), (4, .int (nI (i + 1))), (5, .int (nI (t (j + i)))), (3, .int (nI (gg_most a))), (0, .ref h0), (1, .int a), (2, .int (nI j))] → W p l e R2 s m ([.ref h0, .int a, .int (nI j)] : List Value).toArray below meth c H [] 0 0 Q (F0 m 206 ls []) := by
                        intro f
                        induction f with
                        | zero => intro q V ls h1 h2
                                  exact absurd h2 (by omega)
                        | succ f ih =>
                          intro q V ls hq hf2 hT2 hl
                          refine lv_iload hx hb dX1_read_206 (lv_at hl 0 rfl) ?_
                          refine lv_if_lt (tgt := 238) hx hb dX1_read_208 (by decide) (fun c_12 => ?_) (fun c_12 => ?_)
                          · have hq0 : q = 0 := by
                              rcases Nat.eq_zero_or_pos q with h | h
                              · exact h
                              · obtain ⟨b, rfl⟩ : ∃ b, q = b + 1 := ⟨q - 1, by omega⟩
                                rw [nI_pred] at c_12
                                exact absurd c_12 (nI_pos (by omega))
                            subst hq0
                            have hV : V = gg_val a t j (i + 1) := by
                              rw [← hT2]
                              show V = V * 1 + 0
                              omega
                            subst hV
                            refine lv_aload_n hx hb dX1_read_238 rfl (lv_at hl 5 rfl) ?_
                            refine lv_iload_n hx hb dX1_read_239 rfl (lv_at hl 6 rfl) ?_
                            refine lv_iconst (v := 1) hx hb dX1_read_240 (by decide) ?_
                            refine lv_icmp_ne (tgt := 251) hx hb dX1_read_241 (by decide) (fun c_13 => ?_) (fun c_13 => ?_)
                            · refine lv_lload hx hb dX1_read_251 (lv_at hl 1 rfl) ?_
                              refine va_put (D := (dC, dI)) (ci := 1) (v := .long (lN (gg_val a t j (i + 1)))) (ty := .long) (C := RX1) (T := TX1) (N := 5) hx hb hts hin tyX1 tyX1_ok nmX1 hown hK hP hD hS 0 rfl rfl 4 (by decide) (hts (.fieldLink RX1 26 "GroupedNumbersModel" "value" "J") (by decide +kernel)) (fun _ h9 => h9) rfl (by decide +kernel) rfl rfl (Nat.le_of_ble_eq_true rfl) dX1_read_253 (fun H locs hP hD hS => ?_)
                              have hP : va_P (dC, dI) vwCl (w1 h0 ar ao cA cB g o (nI n) (nI k) (lN (gg_val a t j (i + 1)))) H := hP
                              have hD : va_D A (w1 h0 ar ao cA cB g o (nI n) (nI k) (lN (gg_val a t j (i + 1)))) := hD
                              refine lv_iload hx hb dX1_read_256 (lv_at hl 2 rfl) ?_
                              exact fin H _ ls _ (nI (i + 1)) (g, o, nI n, nI k, lN (gg_val a t j (i + 1))) dX1_read_258 (by rw [hf]; exact ⟨rfl, hI, hO, rfl, rfl, rfl⟩) hP hD hS
                            · refine lv_lload hx hb dX1_read_244 (lv_at hl 1 rfl) ?_
                              refine lv_l2i hx hb dX1_read_246 rfl ?_
                              refine lv_i2l hx hb dX1_read_247 rfl ?_
                              refine lv_topl (fun z_14 ez_14 => ?_)
                              have ez_14 : z_14 = lN (gg_val a t j (i + 1)) := by rw [ez_14]; rw [c_13]; exact gg_val_S (by omega) (by have h5 : gg_most a = 5 := (by rw [c_13]; rfl); omega) hlast (fun h q => hnb ⟨by rw [c_13]; exact h, by rw [c_13]; exact q⟩)
                              subst ez_14
                              refine lv_goto (tgt := 253) hx hb dX1_read_248 (by decide) ?_
                              refine va_put (D := (dC, dI)) (ci := 1) (v := .long (lN (gg_val a t j (i + 1)))) (ty := .long) (C := RX1) (T := TX1) (N := 5) hx hb hts hin tyX1 tyX1_ok nmX1 hown hK hP hD hS 0 rfl rfl 4 (by decide) (hts (.fieldLink RX1 26 "GroupedNumbersModel" "value" "J") (by decide +kernel)) (fun _ h9 => h9) rfl (by decide +kernel) rfl rfl (Nat.le_of_ble_eq_true rfl) dX1_read_253 (fun H locs hP hD hS => ?_)
                              have hP : va_P (dC, dI) vwCl (w1 h0 ar ao cA cB g o (nI n) (nI k) (lN (gg_val a t j (i + 1)))) H := hP
                              have hD : va_D A (w1 h0 ar ao cA cB g o (nI n) (nI k) (lN (gg_val a t j (i + 1)))) := hD
                              refine lv_iload hx hb dX1_read_256 (lv_at hl 2 rfl) ?_
                              exact fin H _ ls _ (nI (i + 1)) (g, o, nI n, nI k, lN (gg_val a t j (i + 1))) dX1_read_258 (by rw [hf]; exact ⟨rfl, hI, hO, rfl, rfl, rfl⟩) hP hD hS
                          · obtain ⟨b, rfl⟩ : ∃ b, q = b + 1 := by
                              rcases Nat.eq_zero_or_pos q with h | h
                              · subst h
                                exact absurd (by decide) c_12
                              · exact ⟨q - 1, by omega⟩
                            rw [nI_pred] at hl
                            refine lv_lload hx hb dX1_read_211 (lv_at hl 1 rfl) ?_
                            refine lv_bipush (v := 7) hx hb dX1_read_213 (by decide) ?_
                            refine lv_lshl hx hb dX1_read_215 rfl ?_
                            refine lv_aload_n hx hb dX1_read_216 rfl (lv_at hl 5 rfl) ?_
                            refine va_get (D := (dC, dI)) (ci := 1) (v := .ref ar) (C := RX1) (T := TX1) (N := 5) hx hb hts hin hown hK hP 0 rfl rfl 0 (by decide) (hts (.fieldLink RX1 9 "GroupedNumbersModel" "row" "[B") (by decide +kernel)) (fun _ h9 => h9) rfl dX1_read_217 ?_
                            refine lv_iload_n hx hb dX1_read_220 rfl (lv_at hl 7 rfl) ?_
                            refine lv_iload hx hb dX1_read_221 (lv_at hl 0 rfl) ?_
                            refine lv_iadd hx hb dX1_read_223 ?_
                            refine lv_topi (fun z_15 ez_15 => ?_)
                            have ez_15 : z_15 = nI (j + b) := by rw [ez_15]; exact nI_add j b
                            subst ez_15
                            refine va_bald hx hb hK hP 1 0 rfl rfl (vp_in_nI (show j + b < 1000 by omega) (by decide)) dX1_read_224 ?_
                            refine lv_topi (fun z_16 ez_16 => ?_)
                            have ez_16 : z_16 = sb_b (t (j + b)) := by rw [ez_16]; rw [nI_clamp (by omega)]; exact (hI (j + b) (by omega)).2
                            subst ez_16
                            refine lv_bipush (v := 127) hx hb dX1_read_225 (by decide) ?_
                            refine lv_iand hx hb dX1_read_227 ?_
                            refine lv_topi (fun z_17 ez_17 => ?_)
                            have ez_17 : z_17 = nI (t (j + b) % 128) := by rw [ez_17]; exact gg_b_127 _ (hI (j + b) (by omega)).1
                            subst ez_17
                            refine lv_i2l hx hb dX1_read_228 rfl ?_
                            refine lv_lor hx hb dX1_read_229 ?_
                            refine lv_topl (fun z_18 ez_18 => ?_)
                            have ez_18 : z_18 = lN (t (j + b) % 128 + V * 128) := by rw [ez_18]; exact gg_down (Nat.mod_lt _ (by decide))
                            subst ez_18
                            refine lv_lstore (lv' := [(6, .long (lN (t (j + b) % 128 + V * 128))), (8, .int (nI b)), (4, .int (nI (i + 1))), (5, .int (nI (t (j + i)))), (3, .int (nI (gg_most a))), (0, .ref h0), (1, .int a), (2, .int (nI j))]) hx hb dX1_read_230 hl (by decide) rfl (fun ls hl => ?_)
                            refine lv_iinc (v := nI b - 1) (lv' := [(8, .int (nI b - 1)), (6, .long (lN (t (j + b) % 128 + V * 128))), (4, .int (nI (i + 1))), (5, .int (nI (t (j + i)))), (3, .int (nI (gg_most a))), (0, .ref h0), (1, .int a), (2, .int (nI j))]) hx hb dX1_read_232 hl (k := 1) rfl (show nI b + (-1) = nI b - 1 from (Int32.sub_eq_add_neg _ _).symm) (by decide) rfl (fun ls hl => ?_)
                            refine lv_goto (tgt := 206) hx hb dX1_read_235 (by decide) ?_
                            exact ih b _ ls (by omega) (by omega) (gg_down_inv hT2) (lv_sub hl [0, 1, 2, 3, 4, 5, 6, 7] rfl)
                      exact loop2 (i + 2) (i + 1) N0 ls (by omega) (by omega) hT (lv_sub hl [0, 1, 3, 2, 4, 5, 6, 7] rfl)
                    refine lv_iload_n hx hb dX1_read_180 rfl (lv_at hl 4 rfl) ?_
                    refine lv_if_le (tgt := 197) hx hb dX1_read_181 (by decide) (fun c_19 => ?_) (fun c_19 => ?_)
                    · have ha0 : a = 0 := by
                        rcases hok with h | h | h
                        · exact h
                        · rw [h] at c_19
                          exact absurd c_19 (by decide)
                        · rw [h] at c_19
                          exact absurd c_19 (by decide)
                      refine lv_lconst (v := lN N0) hx hb dX1_read_197 (by rw [hN0, if_neg (fun q => q.1 ha0)]; rfl) ?_
                      exact k198
                    · have ha0 : ¬ a = 0 := fun q => c_19 (by rw [q]; decide)
                      refine lv_iload hx hb dX1_read_184 (lv_at hl 0 rfl) ?_
                      refine lv_bipush (v := nI 63) hx hb dX1_read_186 (by decide) ?_
                      refine lv_icmp_le (tgt := 197) hx hb dX1_read_188 (by decide) (fun c_20 => ?_) (fun c_20 => ?_)
                      · have h64 : ¬ 64 ≤ t (j + i) := by
                          have q := (nI_leI (by omega) (by decide)).mp c_20
                          omega
                        refine lv_lconst (v := lN N0) hx hb dX1_read_197 (by rw [hN0, if_neg (fun q => h64 q.2)]; rfl) ?_
                        exact k198
                      · have h64 : 64 ≤ t (j + i) := by
                          have q : ¬ t (j + i) ≤ 63 := fun q => c_20 ((nI_leI (by omega) (by decide)).mpr q)
                          omega
                        refine lv_ldc2 hx hb hown (hts (.constantLong RX1 24 (-1)) (by decide +kernel)) dX1_read_191 ?_
                        refine lv_topl (fun z_21 ez_21 => ?_)
                        have ez_21 : z_21 = lN N0 := by rw [ez_21]; rw [hN0, if_pos ⟨ha0, h64⟩]; exact gg_m1
                        subst ez_21
                        refine lv_goto (tgt := 198) hx hb dX1_read_194 (by decide) ?_
                        exact k198
                  have k155 : ¬ (i + 1 = gg_most a ∧ a = 0 ∧ 15 < t (j + i)) → ¬ (i + 1 = gg_most a ∧ a = 1 ∧ 7 < t (j + i) ∧ t (j + i) < 120) → W p l e R2 s m ([.ref h0, .int a, .int (nI j)] : List Value).toArray below meth c H [] 0 0 Q (F0 m 155 ls []) := by
                    intro h0a h1a
                    refine lv_iload hx hb dX1_read_155 (lv_at hl 1 rfl) ?_
                    refine lv_iload_n hx hb dX1_read_157 rfl (lv_at hl 2 rfl) ?_
                    refine lv_icmp_ne (tgt := 180) hx hb dX1_read_158 (by decide) (fun c_22 => ?_) (fun c_22 => ?_)
                    · exact k180 (fun h => c_22 (by rw [h.1]))
                    · have hcm : i + 1 = gg_most a := (nI_eq (by omega) (by omega)).mp c_22
                      refine lv_iload_n hx hb dX1_read_161 rfl (lv_at hl 4 rfl) ?_
                      refine lv_iconst (v := 2) hx hb dX1_read_162 (by decide) ?_
                      refine lv_icmp_ne (tgt := 180) hx hb dX1_read_163 (by decide) (fun c_23 => ?_) (fun c_23 => ?_)
                      · exact k180 (fun h => by
                          rcases h.2 with q | q | q
                          · exact h0a ⟨h.1, q.1, q.2⟩
                          · exact h1a ⟨h.1, q.1, q.2⟩
                          · exact c_23 q.1)
                      · refine lv_iload hx hb dX1_read_166 (lv_at hl 0 rfl) ?_
                        refine lv_if_le (tgt := 180) hx hb dX1_read_168 (by decide) (fun c_24 => ?_) (fun c_24 => ?_)
                        · have hp : t (j + i) ≤ 0 := (nI_leI (b := 0) (by omega) (by decide)).mp c_24
                          exact k180 (fun h => by
                            rcases h.2 with q | q | q
                            · exact h0a ⟨h.1, q.1, q.2⟩
                            · exact h1a ⟨h.1, q.1, q.2⟩
                            · omega)
                        · have hp : 0 < t (j + i) := Nat.pos_of_ne_zero (fun h => c_24 (by rw [h]; decide))
                          refine lv_iload hx hb dX1_read_171 (lv_at hl 0 rfl) ?_
                          refine lv_bipush (v := nI 127) hx hb dX1_read_173 (by decide) ?_
                          refine lv_icmp_ge (tgt := 180) hx hb dX1_read_175 (by decide) (fun c_25 => ?_) (fun c_25 => ?_)
                          · have hp2 : 127 ≤ t (j + i) := (nI_leI (by decide) (by omega)).mp c_25
                            exact k180 (fun h => by
                              rcases h.2 with q | q | q
                              · exact h0a ⟨h.1, q.1, q.2⟩
                              · exact h1a ⟨h.1, q.1, q.2⟩
                              · omega)
                          · have hp2 : ¬ 127 ≤ t (j + i) := fun h => c_25 ((nI_leI (by decide) (by omega)).mpr h)
                            have hf : gg_read a (nI j) t n v = (-1, v) := by rw [hf0]; unfold gg_rd; rw [if_neg (by omega), show i + 1 - 1 = i from rfl, if_pos ⟨hcm, Or.inr (Or.inr ⟨c_23, hp, by omega⟩)⟩]
                            refine lv_iconst (v := (-1)) hx hb dX1_read_178 (by decide) ?_
                            exact fin H _ ls _ (-1) (g, o, nI n, nI k, v) dX1_read_179 (by rw [hf]; exact ⟨rfl, hI, hO, rfl, rfl, rfl⟩) hP hD hS
                  have k128 : ¬ (i + 1 = gg_most a ∧ a = 0 ∧ 15 < t (j + i)) → W p l e R2 s m ([.ref h0, .int a, .int (nI j)] : List Value).toArray below meth c H [] 0 0 Q (F0 m 128 ls []) := by
                    intro h0a
                    refine lv_iload hx hb dX1_read_128 (lv_at hl 1 rfl) ?_
                    refine lv_iload_n hx hb dX1_read_130 rfl (lv_at hl 2 rfl) ?_
                    refine lv_icmp_ne (tgt := 155) hx hb dX1_read_131 (by decide) (fun c_26 => ?_) (fun c_26 => ?_)
                    · exact k155 h0a (fun h => c_26 (by rw [h.1]))
                    · have hcm : i + 1 = gg_most a := (nI_eq (by omega) (by omega)).mp c_26
                      refine lv_iload_n hx hb dX1_read_134 rfl (lv_at hl 4 rfl) ?_
                      refine lv_iconst (v := 1) hx hb dX1_read_135 (by decide) ?_
                      refine lv_icmp_ne (tgt := 155) hx hb dX1_read_136 (by decide) (fun c_27 => ?_) (fun c_27 => ?_)
                      · exact k155 h0a (fun h => c_27 h.2.1)
                      · refine lv_iload hx hb dX1_read_139 (lv_at hl 0 rfl) ?_
                        refine lv_bipush (v := nI 7) hx hb dX1_read_141 (by decide) ?_
                        refine lv_icmp_le (tgt := 155) hx hb dX1_read_143 (by decide) (fun c_28 => ?_) (fun c_28 => ?_)
                        · have hp : t (j + i) ≤ 7 := (nI_leI (by omega) (by decide)).mp c_28
                          exact k155 h0a (fun h => by omega)
                        · have hp : ¬ t (j + i) ≤ 7 := fun h => c_28 ((nI_leI (by omega) (by decide)).mpr h)
                          refine lv_iload hx hb dX1_read_146 (lv_at hl 0 rfl) ?_
                          refine lv_bipush (v := nI 120) hx hb dX1_read_148 (by decide) ?_
                          refine lv_icmp_ge (tgt := 155) hx hb dX1_read_150 (by decide) (fun c_29 => ?_) (fun c_29 => ?_)
                          · have hp2 : 120 ≤ t (j + i) := (nI_leI (by decide) (by omega)).mp c_29
                            exact k155 h0a (fun h => by omega)
                          · have hp2 : ¬ 120 ≤ t (j + i) := fun h => c_29 ((nI_leI (by decide) (by omega)).mpr h)
                            have hf : gg_read a (nI j) t n v = (-1, v) := by rw [hf0]; unfold gg_rd; rw [if_neg (by omega), show i + 1 - 1 = i from rfl, if_pos ⟨hcm, Or.inr (Or.inl ⟨c_27, by omega, by omega⟩)⟩]
                            refine lv_iconst (v := (-1)) hx hb dX1_read_153 (by decide) ?_
                            exact fin H _ ls _ (-1) (g, o, nI n, nI k, v) dX1_read_154 (by rw [hf]; exact ⟨rfl, hI, hO, rfl, rfl, rfl⟩) hP hD hS
                  refine lv_iload hx hb dX1_read_109 (lv_at hl 1 rfl) ?_
                  refine lv_iload_n hx hb dX1_read_111 rfl (lv_at hl 2 rfl) ?_
                  refine lv_icmp_ne (tgt := 128) hx hb dX1_read_112 (by decide) (fun c_30 => ?_) (fun c_30 => ?_)
                  · exact k128 (fun h => c_30 (by rw [h.1]))
                  · have hcm : i + 1 = gg_most a := (nI_eq (by omega) (by omega)).mp c_30
                    refine lv_iload_n hx hb dX1_read_115 rfl (lv_at hl 4 rfl) ?_
                    refine lv_if_ne (tgt := 128) hx hb dX1_read_116 (by decide) (fun c_31 => ?_) (fun c_31 => ?_)
                    · exact k128 (fun h => c_31 h.2.1)
                    · refine lv_iload hx hb dX1_read_119 (lv_at hl 0 rfl) ?_
                      refine lv_bipush (v := nI 15) hx hb dX1_read_121 (by decide) ?_
                      refine lv_icmp_le (tgt := 128) hx hb dX1_read_123 (by decide) (fun c_32 => ?_) (fun c_32 => ?_)
                      · have hp : t (j + i) ≤ 15 := (nI_leI (by omega) (by decide)).mp c_32
                        exact k128 (fun h => by omega)
                      · have hp : ¬ t (j + i) ≤ 15 := fun h => c_32 ((nI_leI (by omega) (by decide)).mpr h)
                        have hf : gg_read a (nI j) t n v = (-1, v) := by rw [hf0]; unfold gg_rd; rw [if_neg (by omega), show i + 1 - 1 = i from rfl, if_pos ⟨hcm, Or.inl ⟨c_31, by omega⟩⟩]
                        refine lv_iconst (v := (-1)) hx hb dX1_read_126 (by decide) ?_
                        exact fin H _ ls _ (-1) (g, o, nI n, nI k, v) dX1_read_127 (by rw [hf]; exact ⟨rfl, hI, hO, rfl, rfl, rfl⟩) hP hD hS
                · have hge : ¬ j + i < n := fun q => c_7 ((nI_ltI (by omega) (by omega)).mpr q)
                  have hC : gg_cnt t j (min (gg_most a) (n - j)) = 0 := gg_cnt_none (fun q hq => hbe q (by omega))
                  have hf : gg_read a (nI j) t n v = (-1, v) := by rw [hf0, hC]; rfl
                  refine lv_iconst (v := (-1)) hx hb dX1_read_91 (by decide) ?_
                  exact fin H _ ls _ (-1) (g, o, nI n, nI k, v) dX1_read_92 (by rw [hf]; exact ⟨rfl, hI, hO, rfl, rfl, rfl⟩) hP hD hS
            have loop1 : ∀ (f i : Nat) (ls : Array Slot), i ≤ gg_most a → gg_most a + 1 ≤ i + f → j + i ≤ n → (∀ q, q < i → 128 ≤ t (j + q)) → lv_has ls 9 [(4, .int (nI i)), (3, .int (nI (gg_most a))), (0, .ref h0), (1, .int a), (2, .int (nI j))] → W p l e R2 s m ([.ref h0, .int a, .int (nI j)] : List Value).toArray below meth c H [] 0 0 Q (F0 m 39 ls []) := by
              intro f
              induction f with
              | zero => intro i ls h1 h2
                        exact absurd h2 (by omega)
              | succ f ih =>
                intro i ls hi hf hjn hbe hl
                refine lv_iload hx hb dX1_read_39 (lv_at hl 0 rfl) ?_
                refine lv_iload_n hx hb dX1_read_41 rfl (lv_at hl 1 rfl) ?_
                refine lv_icmp_ge (tgt := 74) hx hb dX1_read_42 (by decide) (fun c_33 => ?_) (fun c_33 => ?_)
                · exact k74 i ls (by omega) (by omega) hbe (Or.inl (by
                    have q := (nI_leI (by omega) (by omega)).mp c_33
                    omega)) hl
                · have dc_33 : i < gg_most a := Nat.lt_of_not_le (fun q => c_33 ((nI_leI (by omega) (by omega)).mpr q))
                  refine lv_iload_n hx hb dX1_read_45 rfl (lv_at hl 4 rfl) ?_
                  refine lv_iload hx hb dX1_read_46 (lv_at hl 0 rfl) ?_
                  refine lv_iadd hx hb dX1_read_48 ?_
                  refine lv_topi (fun z_34 ez_34 => ?_)
                  have ez_34 : z_34 = nI (j + i) := by rw [ez_34]; exact nI_add j i
                  subst ez_34
                  refine lv_aload_n hx hb dX1_read_49 rfl (lv_at hl 2 rfl) ?_
                  refine va_get (D := (dC, dI)) (ci := 1) (v := .int (nI n)) (C := RX1) (T := TX1) (N := 5) hx hb hts hin hown hK hP 0 rfl rfl 2 (by decide) (hts (.fieldLink RX1 16 "GroupedNumbersModel" "rows" "I") (by decide +kernel)) (fun _ h9 => h9) rfl dX1_read_50 ?_
                  refine lv_icmp_ge (tgt := 74) hx hb dX1_read_53 (by decide) (fun c_35 => ?_) (fun c_35 => ?_)
                  · exact k74 i ls (by omega) (by omega) hbe (Or.inr (Or.inl ((nI_leI (by omega) (by omega)).mp c_35))) hl
                  · have dc_35 : j + i < n := Nat.lt_of_not_le (fun q => c_35 ((nI_leI (by omega) (by omega)).mpr q))
                    refine lv_aload_n hx hb dX1_read_56 rfl (lv_at hl 2 rfl) ?_
                    refine va_get (D := (dC, dI)) (ci := 1) (v := .ref ar) (C := RX1) (T := TX1) (N := 5) hx hb hts hin hown hK hP 0 rfl rfl 0 (by decide) (hts (.fieldLink RX1 9 "GroupedNumbersModel" "row" "[B") (by decide +kernel)) (fun _ h9 => h9) rfl dX1_read_57 ?_
                    refine lv_iload_n hx hb dX1_read_60 rfl (lv_at hl 4 rfl) ?_
                    refine lv_iload hx hb dX1_read_61 (lv_at hl 0 rfl) ?_
                    refine lv_iadd hx hb dX1_read_63 ?_
                    refine lv_topi (fun z_36 ez_36 => ?_)
                    have ez_36 : z_36 = nI (j + i) := by rw [ez_36]; exact nI_add j i
                    subst ez_36
                    refine va_bald hx hb hK hP 1 0 rfl rfl (vp_in_nI (show j + i < 1000 by omega) (by decide)) dX1_read_64 ?_
                    refine lv_topi (fun z_37 ez_37 => ?_)
                    have ez_37 : z_37 = sb_b (t (j + i)) := by rw [ez_37]; rw [nI_clamp (by omega)]; exact (hI (j + i) (by omega)).2
                    subst ez_37
                    have hneg := gg_b_neg (t (j + i)) (hI (j + i) (by omega)).1
                    refine lv_if_ge (tgt := 74) hx hb dX1_read_65 (by decide) (fun c_38 => ?_) (fun c_38 => ?_)
                    · exact k74 i ls (by omega) (by omega) hbe (Or.inr (Or.inr (Nat.lt_of_not_le (fun q => hneg.mpr q c_38)))) hl
                    · refine lv_iinc (v := nI (i + 1)) (lv' := [(4, .int (nI (i + 1))), (3, .int (nI (gg_most a))), (0, .ref h0), (1, .int a), (2, .int (nI j))]) hx hb dX1_read_68 hl (k := 0) rfl (show nI i + 1 = nI (i + 1) from nI_1 i) (by decide) rfl (fun ls hl => ?_)
                      refine lv_goto (tgt := 39) hx hb dX1_read_71 (by decide) ?_
                      exact ih (i + 1) ls (by omega) (by omega) (by omega) (fun q h1 => by
                        rcases Nat.lt_or_ge q i with h | h
                        · exact hbe q h
                        · have e : q = i := by omega
                          rw [e]
                          exact hneg.mp c_38) (lv_sub hl [0, 1, 2, 3, 4] rfl)
            exact loop1 (gg_most a + 1) 0 ls (by omega) (by omega) (by omega) (fun q h1 => absurd h1 (by omega)) hl
          refine lv_iload_n hx hb dX1_read_24 rfl (lv_at hl 1 rfl) ?_
          refine lv_iconst (v := 2) hx hb dX1_read_25 (by decide) ?_
          refine lv_icmp_ne (tgt := 34) hx hb dX1_read_26 (by decide) (fun c_39 => ?_) (fun c_39 => ?_)
          · refine lv_iconst (v := nI (gg_most a)) hx hb dX1_read_34 (by unfold gg_most; rw [if_neg c_39]; decide) ?_
            exact k35
          · refine lv_bipush (v := nI (gg_most a)) hx hb dX1_read_29 (by unfold gg_most; rw [if_pos c_39]; decide) ?_
            refine lv_goto (tgt := 35) hx hb dX1_read_31 (by decide) ?_
            exact k35
        · have hf : gg_read a x t n v = (-2, v) := by unfold gg_read; rw [if_neg (fun q => c_4 q.2.2)]
          refine lv_bipush (v := (-2)) hx hb dX1_read_21 (by decide) ?_
          exact fin H _ ls _ (-2) (g, o, nI n, nI k, v) dX1_read_23 (by rw [hf]; exact ⟨rfl, hI, hO, rfl, rfl, rfl⟩) hP hD hS
