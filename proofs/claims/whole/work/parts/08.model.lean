/-! the methods of the reference -/
theorem gg_ok_iff {a : Int32} (h1 : ¬ a < 0) (h2 : ¬ 2 < a) : gg_ok a := by
  obtain ⟨j, hj, rfl⟩ := nI_of2 (M := 2) (n := 2) (by decide) h1 (Int32.not_lt.mp h2)
  rcases (show j = 0 ∨ j = 1 ∨ j = 2 by omega) with rfl | rfl | rfl
  · exact Or.inl rfl
  · exact Or.inr (Or.inl rfl)
  · exact Or.inr (Or.inr rfl)
theorem gg_ok_lo {a : Int32} (h : gg_ok a) : ¬ a < 0 := by rcases h with rfl | rfl | rfl <;> decide
theorem gg_ok_hi {a : Int32} (h : gg_ok a) : ¬ 2 < a := by rcases h with rfl | rfl | rfl <;> decide

set_option maxHeartbeats 4000000 in
set_option maxRecDepth 100000 in
theorem c_X1_word (l : Launch) (dC : Nat → ClassId) (dI : Nat → Nat → Nat) (h0 ar ao : Nat) (cA cB : ClassId) (sz : Nat) (g o : Nat → Int32) (n k : Nat) (v : Int64) (t : Nat → Nat) (y : Int32) (hI : sb_Lat t n g) (hn : n + 4 ≤ 1000) : Met l yX1_word wsX1_word R0 (va_Pc [.ref h0, .int y] (Pw (dC, dI) vwCl (ty1 cA cB) sz (w1 h0 ar ao cA cB g o (nI n) (nI k) v))) (va_Qv (fun u => sb_Lat (sb_cat t n (gg_wb y)) (n + 4) u) (Bw (S := Nat → Int32) (dC, dI) vwCl (ty1 cA cB) sz (w1 h0 ar ao cA cB g o (nI n) (nI k) v) (fun u => w1 h0 ar ao cA cB u o (nI (n + 4)) (nI k) v)) (va_A (w1 h0 ar ao cA cB g o (nI n) (nI k) v) sz)) 0 0 (va_A (w1 h0 ar ao cA cB g o (nI n) (nI k) v) sz) := by
  refine mm_v (cc := cX1_word) (maxL := 3) (by decide) rfl (Nat.le_of_ble_eq_true rfl) ?_
  intro p e s m below meth c Q A H ls hx hb hml hown hts hK hP hD hS hA hl fin
  have hown : s.vm.findClass RX1 = some m.cls := hown
  have hin : ∀ w ∈ wsX10, w ∈ wsX1_word := by decide +kernel
  have hl : lv_has ls 3 [(0, .ref h0), (1, .int y)] := hl
  have hP : va_P (dC, dI) vwCl (w1 h0 ar ao cA cB g o (nI n) (nI k) v) H := hP
  have hD : va_D A (w1 h0 ar ao cA cB g o (nI n) (nI k) v) := hD
  refine lv_iconst (v := nI 0) hx hb dX1_word_0 (by decide) ?_
  refine lv_istore_n (lv' := [(2, .int (nI 0)), (0, .ref h0), (1, .int y)]) hx hb dX1_word_1 rfl hl (by decide) rfl (fun ls hl => ?_)
  have loop : ∀ (f i : Nat) (gi : Nat → Int32) (H : Heap) (locs : List Loc) (ls : Array Slot), i ≤ 4 → 5 ≤ i + f → sb_Lat (sb_cat t n (gg_wb y)) (n + i) gi → va_P (dC, dI) vwCl (w1 h0 ar ao cA cB gi o (nI (n + i)) (nI k) v) H → va_D A (w1 h0 ar ao cA cB gi o (nI (n + i)) (nI k) v) → va_S A s.heap H locs → lv_has ls 3 [(2, .int (nI i)), (0, .ref h0), (1, .int y)] → W p l e R0 s m ([.ref h0, .int y] : List Value).toArray below meth c H locs 0 0 Q (F0 m 2 ls []) := by
    intro f
    induction f with
    | zero => intro i gi H locs ls h1 h2
              exact absurd h2 (by omega)
    | succ f ih =>
      intro i gi H locs ls hi hf hI hP hD hS hl
      refine lv_iload_n hx hb dX1_word_2 rfl (lv_at hl 0 rfl) ?_
      refine lv_iconst (v := nI 4) hx hb dX1_word_3 (by decide) ?_
      refine lv_icmp_ge (tgt := 42) hx hb dX1_word_4 (by decide) (fun c_1 => ?_) (fun c_1 => ?_)
      · have dc_1 : i = 4 := by
          have q := (nI_leI (by decide) (by omega)).mp c_1
          omega
        subst dc_1
        exact fin H locs ls _ gi dX1_word_42 hI hP hD hS
      · have dc_1 : i < 4 := Nat.lt_of_not_le (fun q => c_1 ((nI_leI (by decide) (by omega)).mpr q))
        refine lv_aload_n hx hb dX1_word_7 rfl (lv_at hl 1 rfl) ?_
        refine va_get (D := (dC, dI)) (ci := 1) (v := .ref ar) (C := RX1) (T := TX1) (N := 5) hx hb hts hin hown hK hP 0 rfl rfl 0 (by decide) (hts (.fieldLink RX1 9 "GroupedNumbersModel" "row" "[B") (by decide +kernel)) (fun _ h9 => h9) rfl dX1_word_8 ?_
        refine lv_aload_n hx hb dX1_word_11 rfl (lv_at hl 1 rfl) ?_
        refine va_get (D := (dC, dI)) (ci := 1) (v := .int (nI (n + i))) (C := RX1) (T := TX1) (N := 5) hx hb hts hin hown hK hP 0 rfl rfl 2 (by decide) (hts (.fieldLink RX1 16 "GroupedNumbersModel" "rows" "I") (by decide +kernel)) (fun _ h9 => h9) rfl dX1_word_12 ?_
        refine lv_iload_n hx hb dX1_word_15 rfl (lv_at hl 2 rfl) ?_
        refine lv_bipush (v := 24) hx hb dX1_word_16 (by decide) ?_
        refine lv_bipush (v := 8) hx hb dX1_word_18 (by decide) ?_
        refine lv_iload_n hx hb dX1_word_20 rfl (lv_at hl 0 rfl) ?_
        refine lv_imul hx hb dX1_word_21 ?_
        refine lv_isub hx hb dX1_word_22 ?_
        refine lv_ishr hx hb dX1_word_23 ?_
        refine lv_i2b hx hb dX1_word_24 rfl ?_
        refine lv_topi (fun z_2 ez_2 => ?_)
        have ez_2 : z_2 = sb_b (gg_wb y i) := by rw [ez_2]; exact gg_wb_B y dc_1
        subst ez_2
        have hnar : vp_nar .byte (sb_b (gg_wb y i)) = sb_b (gg_wb y i) := pk_vb _
        refine va_bast hx hb hK hP hD hS 1 0 rfl rfl (vp_in_nI (show n + i < 1000 by omega) (by decide)) dX1_word_25 (fun H locs hP hD hS => ?_)
        rw [nI_clamp (show n + i < 2 ^ 31 by omega), hnar] at hP hD
        have hP : va_P (dC, dI) vwCl (w1 h0 ar ao cA cB (upd gi (n + i) (sb_b (gg_wb y i))) o (nI (n + i)) (nI k) v) H := hP
        have hD : va_D A (w1 h0 ar ao cA cB (upd gi (n + i) (sb_b (gg_wb y i))) o (nI (n + i)) (nI k) v) := hD
        refine lv_aload_n hx hb dX1_word_26 rfl (lv_at hl 1 rfl) ?_
        refine lv_dup hx hb dX1_word_27 rfl ?_
        refine va_get (D := (dC, dI)) (ci := 1) (v := .int (nI (n + i))) (C := RX1) (T := TX1) (N := 5) hx hb hts hin hown hK hP 0 rfl rfl 2 (by decide) (hts (.fieldLink RX1 16 "GroupedNumbersModel" "rows" "I") (by decide +kernel)) (fun _ h9 => h9) rfl dX1_word_28 ?_
        refine lv_iconst (v := nI 1) hx hb dX1_word_31 (by decide) ?_
        refine lv_iadd hx hb dX1_word_32 ?_
        refine lv_topi (fun z_3 ez_3 => ?_)
        have ez_3 : z_3 = nI (n + (i + 1)) := by rw [ez_3]; exact nI_add (n + i) 1
        subst ez_3
        refine va_put (D := (dC, dI)) (ci := 1) (v := .int (nI (n + (i + 1)))) (ty := .int) (C := RX1) (T := TX1) (N := 5) hx hb hts hin tyX1 tyX1_ok nmX1 hown hK hP hD hS 0 rfl rfl 2 (by decide) (hts (.fieldLink RX1 16 "GroupedNumbersModel" "rows" "I") (by decide +kernel)) (fun _ h9 => h9) rfl (by decide +kernel) rfl rfl (Nat.le_of_ble_eq_true rfl) dX1_word_33 (fun H locs hP hD hS => ?_)
        have hP : va_P (dC, dI) vwCl (w1 h0 ar ao cA cB (upd gi (n + i) (sb_b (gg_wb y i))) o (nI (n + (i + 1))) (nI k) v) H := hP
        have hD : va_D A (w1 h0 ar ao cA cB (upd gi (n + i) (sb_b (gg_wb y i))) o (nI (n + (i + 1))) (nI k) v) := hD
        refine lv_iinc (v := nI (i + 1)) (lv' := [(2, .int (nI (i + 1))), (0, .ref h0), (1, .int y)]) hx hb dX1_word_36 hl (k := 0) rfl (show nI i + 1 = nI (i + 1) from nI_1 i) (by decide) rfl (fun ls hl => ?_)
        refine lv_goto (tgt := 2) hx hb dX1_word_39 (by decide) ?_
        exact ih (i + 1) _ H locs ls (by omega) (by omega) (gg_B_push (n := n + i) hI (by rw [sb_cat_hi]; exact gg_wb_lt y i) (by rw [sb_cat_hi])) hP hD hS (lv_sub hl [0, 1, 2] rfl)
  exact loop 5 0 g H [] ls (by omega) (by omega) (gg_B_cat hI) hP hD hS hl

set_option maxHeartbeats 4000000 in
set_option maxRecDepth 100000 in
theorem c_X1_feed (l : Launch) (dC : Nat → ClassId) (dI : Nat → Nat → Nat) (h0 ar ao : Nat) (cA cB : ClassId) (sz : Nat) (g o : Nat → Int32) (n k : Nat) (v : Int64) (t z : Nat → Nat) (x1 x2 x3 x4 x5 : Int32) (hI : sb_Lat t n g) (hO : sb_Lat z k o) (hn : n ≤ 1000) (hk : k ≤ 1000) : Met l yX1_feed wsX1_feed R1 (va_Pc [.ref h0, .int x1, .int x2, .int x3, .int x4, .int x5] (Pw (dC, dI) vwCl (ty1 cA cB) sz (w1 h0 ar ao cA cB g o (nI n) (nI k) v))) (va_Qi (fun r u => r = (gg_feed t n x1 x2 x3 x4 x5).1 ∧ gs_is sb_Lat (gg_feed t n x1 x2 x3 x4 x5).2.2 (gg_feed t n x1 x2 x3 x4 x5).2.1 z k v u) (Bw (S := gS) (dC, dI) vwCl (ty1 cA cB) sz (w1 h0 ar ao cA cB g o (nI n) (nI k) v) (B1 h0 ar ao cA cB)) (va_A (w1 h0 ar ao cA cB g o (nI n) (nI k) v) sz)) 0 0 (va_A (w1 h0 ar ao cA cB g o (nI n) (nI k) v) sz) := by
  refine mm_i (cc := cX1_feed) (maxL := 6) (by decide) rfl (Nat.le_of_ble_eq_true rfl) ?_
  intro p e s m below meth c Q A H ls hx hb hml hown hts hK hP hD hS hA hl fin
  have hown : s.vm.findClass RX1 = some m.cls := hown
  have hin : ∀ w ∈ wsX10, w ∈ wsX1_feed := by decide +kernel
  have hl : lv_has ls 6 [(0, .ref h0), (1, .int x1), (2, .int x2), (3, .int x3), (4, .int x4), (5, .int x5)] := hl
  have hP : va_P (dC, dI) vwCl (w1 h0 ar ao cA cB g o (nI n) (nI k) v) H := hP
  have hD : va_D A (w1 h0 ar ao cA cB g o (nI n) (nI k) v) := hD
  refine lv_aload_n hx hb dX1_feed_0 rfl (lv_at hl 0 rfl) ?_
  refine va_get (D := (dC, dI)) (ci := 1) (v := .int (nI n)) (C := RX1) (T := TX1) (N := 5) hx hb hts hin hown hK hP 0 rfl rfl 2 (by decide) (hts (.fieldLink RX1 16 "GroupedNumbersModel" "rows" "I") (by decide +kernel)) (fun _ h9 => h9) rfl dX1_feed_1 ?_
  refine lv_bipush (v := nI 20) hx hb dX1_feed_4 (by decide) ?_
  refine lv_iadd hx hb dX1_feed_6 ?_
  refine lv_topi (fun z_1 ez_1 => ?_)
  have ez_1 : z_1 = nI (n + 20) := by rw [ez_1]; exact nI_add n 20
  subst ez_1
  refine lv_sipush (v := nI 1000) hx hb dX1_feed_7 (by decide) ?_
  refine lv_icmp_le (tgt := 15) hx hb dX1_feed_10 (by decide) (fun c_2 => ?_) (fun c_2 => ?_)
  · have hn20 : n + 20 ≤ 1000 := (nI_leI (by omega) (by decide)).mp c_2
    refine lv_aload_n hx hb dX1_feed_15 rfl (lv_at hl 0 rfl) ?_
    refine lv_iload_n hx hb dX1_feed_16 rfl (lv_at hl 1 rfl) ?_
    refine cc_mv (av := [.int x1]) (rest := []) [0, 1, 2] [] ⟨hx, hb, hml, hown, hts⟩ (c_X1_word l dC dI h0 ar ao cA cB H.size g o (n) k v (t) x1 hI (by omega)) (cwV 1 hts gX1_feed_X1_word rfl rfl rfl (by decide +kernel) ⟨Nat.le_of_ble_eq_true rfl, Nat.le_of_ble_eq_true rfl⟩) hP hD hS hA hK (wr := []) rfl rfl (by decide) (by decide) (by decide) (ci := 1) rfl rfl rfl hl.1 rfl (Nat.le_of_ble_eq_true rfl) dX1_feed_17 ⟨Nat.zero_le _, Nat.zero_le _⟩ (fun g1 H locs hI1 hP hD hS => ?_)
    have hP : va_P (dC, dI) vwCl (w1 h0 ar ao cA cB g1 o (nI (n + 4)) (nI k) v) H := hP
    have hD : va_D A (w1 h0 ar ao cA cB g1 o (nI (n + 4)) (nI k) v) := hD
    refine lv_aload_n hx hb dX1_feed_20 rfl (lv_at hl 0 rfl) ?_
    refine lv_iload_n hx hb dX1_feed_21 rfl (lv_at hl 2 rfl) ?_
    refine cc_mv (av := [.int x2]) (rest := []) [0, 1, 2] [] ⟨hx, hb, hml, hown, hts⟩ (c_X1_word l dC dI h0 ar ao cA cB H.size g1 o (n + 4) k v (sb_cat (t) (n) (gg_wb x1)) x2 hI1 (by omega)) (cwV 1 hts gX1_feed_X1_word rfl rfl rfl (by decide +kernel) ⟨Nat.le_of_ble_eq_true rfl, Nat.le_of_ble_eq_true rfl⟩) hP hD hS hA hK (wr := []) rfl rfl (by decide) (by decide) (by decide) (ci := 1) rfl rfl rfl hl.1 rfl (Nat.le_of_ble_eq_true rfl) dX1_feed_22 ⟨Nat.zero_le _, Nat.zero_le _⟩ (fun g2 H locs hI2 hP hD hS => ?_)
    have hP : va_P (dC, dI) vwCl (w1 h0 ar ao cA cB g2 o (nI (n + 8)) (nI k) v) H := hP
    have hD : va_D A (w1 h0 ar ao cA cB g2 o (nI (n + 8)) (nI k) v) := hD
    refine lv_aload_n hx hb dX1_feed_25 rfl (lv_at hl 0 rfl) ?_
    refine lv_iload_n hx hb dX1_feed_26 rfl (lv_at hl 3 rfl) ?_
    refine cc_mv (av := [.int x3]) (rest := []) [0, 1, 2] [] ⟨hx, hb, hml, hown, hts⟩ (c_X1_word l dC dI h0 ar ao cA cB H.size g2 o (n + 8) k v (sb_cat (sb_cat (t) (n) (gg_wb x1)) (n + 4) (gg_wb x2)) x3 hI2 (by omega)) (cwV 1 hts gX1_feed_X1_word rfl rfl rfl (by decide +kernel) ⟨Nat.le_of_ble_eq_true rfl, Nat.le_of_ble_eq_true rfl⟩) hP hD hS hA hK (wr := []) rfl rfl (by decide) (by decide) (by decide) (ci := 1) rfl rfl rfl hl.1 rfl (Nat.le_of_ble_eq_true rfl) dX1_feed_27 ⟨Nat.zero_le _, Nat.zero_le _⟩ (fun g3 H locs hI3 hP hD hS => ?_)
    have hP : va_P (dC, dI) vwCl (w1 h0 ar ao cA cB g3 o (nI (n + 12)) (nI k) v) H := hP
    have hD : va_D A (w1 h0 ar ao cA cB g3 o (nI (n + 12)) (nI k) v) := hD
    refine lv_aload_n hx hb dX1_feed_30 rfl (lv_at hl 0 rfl) ?_
    refine lv_iload hx hb dX1_feed_31 (lv_at hl 4 rfl) ?_
    refine cc_mv (av := [.int x4]) (rest := []) [0, 1, 2] [] ⟨hx, hb, hml, hown, hts⟩ (c_X1_word l dC dI h0 ar ao cA cB H.size g3 o (n + 12) k v (sb_cat (sb_cat (sb_cat (t) (n) (gg_wb x1)) (n + 4) (gg_wb x2)) (n + 8) (gg_wb x3)) x4 hI3 (by omega)) (cwV 1 hts gX1_feed_X1_word rfl rfl rfl (by decide +kernel) ⟨Nat.le_of_ble_eq_true rfl, Nat.le_of_ble_eq_true rfl⟩) hP hD hS hA hK (wr := []) rfl rfl (by decide) (by decide) (by decide) (ci := 1) rfl rfl rfl hl.1 rfl (Nat.le_of_ble_eq_true rfl) dX1_feed_33 ⟨Nat.zero_le _, Nat.zero_le _⟩ (fun g4 H locs hI4 hP hD hS => ?_)
    have hP : va_P (dC, dI) vwCl (w1 h0 ar ao cA cB g4 o (nI (n + 16)) (nI k) v) H := hP
    have hD : va_D A (w1 h0 ar ao cA cB g4 o (nI (n + 16)) (nI k) v) := hD
    refine lv_aload_n hx hb dX1_feed_36 rfl (lv_at hl 0 rfl) ?_
    refine lv_iload hx hb dX1_feed_37 (lv_at hl 5 rfl) ?_
    refine cc_mv (av := [.int x5]) (rest := []) [0, 1, 2] [] ⟨hx, hb, hml, hown, hts⟩ (c_X1_word l dC dI h0 ar ao cA cB H.size g4 o (n + 16) k v (sb_cat (sb_cat (sb_cat (sb_cat (t) (n) (gg_wb x1)) (n + 4) (gg_wb x2)) (n + 8) (gg_wb x3)) (n + 12) (gg_wb x4)) x5 hI4 (by omega)) (cwV 1 hts gX1_feed_X1_word rfl rfl rfl (by decide +kernel) ⟨Nat.le_of_ble_eq_true rfl, Nat.le_of_ble_eq_true rfl⟩) hP hD hS hA hK (wr := []) rfl rfl (by decide) (by decide) (by decide) (ci := 1) rfl rfl rfl hl.1 rfl (Nat.le_of_ble_eq_true rfl) dX1_feed_39 ⟨Nat.zero_le _, Nat.zero_le _⟩ (fun g5 H locs hI5 hP hD hS => ?_)
    have hP : va_P (dC, dI) vwCl (w1 h0 ar ao cA cB g5 o (nI (n + 20)) (nI k) v) H := hP
    have hD : va_D A (w1 h0 ar ao cA cB g5 o (nI (n + 20)) (nI k) v) := hD
    refine lv_aload_n hx hb dX1_feed_42 rfl (lv_at hl 0 rfl) ?_
    refine va_get (D := (dC, dI)) (ci := 1) (v := .int (nI (n + 20))) (C := RX1) (T := TX1) (N := 5) hx hb hts hin hown hK hP 0 rfl rfl 2 (by decide) (hts (.fieldLink RX1 16 "GroupedNumbersModel" "rows" "I") (by decide +kernel)) (fun _ h9 => h9) rfl dX1_feed_43 ?_
    have hf : gg_feed t n x1 x2 x3 x4 x5 = (nI (n + 20), n + 20, gg_ft t n x1 x2 x3 x4 x5) := by unfold gg_feed; rw [if_pos hn20]
    exact fin H _ ls _ (nI (n + 20)) (g5, o, nI (n + 20), nI k, v) dX1_feed_46 (by rw [hf]; exact ⟨rfl, hI5, hO, rfl, rfl, rfl⟩) hP hD hS
  · have hn20 : ¬ n + 20 ≤ 1000 := fun q => c_2 ((nI_leI (by omega) (by decide)).mpr q)
    have hf : gg_feed t n x1 x2 x3 x4 x5 = (-1, n, t) := by unfold gg_feed; rw [if_neg hn20]
    refine lv_iconst (v := (-1)) hx hb dX1_feed_13 (by decide) ?_
    exact fin H _ ls _ (-1) (g, o, nI n, nI k, v) dX1_feed_14 (by rw [hf]; exact ⟨rfl, hI, hO, rfl, rfl, rfl⟩) hP hD hS

set_option maxHeartbeats 4000000 in
set_option maxRecDepth 100000 in
theorem c_X1_end (l : Launch) (dC : Nat → ClassId) (dI : Nat → Nat → Nat) (h0 ar ao : Nat) (cA cB : ClassId) (sz : Nat) (g o : Nat → Int32) (n k : Nat) (v : Int64) (t z : Nat → Nat) (x : Int32) (hI : sb_Lat t n g) (hO : sb_Lat z k o) (hn : n ≤ 1000) (hk : k ≤ 1000) : Met l yX1_end wsX1_end R0 (va_Pc [.ref h0, .int x] (Pw (dC, dI) vwCl (ty1 cA cB) sz (w1 h0 ar ao cA cB g o (nI n) (nI k) v))) (va_Qi (fun r u => r = (gg_end x n).1 ∧ gs_is sb_Lat t (gg_end x n).2 z k v u) (Bw (S := gS) (dC, dI) vwCl (ty1 cA cB) sz (w1 h0 ar ao cA cB g o (nI n) (nI k) v) (B1 h0 ar ao cA cB)) (va_A (w1 h0 ar ao cA cB g o (nI n) (nI k) v) sz)) 0 0 (va_A (w1 h0 ar ao cA cB g o (nI n) (nI k) v) sz) := by
  refine mm_i (cc := cX1_end) (maxL := 2) (by decide) rfl (Nat.le_of_ble_eq_true rfl) ?_
  intro p e s m below meth c Q A H ls hx hb hml hown hts hK hP hD hS hA hl fin
  have hown : s.vm.findClass RX1 = some m.cls := hown
  have hin : ∀ w ∈ wsX10, w ∈ wsX1_end := by decide +kernel
  have hl : lv_has ls 2 [(0, .ref h0), (1, .int x)] := hl
  have hP : va_P (dC, dI) vwCl (w1 h0 ar ao cA cB g o (nI n) (nI k) v) H := hP
  have hD : va_D A (w1 h0 ar ao cA cB g o (nI n) (nI k) v) := hD
  refine lv_iload_n hx hb dX1_end_0 rfl (lv_at hl 1 rfl) ?_
  refine lv_if_lt (tgt := 12) hx hb dX1_end_1 (by decide) (fun c_1 => ?_) (fun c_1 => ?_)
  · have hf : gg_end x n = (-1, n) := by unfold gg_end; rw [if_neg (fun q => q.1 c_1)]
    refine lv_iconst (v := (-1)) hx hb dX1_end_12 (by decide) ?_
    exact fin H _ ls _ (-1) (g, o, nI n, nI k, v) dX1_end_13 (by rw [hf]; exact ⟨rfl, hI, hO, rfl, rfl, rfl⟩) hP hD hS
  · refine lv_iload_n hx hb dX1_end_4 rfl (lv_at hl 1 rfl) ?_
    refine lv_aload_n hx hb dX1_end_5 rfl (lv_at hl 0 rfl) ?_
    refine va_get (D := (dC, dI)) (ci := 1) (v := .int (nI n)) (C := RX1) (T := TX1) (N := 5) hx hb hts hin hown hK hP 0 rfl rfl 2 (by decide) (hts (.fieldLink RX1 16 "GroupedNumbersModel" "rows" "I") (by decide +kernel)) (fun _ h9 => h9) rfl dX1_end_6 ?_
    refine lv_icmp_le (tgt := 14) hx hb dX1_end_9 (by decide) (fun c_2 => ?_) (fun c_2 => ?_)
    · have hf : gg_end x n = (x, x.toNatClampNeg) := by unfold gg_end; rw [if_pos ⟨c_1, c_2⟩]
      have hbd := gg_end_bd (x := x) hn
      obtain ⟨j, hj, ej⟩ := nI_of c_1
      have ec : x.toNatClampNeg = j := by rw [ej]; exact nI_clamp hj
      rw [hf] at hbd
      have hbd : x.toNatClampNeg ≤ n := hbd
      rw [ec] at hbd
      refine lv_aload_n hx hb dX1_end_14 rfl (lv_at hl 0 rfl) ?_
      refine lv_iload_n hx hb dX1_end_15 rfl (lv_at hl 1 rfl) ?_
      refine va_put (D := (dC, dI)) (ci := 1) (v := .int x) (ty := .int) (C := RX1) (T := TX1) (N := 5) hx hb hts hin tyX1 tyX1_ok nmX1 hown hK hP hD hS 0 rfl rfl 2 (by decide) (hts (.fieldLink RX1 16 "GroupedNumbersModel" "rows" "I") (by decide +kernel)) (fun _ h9 => h9) rfl (by decide +kernel) rfl rfl (Nat.le_of_ble_eq_true rfl) dX1_end_16 (fun H locs hP hD hS => ?_)
      have hP : va_P (dC, dI) vwCl (w1 h0 ar ao cA cB g o x (nI k) v) H := hP
      have hD : va_D A (w1 h0 ar ao cA cB g o x (nI k) v) := hD
      refine lv_iload_n hx hb dX1_end_19 rfl (lv_at hl 1 rfl) ?_
      exact fin H _ ls _ x (g, o, x, nI k, v) dX1_end_20 (by rw [hf]; exact ⟨rfl, by show sb_Lat t x.toNatClampNeg g; rw [ec]; exact gg_B_sub hI hbd, hO, by show x = nI x.toNatClampNeg; rw [ec]; exact ej, rfl, rfl⟩) hP hD hS
    · have hf : gg_end x n = (-1, n) := by unfold gg_end; rw [if_neg (fun q => c_2 q.2)]
      refine lv_iconst (v := (-1)) hx hb dX1_end_12 (by decide) ?_
      exact fin H _ ls _ (-1) (g, o, nI n, nI k, v) dX1_end_13 (by rw [hf]; exact ⟨rfl, hI, hO, rfl, rfl, rfl⟩) hP hD hS

set_option maxHeartbeats 4000000 in
set_option maxRecDepth 100000 in
theorem c_X1_clear (l : Launch) (dC : Nat → ClassId) (dI : Nat → Nat → Nat) (h0 ar ao : Nat) (cA cB : ClassId) (sz : Nat) (g o : Nat → Int32) (n k : Nat) (v : Int64) (t z : Nat → Nat) (hI : sb_Lat t n g) (hO : sb_Lat z k o) (hn : n ≤ 1000) (hk : k ≤ 1000) : Met l yX1_clear wsX1_clear R0 (va_Pc [.ref h0] (Pw (dC, dI) vwCl (ty1 cA cB) sz (w1 h0 ar ao cA cB g o (nI n) (nI k) v))) (va_Qv (fun u => gs_is sb_Lat t 0 z 0 v u) (Bw (S := gS) (dC, dI) vwCl (ty1 cA cB) sz (w1 h0 ar ao cA cB g o (nI n) (nI k) v) (B1 h0 ar ao cA cB)) (va_A (w1 h0 ar ao cA cB g o (nI n) (nI k) v) sz)) 0 0 (va_A (w1 h0 ar ao cA cB g o (nI n) (nI k) v) sz) := by
  refine mm_v (cc := cX1_clear) (maxL := 1) (by decide) rfl (Nat.le_of_ble_eq_true rfl) ?_
  intro p e s m below meth c Q A H ls hx hb hml hown hts hK hP hD hS hA hl fin
  have hown : s.vm.findClass RX1 = some m.cls := hown
  have hin : ∀ w ∈ wsX10, w ∈ wsX1_clear := by decide +kernel
  have hl : lv_has ls 1 [(0, .ref h0)] := hl
  have hP : va_P (dC, dI) vwCl (w1 h0 ar ao cA cB g o (nI n) (nI k) v) H := hP
  have hD : va_D A (w1 h0 ar ao cA cB g o (nI n) (nI k) v) := hD
  refine lv_aload_n hx hb dX1_clear_0 rfl (lv_at hl 0 rfl) ?_
  refine lv_iconst (v := nI 0) hx hb dX1_clear_1 (by decide) ?_
  refine va_put (D := (dC, dI)) (ci := 1) (v := .int (nI 0)) (ty := .int) (C := RX1) (T := TX1) (N := 5) hx hb hts hin tyX1 tyX1_ok nmX1 hown hK hP hD hS 0 rfl rfl 2 (by decide) (hts (.fieldLink RX1 16 "GroupedNumbersModel" "rows" "I") (by decide +kernel)) (fun _ h9 => h9) rfl (by decide +kernel) rfl rfl (Nat.le_of_ble_eq_true rfl) dX1_clear_2 (fun H locs hP hD hS => ?_)
  have hP : va_P (dC, dI) vwCl (w1 h0 ar ao cA cB g o (nI 0) (nI k) v) H := hP
  have hD : va_D A (w1 h0 ar ao cA cB g o (nI 0) (nI k) v) := hD
  refine lv_aload_n hx hb dX1_clear_5 rfl (lv_at hl 0 rfl) ?_
  refine lv_iconst (v := nI 0) hx hb dX1_clear_6 (by decide) ?_
  refine va_put (D := (dC, dI)) (ci := 1) (v := .int (nI 0)) (ty := .int) (C := RX1) (T := TX1) (N := 5) hx hb hts hin tyX1 tyX1_ok nmX1 hown hK hP hD hS 0 rfl rfl 3 (by decide) (hts (.fieldLink RX1 36 "GroupedNumbersModel" "outs" "I") (by decide +kernel)) (fun _ h9 => h9) rfl (by decide +kernel) rfl rfl (Nat.le_of_ble_eq_true rfl) dX1_clear_7 (fun H locs hP hD hS => ?_)
  have hP : va_P (dC, dI) vwCl (w1 h0 ar ao cA cB g o (nI 0) (nI 0) v) H := hP
  have hD : va_D A (w1 h0 ar ao cA cB g o (nI 0) (nI 0) v) := hD
  exact fin H _ ls _ (g, o, nI 0, nI 0, v) dX1_clear_10 ⟨gg_B_sub hI (Nat.zero_le _), gg_B_sub hO (Nat.zero_le _), rfl, rfl, rfl⟩ hP hD hS

set_option maxHeartbeats 4000000 in
set_option maxRecDepth 100000 in
theorem c_X1_value (l : Launch) (dC : Nat → ClassId) (dI : Nat → Nat → Nat) (h0 ar ao : Nat) (cA cB : ClassId) (g o : Nat → Int32) (n k : Nat) (v : Int64) : Met l yX1_value wsX1_value R0 (va_Pc [.ref h0] (Pr (dC, dI) vwCl (ty1 cA cB) (w1 h0 ar ao cA cB g o (nI n) (nI k) v))) (vp_Sl (fun r => r = v)) 0 0 (fun _ => False) := by
  refine ro_l (cc := cX1_value) (maxL := 1) (by decide) rfl (Nat.le_of_ble_eq_true rfl) ?_
  intro p e s m below meth c Q ls hx hb hml hown hts hPU hl fin
  have hown : s.vm.findClass RX1 = some m.cls := hown
  obtain ⟨hP, hK⟩ := hPU
  have hin : ∀ w ∈ wsX10, w ∈ wsX1_value := by decide +kernel
  have hl : lv_has ls 1 [(0, .ref h0)] := hl
  refine lv_aload_n hx hb dX1_value_0 rfl (lv_at hl 0 rfl) ?_
  refine va_get (D := (dC, dI)) (ci := 1) (v := .long v) (C := RX1) (T := TX1) (N := 5) hx hb hts hin hown hK hP 0 rfl rfl 4 (by decide) (hts (.fieldLink RX1 26 "GroupedNumbersModel" "value" "J") (by decide +kernel)) (fun _ h9 => h9) rfl dX1_value_1 ?_
  exact fin ls _ v dX1_value_4 rfl

set_option maxHeartbeats 4000000 in
set_option maxRecDepth 100000 in
theorem c_X1_size (l : Launch) (dC : Nat → ClassId) (dI : Nat → Nat → Nat) (h0 ar ao : Nat) (cA cB : ClassId) (g o : Nat → Int32) (n k : Nat) (v : Int64) : Met l yX1_size wsX1_size R0 (va_Pc [.ref h0] (Pr (dC, dI) vwCl (ty1 cA cB) (w1 h0 ar ao cA cB g o (nI n) (nI k) v))) (vp_Si (fun r => r = nI k)) 0 0 (fun _ => False) := by
  refine ro_i (cc := cX1_size) (maxL := 1) (by decide) rfl (Nat.le_of_ble_eq_true rfl) ?_
  intro p e s m below meth c Q ls hx hb hml hown hts hPU hl fin
  have hown : s.vm.findClass RX1 = some m.cls := hown
  obtain ⟨hP, hK⟩ := hPU
  have hin : ∀ w ∈ wsX10, w ∈ wsX1_size := by decide +kernel
  have hl : lv_has ls 1 [(0, .ref h0)] := hl
  refine lv_aload_n hx hb dX1_size_0 rfl (lv_at hl 0 rfl) ?_
  refine va_get (D := (dC, dI)) (ci := 1) (v := .int (nI k)) (C := RX1) (T := TX1) (N := 5) hx hb hts hin hown hK hP 0 rfl rfl 3 (by decide) (hts (.fieldLink RX1 36 "GroupedNumbersModel" "outs" "I") (by decide +kernel)) (fun _ h9 => h9) rfl dX1_size_1 ?_
  exact fin ls _ (nI k) dX1_size_4 (rfl)

set_option maxHeartbeats 4000000 in
set_option maxRecDepth 100000 in
theorem c_X1_at (l : Launch) (dC : Nat → ClassId) (dI : Nat → Nat → Nat) (h0 ar ao : Nat) (cA cB : ClassId) (g o : Nat → Int32) (n k : Nat) (v : Int64) (z : Nat → Nat) (i : Int32) (hI : sb_Lat z k o) (hk : k ≤ 1000) : Met l yX1_at wsX1_at R0 (va_Pc [.ref h0, .int i] (Pr (dC, dI) vwCl (ty1 cA cB) (w1 h0 ar ao cA cB g o (nI n) (nI k) v))) (vp_Si (fun r => r = gg_at i z k)) 0 0 (fun _ => False) := by
  refine ro_i (cc := cX1_at) (maxL := 2) (by decide) rfl (Nat.le_of_ble_eq_true rfl) ?_
  intro p e s m below meth c Q ls hx hb hml hown hts hPU hl fin
  have hown : s.vm.findClass RX1 = some m.cls := hown
  obtain ⟨hP, hK⟩ := hPU
  have hin : ∀ w ∈ wsX10, w ∈ wsX1_at := by decide +kernel
  have hl : lv_has ls 2 [(0, .ref h0), (1, .int i)] := hl
  refine lv_iload_n hx hb dX1_at_0 rfl (lv_at hl 1 rfl) ?_
  refine lv_if_lt (tgt := 25) hx hb dX1_at_1 (by decide) (fun c_1 => ?_) (fun c_1 => ?_)
  · refine lv_iconst (v := (-1)) hx hb dX1_at_25 (by decide) ?_
    exact fin ls _ (-1) dX1_at_26 (by unfold gg_at; rw [if_neg (fun q => q.1 c_1)])
  · refine lv_iload_n hx hb dX1_at_4 rfl (lv_at hl 1 rfl) ?_
    refine lv_aload_n hx hb dX1_at_5 rfl (lv_at hl 0 rfl) ?_
    refine va_get (D := (dC, dI)) (ci := 1) (v := .int (nI k)) (C := RX1) (T := TX1) (N := 5) hx hb hts hin hown hK hP 0 rfl rfl 3 (by decide) (hts (.fieldLink RX1 36 "GroupedNumbersModel" "outs" "I") (by decide +kernel)) (fun _ h9 => h9) rfl dX1_at_6 ?_
    refine lv_icmp_ge (tgt := 25) hx hb dX1_at_9 (by decide) (fun c_2 => ?_) (fun c_2 => ?_)
    · refine lv_iconst (v := (-1)) hx hb dX1_at_25 (by decide) ?_
      exact fin ls _ (-1) dX1_at_26 (by unfold gg_at; rw [if_neg (fun q => absurd q.2 (Int32.not_lt.mpr c_2))])
    · obtain ⟨j, hj31, rfl⟩ := nI_of c_1
      have hj : j < k := Nat.lt_of_not_le (fun q => c_2 ((nI_leI (by omega) (by omega)).mpr q))
      have hjk : nI j < nI k := (nI_ltI (by omega) (by omega)).mpr hj
      refine lv_aload_n hx hb dX1_at_12 rfl (lv_at hl 0 rfl) ?_
      refine va_get (D := (dC, dI)) (ci := 1) (v := .ref ao) (C := RX1) (T := TX1) (N := 5) hx hb hts hin hown hK hP 0 rfl rfl 1 (by decide) (hts (.fieldLink RX1 13 "GroupedNumbersModel" "out" "[B") (by decide +kernel)) (fun _ h9 => h9) rfl dX1_at_13 ?_
      refine lv_iload_n hx hb dX1_at_16 rfl (lv_at hl 1 rfl) ?_
      refine va_bald hx hb hK hP 2 1 rfl rfl (vp_in_nI (show j < 1000 by omega) (by decide)) dX1_at_17 ?_
      refine lv_topi (fun z_3 ez_3 => ?_)
      have ez_3 : z_3 = sb_b (z j) := by rw [ez_3]; rw [nI_clamp (by omega)]; exact (hI j hj).2
      subst ez_3
      refine lv_sipush (v := 255) hx hb dX1_at_18 (by decide) ?_
      refine lv_iand hx hb dX1_at_21 ?_
      refine lv_topi (fun z_4 ez_4 => ?_)
      have ez_4 : z_4 = nI (z j) := by rw [ez_4]; exact gg_b_255 _ (hI j hj).1
      subst ez_4
      refine lv_goto (tgt := 26) hx hb dX1_at_22 (by decide) ?_
      exact fin ls _ (nI (z j)) dX1_at_26 (by unfold gg_at; rw [if_pos ⟨c_1, hjk⟩, nI_clamp (by omega)])

set_option maxHeartbeats 4000000 in
set_option maxRecDepth 100000 in
theorem c_X1_isEnough (l : Launch) (a : Int32) (x : Int64) (i : Nat) (hi : i ≤ 100) : Met l yX1_isEnough wsX1_isEnough R0 (va_Pc [.int a, .long x, .int (nI i)] (fun _ => True)) (vp_Si (fun r => ¬ r = 0 ↔ (63 < 7 * i ∨ gg_fit a x i = true))) 0 0 (fun _ => False) := by
  refine ro_z (cc := cX1_isEnough) (maxL := 5) (by decide) rfl (Nat.le_of_ble_eq_true rfl) ?_
  intro p e s m below meth c Q ls hx hb hml hown hts hPU hl fin
  have hown : s.vm.findClass RX1 = some m.cls := hown
  have hl : lv_has ls 5 [(0, .int a), (1, .long x), (3, .int (nI i))] := hl
  refine lv_bipush (v := 7) hx hb dX1_isEnough_0 (by decide) ?_
  refine lv_iload_n hx hb dX1_isEnough_2 rfl (lv_at hl 2 rfl) ?_
  refine lv_imul hx hb dX1_isEnough_3 ?_
  refine lv_topi (fun y_1 ey_1 => ?_)
  refine lv_istore (lv' := [(4, .int y_1), (0, .int a), (1, .long x), (3, .int (nI i))]) hx hb dX1_isEnough_4 hl (by decide) rfl (fun ls hl => ?_)
  refine lv_iload hx hb dX1_isEnough_6 (lv_at hl 0 rfl) ?_
  refine lv_bipush (v := nI 63) hx hb dX1_isEnough_8 (by decide) ?_
  have eb : y_1 = nI (7 * i) := by rw [ey_1]; exact gg_7 i
  refine lv_icmp_le (tgt := 15) hx hb dX1_isEnough_10 (by decide) (fun c_2 => ?_) (fun c_2 => ?_)
  · have hs : ¬ 63 < 7 * i := by
      rw [eb] at c_2
      have q := (nI_leI (by omega) (by decide)).mp c_2
      omega
    refine lv_iload_n hx hb dX1_isEnough_15 rfl (lv_at hl 1 rfl) ?_
    refine lv_if_ne (tgt := 36) hx hb dX1_isEnough_16 (by decide) (fun c_3 => ?_) (fun c_3 => ?_)
    · refine lv_lload_n hx hb dX1_isEnough_36 rfl (lv_at hl 2 rfl) ?_
      refine lv_iload hx hb dX1_isEnough_37 (lv_at hl 0 rfl) ?_
      refine lv_iconst (v := 1) hx hb dX1_isEnough_39 (by decide) ?_
      refine lv_isub hx hb dX1_isEnough_40 ?_
      refine lv_lshr hx hb dX1_isEnough_41 rfl ?_
      refine lv_lconst (v := 0) hx hb dX1_isEnough_42 (by decide) ?_
      refine W.lcmp hx hb dX1_isEnough_43 ?_
      refine lv_if_eq (tgt := 60) hx hb dX1_isEnough_44 (by decide) (fun c_4 => ?_) (fun c_4 => ?_)
      · refine lv_iconst (v := 1) hx hb dX1_isEnough_60 (by decide) ?_
        refine lv_goto (tgt := 65) hx hb dX1_isEnough_61 (by decide) ?_
        exact fin ls _ 1 (by decide) dX1_isEnough_65 (z1 (Or.inr (by unfold gg_fit; rw [if_neg c_3, ← ey_1, Bool.or_eq_true, decide_eq_true_eq, decide_eq_true_eq]; exact Or.inl ((lg_cmp_eq _ _).mp c_4))))
      · refine lv_lload_n hx hb dX1_isEnough_47 rfl (lv_at hl 2 rfl) ?_
        refine lv_iload hx hb dX1_isEnough_48 (lv_at hl 0 rfl) ?_
        refine lv_iconst (v := 1) hx hb dX1_isEnough_50 (by decide) ?_
        refine lv_isub hx hb dX1_isEnough_51 ?_
        refine lv_lshr hx hb dX1_isEnough_52 rfl ?_
        refine lv_ldc2 hx hb hown (hts (.constantLong RX1 24 (-1)) (by decide +kernel)) dX1_isEnough_53 ?_
        refine W.lcmp hx hb dX1_isEnough_56 ?_
        refine lv_if_ne (tgt := 64) hx hb dX1_isEnough_57 (by decide) (fun c_5 => ?_) (fun c_5 => ?_)
        · refine lv_iconst (v := 0) hx hb dX1_isEnough_64 (by decide) ?_
          exact fin ls _ 0 (by decide) dX1_isEnough_65 (z0 (fun q => q.elim hs (fun q => by unfold gg_fit at q; rw [if_neg c_3, ← ey_1, Bool.or_eq_true, decide_eq_true_eq, decide_eq_true_eq] at q; exact q.elim (fun q => c_4 ((lg_cmp_eq _ _).mpr q)) (fun q => c_5 ((lg_cmp_eq _ _).mpr q)))))
        · refine lv_iconst (v := 1) hx hb dX1_isEnough_60 (by decide) ?_
          refine lv_goto (tgt := 65) hx hb dX1_isEnough_61 (by decide) ?_
          exact fin ls _ 1 (by decide) dX1_isEnough_65 (z1 (Or.inr (by unfold gg_fit; rw [if_neg c_3, ← ey_1, Bool.or_eq_true, decide_eq_true_eq, decide_eq_true_eq]; exact Or.inr ((lg_cmp_eq _ _).mp c_5))))
    · refine lv_lload_n hx hb dX1_isEnough_19 rfl (lv_at hl 2 rfl) ?_
      refine lv_iload hx hb dX1_isEnough_20 (lv_at hl 0 rfl) ?_
      refine lv_lshr hx hb dX1_isEnough_22 rfl ?_
      refine lv_lconst (v := 0) hx hb dX1_isEnough_23 (by decide) ?_
      refine W.lcmp hx hb dX1_isEnough_24 ?_
      refine lv_if_ne (tgt := 32) hx hb dX1_isEnough_25 (by decide) (fun c_6 => ?_) (fun c_6 => ?_)
      · refine lv_iconst (v := 0) hx hb dX1_isEnough_32 (by decide) ?_
        refine lv_goto (tgt := 65) hx hb dX1_isEnough_33 (by decide) ?_
        exact fin ls _ 0 (by decide) dX1_isEnough_65 (z0 (fun q => q.elim hs (fun q => by unfold gg_fit at q; rw [if_pos c_3, decide_eq_true_eq, ← ey_1] at q; exact c_6 ((lg_cmp_eq _ _).mpr q))))
      · refine lv_iconst (v := 1) hx hb dX1_isEnough_28 (by decide) ?_
        refine lv_goto (tgt := 65) hx hb dX1_isEnough_29 (by decide) ?_
        exact fin ls _ 1 (by decide) dX1_isEnough_65 (z1 (Or.inr (by unfold gg_fit; rw [if_pos c_3, decide_eq_true_eq, ← ey_1]; exact (lg_cmp_eq _ _).mp c_6)))
  · have hs : 63 < 7 * i := by
      rw [eb] at c_2
      exact Nat.lt_of_not_le (fun q => c_2 ((nI_leI (by omega) (by decide)).mpr q))
    refine lv_iconst (v := 1) hx hb dX1_isEnough_13 (by decide) ?_
    exact fin ls _ 1 (by decide) dX1_isEnough_14 (z1 (Or.inl hs))
