/-! the static methods: they only answer -/
abbrev R0 : Room := { frames := 0, cells := 0, slots := 0, locals := 0 }
abbrev R1 : Room := { frames := 1, cells := 0, slots := 0, locals := 30 }
abbrev R2 : Room := { frames := 2, cells := 0, slots := 0, locals := 60 }
theorem z1 {P : Prop} (h : P) : (¬ (1 : Int32) = 0 ↔ P) := ⟨fun _ => h, fun _ => by decide⟩
theorem z0 {P : Prop} (h : ¬ P) : (¬ (0 : Int32) = 0 ↔ P) := ⟨fun q => absurd rfl q, fun q => absurd q h⟩
theorem gg_min {a b : Nat} (ha : a < 2 ^ 31) (hb : b < 2 ^ 31) : (if nI b < nI a then nI b else nI a) = nI (min a b) := by
  by_cases h : b < a
  · rw [if_pos ((nI_ltI hb ha).mpr h), Nat.min_eq_right (by omega)]
  · rw [if_neg (fun q => h ((nI_ltI hb ha).mp q)), Nat.min_eq_left (by omega)]

set_option maxHeartbeats 4000000 in
set_option maxRecDepth 100000 in
theorem c_X0_isKind (l : Launch) (a : Int32) : Met l yX0_isKind wsX0_isKind R0 (va_Pc [.int a] (fun _ => True)) (vp_Si (fun r => ¬ r = 0 ↔ gg_ok a)) 0 0 (fun _ => False) := by
  refine ro_z (cc := cX0_isKind) (maxL := 1) (by decide) rfl (Nat.le_of_ble_eq_true rfl) ?_
  intro p e s m below meth c Q ls hx hb hml hown hts hPU hl fin
  have hown : s.vm.findClass RX0 = some m.cls := hown
  have hl : lv_has ls 1 [(0, .int a)] := hl
  refine lv_iload_n hx hb dX0_isKind_0 rfl (lv_at hl 0 rfl) ?_
  refine lv_if_eq (tgt := 14) hx hb dX0_isKind_1 (by decide) (fun c_1 => ?_) (fun c_1 => ?_)
  · refine lv_iconst (v := 1) hx hb dX0_isKind_14 (by decide) ?_
    refine lv_goto (tgt := 19) hx hb dX0_isKind_15 (by decide) ?_
    exact fin ls _ 1 (by decide) dX0_isKind_19 (z1 (Or.inl c_1))
  · refine lv_iload_n hx hb dX0_isKind_4 rfl (lv_at hl 0 rfl) ?_
    refine lv_iconst (v := 1) hx hb dX0_isKind_5 (by decide) ?_
    refine lv_icmp_eq (tgt := 14) hx hb dX0_isKind_6 (by decide) (fun c_2 => ?_) (fun c_2 => ?_)
    · refine lv_iconst (v := 1) hx hb dX0_isKind_14 (by decide) ?_
      refine lv_goto (tgt := 19) hx hb dX0_isKind_15 (by decide) ?_
      exact fin ls _ 1 (by decide) dX0_isKind_19 (z1 (Or.inr (Or.inl c_2)))
    · refine lv_iload_n hx hb dX0_isKind_9 rfl (lv_at hl 0 rfl) ?_
      refine lv_iconst (v := 2) hx hb dX0_isKind_10 (by decide) ?_
      refine lv_icmp_ne (tgt := 18) hx hb dX0_isKind_11 (by decide) (fun c_3 => ?_) (fun c_3 => ?_)
      · refine lv_iconst (v := 0) hx hb dX0_isKind_18 (by decide) ?_
        exact fin ls _ 0 (by decide) dX0_isKind_19 (z0 (fun q => q.elim c_1 (fun q => q.elim c_2 c_3)))
      · refine lv_iconst (v := 1) hx hb dX0_isKind_14 (by decide) ?_
        refine lv_goto (tgt := 19) hx hb dX0_isKind_15 (by decide) ?_
        exact fin ls _ 1 (by decide) dX0_isKind_19 (z1 (Or.inr (Or.inr c_3)))

set_option maxHeartbeats 4000000 in
set_option maxRecDepth 100000 in
theorem c_X0_mostGroups (l : Launch) (a : Int32) : Met l yX0_mostGroups wsX0_mostGroups R0 (va_Pc [.int a] (fun _ => True)) (vp_Si (fun r => r = nI (gg_most a))) 0 0 (fun _ => False) := by
  refine ro_i (cc := cX0_mostGroups) (maxL := 1) (by decide) rfl (Nat.le_of_ble_eq_true rfl) ?_
  intro p e s m below meth c Q ls hx hb hml hown hts hPU hl fin
  have hown : s.vm.findClass RX0 = some m.cls := hown
  have hl : lv_has ls 1 [(0, .int a)] := hl
  refine lv_iload_n hx hb dX0_mostGroups_0 rfl (lv_at hl 0 rfl) ?_
  refine lv_iconst (v := 2) hx hb dX0_mostGroups_1 (by decide) ?_
  refine lv_icmp_ne (tgt := 10) hx hb dX0_mostGroups_2 (by decide) (fun c_1 => ?_) (fun c_1 => ?_)
  · refine lv_iconst (v := nI 5) hx hb dX0_mostGroups_10 (by decide) ?_
    exact fin ls _ (nI 5) dX0_mostGroups_11 (by unfold gg_most; rw [if_neg c_1])
  · refine lv_bipush (v := nI 10) hx hb dX0_mostGroups_5 (by decide) ?_
    refine lv_goto (tgt := 11) hx hb dX0_mostGroups_7 (by decide) ?_
    exact fin ls _ (nI 10) dX0_mostGroups_11 (by unfold gg_most; rw [if_pos c_1])

set_option maxHeartbeats 4000000 in
set_option maxRecDepth 100000 in
theorem c_X0_mayEndLongest (l : Launch) (a : Int32) (b : Nat) (ho : gg_ok a) (hb128 : b < 128) : Met l yX0_mayEndLongest wsX0_mayEndLongest R0 (va_Pc [.int a, .int (nI b)] (fun _ => True)) (vp_Si (fun r => ¬ r = 0 ↔ ¬ gg_bad a b)) 0 0 (fun _ => False) := by
  refine ro_z (cc := cX0_mayEndLongest) (maxL := 2) (by decide) rfl (Nat.le_of_ble_eq_true rfl) ?_
  intro p e s m below meth c Q ls hx hb hml hown hts hPU hl fin
  have hown : s.vm.findClass RX0 = some m.cls := hown
  have hl : lv_has ls 2 [(0, .int a), (1, .int (nI b))] := hl
  refine lv_iload_n hx hb dX0_mayEndLongest_0 rfl (lv_at hl 0 rfl) ?_
  refine lv_if_ne (tgt := 16) hx hb dX0_mayEndLongest_1 (by decide) (fun c_1 => ?_) (fun c_1 => ?_)
  · refine lv_iload_n hx hb dX0_mayEndLongest_16 rfl (lv_at hl 0 rfl) ?_
    refine lv_iconst (v := 1) hx hb dX0_mayEndLongest_17 (by decide) ?_
    refine lv_icmp_ne (tgt := 39) hx hb dX0_mayEndLongest_18 (by decide) (fun c_2 => ?_) (fun c_2 => ?_)
    · refine lv_iload_n hx hb dX0_mayEndLongest_39 rfl (lv_at hl 1 rfl) ?_
      refine lv_if_eq (tgt := 49) hx hb dX0_mayEndLongest_40 (by decide) (fun c_3 => ?_) (fun c_3 => ?_)
      · have dc_3 : b = 0 := (nI_eq (b := 0) (by omega) (by decide)).mp c_3
        refine lv_iconst (v := 1) hx hb dX0_mayEndLongest_49 (by decide) ?_
        refine lv_goto (tgt := 54) hx hb dX0_mayEndLongest_50 (by decide) ?_
        exact fin ls _ 1 (by decide) dX0_mayEndLongest_54 (z1 (fun q => q.elim (fun q => absurd q.1 c_1) (fun q => q.elim (fun q => absurd q.1 c_2) (fun q => by omega))))
      · have dc_3 : ¬ b = 0 := fun q => c_3 (by rw [q]; rfl)
        refine lv_iload_n hx hb dX0_mayEndLongest_43 rfl (lv_at hl 1 rfl) ?_
        refine lv_bipush (v := 127) hx hb dX0_mayEndLongest_44 (by decide) ?_
        refine lv_icmp_ne (tgt := 53) hx hb dX0_mayEndLongest_46 (by decide) (fun c_4 => ?_) (fun c_4 => ?_)
        · have ec_4 : ¬ b = 127 := fun q => c_4 (by rw [q]; rfl)
          refine lv_iconst (v := 0) hx hb dX0_mayEndLongest_53 (by decide) ?_
          exact fin ls _ 0 (by decide) dX0_mayEndLongest_54 (z0 (fun q => q (Or.inr (Or.inr ⟨(ho.resolve_left c_1).resolve_left c_2, by omega, by omega⟩))))
        · have ec_4 : b = 127 := (nI_eq (b := 127) (by omega) (by decide)).mp c_4
          refine lv_iconst (v := 1) hx hb dX0_mayEndLongest_49 (by decide) ?_
          refine lv_goto (tgt := 54) hx hb dX0_mayEndLongest_50 (by decide) ?_
          exact fin ls _ 1 (by decide) dX0_mayEndLongest_54 (z1 (fun q => q.elim (fun q => absurd q.1 c_1) (fun q => q.elim (fun q => absurd q.1 c_2) (fun q => by omega))))
    · refine lv_iload_n hx hb dX0_mayEndLongest_21 rfl (lv_at hl 1 rfl) ?_
      refine lv_bipush (v := 7) hx hb dX0_mayEndLongest_22 (by decide) ?_
      refine lv_icmp_le (tgt := 33) hx hb dX0_mayEndLongest_24 (by decide) (fun c_5 => ?_) (fun c_5 => ?_)
      · have dc_5 : b ≤ 7 := (nI_leI (b := 7) (by omega) (by decide)).mp c_5
        refine lv_iconst (v := 1) hx hb dX0_mayEndLongest_33 (by decide) ?_
        refine lv_goto (tgt := 38) hx hb dX0_mayEndLongest_34 (by decide) ?_
        exact fin ls _ 1 (by decide) dX0_mayEndLongest_38 (z1 (fun q => q.elim (fun q => absurd q.1 c_1) (fun q => q.elim (fun q => by omega) (fun q => absurd (c_2.symm.trans q.1) (by decide)))))
      · have dc_5 : 7 < b := Nat.lt_of_not_le (fun q => c_5 ((nI_leI (b := 7) (by omega) (by decide)).mpr q))
        refine lv_iload_n hx hb dX0_mayEndLongest_27 rfl (lv_at hl 1 rfl) ?_
        refine lv_bipush (v := 120) hx hb dX0_mayEndLongest_28 (by decide) ?_
        refine lv_icmp_lt (tgt := 37) hx hb dX0_mayEndLongest_30 (by decide) (fun c_6 => ?_) (fun c_6 => ?_)
        · have ec_6 : b < 120 := (nI_ltI (b := 120) (by omega) (by decide)).mp c_6
          refine lv_iconst (v := 0) hx hb dX0_mayEndLongest_37 (by decide) ?_
          exact fin ls _ 0 (by decide) dX0_mayEndLongest_38 (z0 (fun q => q (Or.inr (Or.inl ⟨c_2, dc_5, ec_6⟩))))
        · have ec_6 : ¬ b < 120 := fun q => c_6 ((nI_ltI (b := 120) (by omega) (by decide)).mpr q)
          refine lv_iconst (v := 1) hx hb dX0_mayEndLongest_33 (by decide) ?_
          refine lv_goto (tgt := 38) hx hb dX0_mayEndLongest_34 (by decide) ?_
          exact fin ls _ 1 (by decide) dX0_mayEndLongest_38 (z1 (fun q => q.elim (fun q => absurd q.1 c_1) (fun q => q.elim (fun q => by omega) (fun q => absurd (c_2.symm.trans q.1) (by decide)))))
  · refine lv_iload_n hx hb dX0_mayEndLongest_4 rfl (lv_at hl 1 rfl) ?_
    refine lv_bipush (v := 15) hx hb dX0_mayEndLongest_5 (by decide) ?_
    refine lv_icmp_gt (tgt := 14) hx hb dX0_mayEndLongest_7 (by decide) (fun c_7 => ?_) (fun c_7 => ?_)
    · have dc_7 : 15 < b := (nI_ltI (a := 15) (by decide) (by omega)).mp c_7
      refine lv_iconst (v := 0) hx hb dX0_mayEndLongest_14 (by decide) ?_
      exact fin ls _ 0 (by decide) dX0_mayEndLongest_15 (z0 (fun q => q (Or.inl ⟨c_1, dc_7⟩)))
    · have dc_7 : ¬ 15 < b := fun q => c_7 ((nI_ltI (a := 15) (by decide) (by omega)).mpr q)
      refine lv_iconst (v := 1) hx hb dX0_mayEndLongest_10 (by decide) ?_
      refine lv_goto (tgt := 15) hx hb dX0_mayEndLongest_11 (by decide) ?_
      exact fin ls _ 1 (by decide) dX0_mayEndLongest_15 (z1 (fun q => q.elim (fun q => dc_7 q.2) (fun q => q.elim (fun q => absurd (c_1.symm.trans q.1) (by decide)) (fun q => absurd (c_1.symm.trans q.1) (by decide)))))

set_option maxHeartbeats 4000000 in
set_option maxRecDepth 100000 in
theorem c_X0_isNumberOf (l : Launch) (a : Int32) (x : Int64) : Met l yX0_isNumberOf wsX0_isNumberOf R0 (va_Pc [.int a, .long x] (fun _ => True)) (vp_Si (fun r => ¬ r = 0 ↔ gg_num a x)) 0 0 (fun _ => False) := by
  refine ro_z (cc := cX0_isNumberOf) (maxL := 3) (by decide) rfl (Nat.le_of_ble_eq_true rfl) ?_
  intro p e s m below meth c Q ls hx hb hml hown hts hPU hl fin
  have hown : s.vm.findClass RX0 = some m.cls := hown
  have hl : lv_has ls 3 [(0, .int a), (1, .long x)] := hl
  refine lv_iload_n hx hb dX0_isNumberOf_0 rfl (lv_at hl 0 rfl) ?_
  refine lv_if_ne (tgt := 24) hx hb dX0_isNumberOf_1 (by decide) (fun c_1 => ?_) (fun c_1 => ?_)
  · refine lv_iload_n hx hb dX0_isNumberOf_24 rfl (lv_at hl 0 rfl) ?_
    refine lv_iconst (v := 1) hx hb dX0_isNumberOf_25 (by decide) ?_
    refine lv_icmp_ne (tgt := 51) hx hb dX0_isNumberOf_26 (by decide) (fun c_2 => ?_) (fun c_2 => ?_)
    · refine lv_iconst (v := 1) hx hb dX0_isNumberOf_51 (by decide) ?_
      exact fin ls _ 1 (by decide) dX0_isNumberOf_52 (z1 ⟨fun q => absurd q c_1, fun q => absurd q c_2⟩)
    · refine lv_lload_n hx hb dX0_isNumberOf_29 rfl (lv_at hl 1 rfl) ?_
      refine lv_ldc2 hx hb hown (hts (.constantLong RX0 69 (-2147483648)) (by decide +kernel)) dX0_isNumberOf_30 ?_
      refine W.lcmp hx hb dX0_isNumberOf_33 ?_
      refine lv_if_lt (tgt := 49) hx hb dX0_isNumberOf_34 (by decide) (fun c_3 => ?_) (fun c_3 => ?_)
      · have dc_3 : ¬ -2147483648 ≤ x := Int64.not_le.mpr ((lg_cmp_lt _ _).mp c_3)
        refine lv_iconst (v := 0) hx hb dX0_isNumberOf_49 (by decide) ?_
        exact fin ls _ 0 (by decide) dX0_isNumberOf_50 (z0 (fun q => dc_3 (q.2 c_2).1))
      · have dc_3 : -2147483648 ≤ x := Int64.not_lt.mp (fun q => c_3 ((lg_cmp_lt _ _).mpr q))
        refine lv_lload_n hx hb dX0_isNumberOf_37 rfl (lv_at hl 1 rfl) ?_
        refine lv_ldc2 hx hb hown (hts (.constantLong RX0 71 2147483647) (by decide +kernel)) dX0_isNumberOf_38 ?_
        refine W.lcmp hx hb dX0_isNumberOf_41 ?_
        refine lv_if_gt (tgt := 49) hx hb dX0_isNumberOf_42 (by decide) (fun c_4 => ?_) (fun c_4 => ?_)
        · have ec_4 : ¬ x ≤ 2147483647 := Int64.not_le.mpr ((lg_cmp_gt _ _).mp c_4)
          refine lv_iconst (v := 0) hx hb dX0_isNumberOf_49 (by decide) ?_
          exact fin ls _ 0 (by decide) dX0_isNumberOf_50 (z0 (fun q => ec_4 (q.2 c_2).2))
        · have ec_4 : x ≤ 2147483647 := Int64.not_lt.mp (fun q => c_4 ((lg_cmp_gt _ _).mpr q))
          refine lv_iconst (v := 1) hx hb dX0_isNumberOf_45 (by decide) ?_
          refine lv_goto (tgt := 50) hx hb dX0_isNumberOf_46 (by decide) ?_
          exact fin ls _ 1 (by decide) dX0_isNumberOf_50 (z1 ⟨fun q => absurd q c_1, fun _ => ⟨dc_3, ec_4⟩⟩)
  · refine lv_lload_n hx hb dX0_isNumberOf_4 rfl (lv_at hl 1 rfl) ?_
    refine lv_lconst (v := 0) hx hb dX0_isNumberOf_5 (by decide) ?_
    refine W.lcmp hx hb dX0_isNumberOf_6 ?_
    refine lv_if_lt (tgt := 22) hx hb dX0_isNumberOf_7 (by decide) (fun c_5 => ?_) (fun c_5 => ?_)
    · have dc_5 : ¬ 0 ≤ x := Int64.not_le.mpr ((lg_cmp_lt _ _).mp c_5)
      refine lv_iconst (v := 0) hx hb dX0_isNumberOf_22 (by decide) ?_
      exact fin ls _ 0 (by decide) dX0_isNumberOf_23 (z0 (fun q => dc_5 (q.1 c_1).1))
    · have dc_5 : 0 ≤ x := Int64.not_lt.mp (fun q => c_5 ((lg_cmp_lt _ _).mpr q))
      refine lv_lload_n hx hb dX0_isNumberOf_10 rfl (lv_at hl 1 rfl) ?_
      refine lv_ldc2 hx hb hown (hts (.constantLong RX0 67 4294967295) (by decide +kernel)) dX0_isNumberOf_11 ?_
      refine W.lcmp hx hb dX0_isNumberOf_14 ?_
      refine lv_if_gt (tgt := 22) hx hb dX0_isNumberOf_15 (by decide) (fun c_6 => ?_) (fun c_6 => ?_)
      · have ec_6 : ¬ x ≤ 4294967295 := Int64.not_le.mpr ((lg_cmp_gt _ _).mp c_6)
        refine lv_iconst (v := 0) hx hb dX0_isNumberOf_22 (by decide) ?_
        exact fin ls _ 0 (by decide) dX0_isNumberOf_23 (z0 (fun q => ec_6 (q.1 c_1).2))
      · have ec_6 : x ≤ 4294967295 := Int64.not_lt.mp (fun q => c_6 ((lg_cmp_gt _ _).mpr q))
        refine lv_iconst (v := 1) hx hb dX0_isNumberOf_18 (by decide) ?_
        refine lv_goto (tgt := 23) hx hb dX0_isNumberOf_19 (by decide) ?_
        exact fin ls _ 1 (by decide) dX0_isNumberOf_23 (z1 ⟨fun _ => ⟨dc_5, ec_6⟩, fun q => absurd (c_1.symm.trans q) (by decide)⟩)

set_option maxHeartbeats 4000000 in
set_option maxRecDepth 100000 in
theorem c_X0_fitsGroups (l : Launch) (a : Int32) (x : Int64) (i : Nat) : Met l yX0_fitsGroups wsX0_fitsGroups R0 (va_Pc [.int a, .long x, .int (nI i)] (fun _ => True)) (vp_Si (fun r => ¬ r = 0 ↔ gg_fit a x i = true)) 0 0 (fun _ => False) := by
  refine ro_z (cc := cX0_fitsGroups) (maxL := 6) (by decide) rfl (Nat.le_of_ble_eq_true rfl) ?_
  intro p e s m below meth c Q ls hx hb hml hown hts hPU hl fin
  have hown : s.vm.findClass RX0 = some m.cls := hown
  have hl : lv_has ls 6 [(0, .int a), (1, .long x), (3, .int (nI i))] := hl
  refine lv_iload_n hx hb dX0_fitsGroups_0 rfl (lv_at hl 0 rfl) ?_
  refine lv_if_ne (tgt := 21) hx hb dX0_fitsGroups_1 (by decide) (fun c_1 => ?_) (fun c_1 => ?_)
  · refine lv_lload_n hx hb dX0_fitsGroups_21 rfl (lv_at hl 1 rfl) ?_
    refine lv_bipush (v := 7) hx hb dX0_fitsGroups_22 (by decide) ?_
    refine lv_iload_n hx hb dX0_fitsGroups_24 rfl (lv_at hl 2 rfl) ?_
    refine lv_imul hx hb dX0_fitsGroups_25 ?_
    refine lv_iconst (v := 1) hx hb dX0_fitsGroups_26 (by decide) ?_
    refine lv_isub hx hb dX0_fitsGroups_27 ?_
    refine lv_lshr hx hb dX0_fitsGroups_28 rfl ?_
    refine lv_topl (fun y_2 ey_2 => ?_)
    refine lv_lstore (lv' := [(4, .long y_2), (0, .int a), (1, .long x), (3, .int (nI i))]) hx hb dX0_fitsGroups_29 hl (by decide) rfl (fun ls hl => ?_)
    refine lv_lload hx hb dX0_fitsGroups_31 (lv_at hl 0 rfl) ?_
    refine lv_lconst (v := 0) hx hb dX0_fitsGroups_33 (by decide) ?_
    refine W.lcmp hx hb dX0_fitsGroups_34 ?_
    refine lv_if_eq (tgt := 47) hx hb dX0_fitsGroups_35 (by decide) (fun c_3 => ?_) (fun c_3 => ?_)
    · refine lv_iconst (v := 1) hx hb dX0_fitsGroups_47 (by decide) ?_
      refine lv_goto (tgt := 52) hx hb dX0_fitsGroups_48 (by decide) ?_
      exact fin ls _ 1 (by decide) dX0_fitsGroups_52 (z1 (by unfold gg_fit; rw [if_neg c_1, ← ey_2, Bool.or_eq_true, decide_eq_true_eq, decide_eq_true_eq]; exact Or.inl ((lg_cmp_eq _ _).mp c_3)))
    · refine lv_lload hx hb dX0_fitsGroups_38 (lv_at hl 0 rfl) ?_
      refine lv_ldc2 hx hb hown (hts (.constantLong RX0 77 (-1)) (by decide +kernel)) dX0_fitsGroups_40 ?_
      refine W.lcmp hx hb dX0_fitsGroups_43 ?_
      refine lv_if_ne (tgt := 51) hx hb dX0_fitsGroups_44 (by decide) (fun c_4 => ?_) (fun c_4 => ?_)
      · refine lv_iconst (v := 0) hx hb dX0_fitsGroups_51 (by decide) ?_
        exact fin ls _ 0 (by decide) dX0_fitsGroups_52 (z0 (fun q => by unfold gg_fit at q; rw [if_neg c_1, ← ey_2, Bool.or_eq_true, decide_eq_true_eq, decide_eq_true_eq] at q; exact q.elim (fun q => c_3 ((lg_cmp_eq _ _).mpr q)) (fun q => c_4 ((lg_cmp_eq _ _).mpr q))))
      · refine lv_iconst (v := 1) hx hb dX0_fitsGroups_47 (by decide) ?_
        refine lv_goto (tgt := 52) hx hb dX0_fitsGroups_48 (by decide) ?_
        exact fin ls _ 1 (by decide) dX0_fitsGroups_52 (z1 (by unfold gg_fit; rw [if_neg c_1, ← ey_2, Bool.or_eq_true, decide_eq_true_eq, decide_eq_true_eq]; exact Or.inr ((lg_cmp_eq _ _).mp c_4)))
  · refine lv_lload_n hx hb dX0_fitsGroups_4 rfl (lv_at hl 1 rfl) ?_
    refine lv_bipush (v := 7) hx hb dX0_fitsGroups_5 (by decide) ?_
    refine lv_iload_n hx hb dX0_fitsGroups_7 rfl (lv_at hl 2 rfl) ?_
    refine lv_imul hx hb dX0_fitsGroups_8 ?_
    refine lv_lshr hx hb dX0_fitsGroups_9 rfl ?_
    refine lv_lconst (v := 0) hx hb dX0_fitsGroups_10 (by decide) ?_
    refine W.lcmp hx hb dX0_fitsGroups_11 ?_
    refine lv_if_ne (tgt := 19) hx hb dX0_fitsGroups_12 (by decide) (fun c_5 => ?_) (fun c_5 => ?_)
    · refine lv_iconst (v := 0) hx hb dX0_fitsGroups_19 (by decide) ?_
      exact fin ls _ 0 (by decide) dX0_fitsGroups_20 (z0 (fun q => by unfold gg_fit at q; rw [if_pos c_1, decide_eq_true_eq] at q; exact c_5 ((lg_cmp_eq _ _).mpr q)))
    · refine lv_iconst (v := 1) hx hb dX0_fitsGroups_15 (by decide) ?_
      refine lv_goto (tgt := 20) hx hb dX0_fitsGroups_16 (by decide) ?_
      exact fin ls _ 1 (by decide) dX0_fitsGroups_20 (z1 (by unfold gg_fit; rw [if_pos c_1, decide_eq_true_eq]; exact (lg_cmp_eq _ _).mp c_5))

set_option maxHeartbeats 4000000 in
set_option maxRecDepth 100000 in
theorem c_X0_extendSign (l : Launch) (J b i : Nat) (hJ : J < 2 ^ (7 * i)) (hb128 : b < 128) (hi : i ≤ 10) : Met l yX0_extendSign wsX0_extendSign R0 (va_Pc [.long (lN J), .int (nI b), .int (nI i)] (fun _ => True)) (vp_Sl (fun r => r = lN (J + (if 64 ≤ b then 18446744073709551615 * 2 ^ (7 * i) else 0)))) 0 0 (fun _ => False) := by
  refine ro_l (cc := cX0_extendSign) (maxL := 5) (by decide) rfl (Nat.le_of_ble_eq_true rfl) ?_
  intro p e s m below meth c Q ls hx hb hml hown hts hPU hl fin
  have hown : s.vm.findClass RX0 = some m.cls := hown
  have hl : lv_has ls 5 [(0, .long (lN J)), (2, .int (nI b)), (3, .int (nI i))] := hl
  refine lv_bipush (v := 7) hx hb dX0_extendSign_0 (by decide) ?_
  refine lv_iload_n hx hb dX0_extendSign_2 rfl (lv_at hl 2 rfl) ?_
  refine lv_imul hx hb dX0_extendSign_3 ?_
  refine lv_topi (fun z_1 ez_1 => ?_)
  have ez_1 : z_1 = nI (7 * i) := by rw [ez_1]; exact gg_7 i
  subst ez_1
  refine lv_istore (lv' := [(4, .int (nI (7 * i))), (0, .long (lN J)), (2, .int (nI b)), (3, .int (nI i))]) hx hb dX0_extendSign_4 hl (by decide) rfl (fun ls hl => ?_)
  refine lv_iload_n hx hb dX0_extendSign_6 rfl (lv_at hl 2 rfl) ?_
  refine lv_bipush (v := 64) hx hb dX0_extendSign_7 (by decide) ?_
  refine lv_iand hx hb dX0_extendSign_9 ?_
  refine lv_if_eq (tgt := 20) hx hb dX0_extendSign_10 (by decide) (fun c_2 => ?_) (fun c_2 => ?_)
  · refine lv_lload_n hx hb dX0_extendSign_20 rfl (lv_at hl 1 rfl) ?_
    exact fin ls _ (lN J) dX0_extendSign_21 (by rw [if_neg ((gg_and64 b hb128).mp c_2)]; rfl)
  · have dc_2 : 64 ≤ b := Decidable.byContradiction (fun q => c_2 ((gg_and64 b hb128).mpr q))
    refine lv_iload hx hb dX0_extendSign_13 (lv_at hl 0 rfl) ?_
    refine lv_bipush (v := 64) hx hb dX0_extendSign_15 (by decide) ?_
    refine lv_icmp_lt (tgt := 22) hx hb dX0_extendSign_17 (by decide) (fun c_3 => ?_) (fun c_3 => ?_)
    · have ec_3 : 7 * i < 64 := (nI_ltI (b := 64) (by omega) (by decide)).mp c_3
      refine lv_lload_n hx hb dX0_extendSign_22 rfl (lv_at hl 1 rfl) ?_
      refine lv_ldc2 hx hb hown (hts (.constantLong RX0 77 (-1)) (by decide +kernel)) dX0_extendSign_23 ?_
      refine lv_iload hx hb dX0_extendSign_26 (lv_at hl 0 rfl) ?_
      refine lv_lshl hx hb dX0_extendSign_28 rfl ?_
      refine lv_lor hx hb dX0_extendSign_29 ?_
      refine lv_topl (fun z_4 ez_4 => ?_)
      have ez_4 : z_4 = lN (J + 18446744073709551615 * 2 ^ (7 * i)) := by rw [ez_4]; exact gg_ext ec_3 hJ
      subst ez_4
      exact fin ls _ (lN (J + 18446744073709551615 * 2 ^ (7 * i))) dX0_extendSign_30 (by rw [if_pos dc_2])
    · have ec_3 : i = 10 := by
        have q : ¬ 7 * i < 64 := fun q => c_3 ((nI_ltI (b := 64) (by omega) (by decide)).mpr q)
        omega
      refine lv_lload_n hx hb dX0_extendSign_20 rfl (lv_at hl 1 rfl) ?_
      exact fin ls _ (lN J) dX0_extendSign_21 (by rw [if_pos dc_2, ec_3]; exact (gg_ext10 J).symm)
