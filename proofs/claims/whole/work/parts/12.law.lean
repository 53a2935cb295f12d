-- ===== end of PART A; then your names; then what follows =====
/-! THE CLAIM OUT OF ONE WALK OF THE LAW'S BODY. Your part is whole_start (and what it stands on); all else here is the same for every law, but numbers. -/
def R_law : String := "GroupedNumbersLaw"
def lw_P (b : Addr) (xs : List Int32) (args : Array Value) (s : State) : Prop := args = #[.ref b] ∧ s.IntsAt b xs ∧ xs.length ≤ 3072 ∧ (Jvm.Cond.and given_1 narrow_1).before args s = true
def lw_Q (_ : Array Value) (s : State) (o : Outcome) (t : State) : Prop := o = .returned (some (.int 1)) ∧ Framed s o t [] 6 4010
def lw_Z (below : List Frame) (a : Array Value) (s : State) : State → Prop := fun t => ∃ o, t.status = .running ∧ Ended t below o ∧ lw_Q a s o t
/-- the law's own end, with 1 on the stack, nothing written that was there before, its room as the claim has it -/
theorem lw_ret {p : Program} {l : Launch} {e : Env} {s : State} {m : MethodId} {below : List Frame} {meth : Method} {c : Code} {b : Nat} (hx : p.tables.exec = Jvm.exec) (hb : c.code = code) (hr : meth.sig.returnType = ret) (hlocks : meth.locks = false) {pc : Nat} {H : Heap} {ls : Array Slot} (hdg : decode code pc = .ok (.ireturn, 1)) : W p l e room_1 s m #[Value.ref b] below meth c H [] 6 4010 (lw_Z below #[Value.ref b] s) (F0 m pc ls [.int 1]) := by
  intro T hT X
  obtain ⟨fs, hret, hrun, hended, hW, hframe⟩ := X.leave (v := some (.int 1)) (hlocks := hlocks) (fun h => by rw [hr] at h; cases h)
  have hmeth' : T.vm.method? m = some meth := X.method'
  refine ⟨T.setFrames fs, ?_, .returned (some (.int 1)), hrun, hended, rfl, ⟨_, rfl⟩, hW, hframe⟩
  jvm_step X.here [X.here.top, hx, hb, hdg, hmeth', hr, ret, narrow_b1]
  (try refine ⟨rfl, ?_⟩); (try refine ⟨rfl, ?_⟩)
  first | (intro acts; rw [hret _ acts rfl rfl rfl]) | rw [hret _ _ rfl rfl rfl]
  exact Steps.refl _
/-- what holds at the law's entry: the machine, the code, the tables' words (any of lw_tbl by 'hts w (by decide +kernel)'), the script of L ints xs at the cell b, what the Statement gives of the start (any of its parts by flat_of_before) -/
def lw_At (p : Program) (s : State) (m : MethodId) (meth : Method) (c : Code) (b L : Nat) (xs : Nat → Int32) : Prop :=
  p.tables.exec = Jvm.exec ∧ c.code = code ∧ meth.sig.returnType = ret ∧ c.maxLocals = 4 ∧ s.vm.findClass R_law = some m.cls ∧ (∀ w ∈ lw_tbl, w.before #[Value.ref b] s = true) ∧ va_X b L xs s s.heap ∧ b < s.heap.size ∧ meth.locks = false ∧ (Jvm.Cond.and given_1 narrow_1).before #[Value.ref b] s = true

theorem gg_feed_bd {t : Nat → Nat} {n : Nat} {a b c d f : Int32} (hn : n ≤ 1000) : (gg_feed t n a b c d f).2.1 ≤ 1000 := by
  unfold gg_feed
  split
  · assumption
  · exact hn
theorem gg_write_bd {a : Int32} {x : Int64} {k : Nat} {z : Nat → Nat} (hk : k ≤ 1000) : (gg_write a x k z).2.1 ≤ 1000 := by
  unfold gg_write
  split
  · split
    · split
      · assumption
      · exact hk
    · exact hk
  · exact hk
theorem gg_cmp_T {L i : Nat} (hL : L ≤ 3072) (hi : i ≤ L) (h : ¬ Int32.ofNat L - nI 6 < nI i) : i + 6 ≤ L := by
  rw [Int32.lt_iff_toInt_lt, show Int32.ofNat L = nI L from rfl, pk_sub_toInt (by omega) (by decide), nI_toInt (by omega)] at h
  omega

set_option maxHeartbeats 4000000 in
set_option maxRecDepth 100000 in
/-- the law's loop: at its head both objects hold the same row, the same output, the same value -/
theorem law_loop {p : Program} {l : Launch} {e : Env} {s : State} {m : MethodId} {below : List Frame} {meth : Method} {c : Code} {dC : Nat → ClassId} {dI : Nat → Nat → Nat} {b L : Nat} {xs : Nat → Int32} (hL : L ≤ 3072) (C0 : lw_At p s m meth c b L xs) {a0 ar ao b0 br bo : Nat} {cA cB cC cD : ClassId} (hK : va_K (dC, dI) vwCl (ty0 cA cB ++ ty1 cC cD) s) :
    ∀ (f i : Nat) (t z : Nat → Nat) (n k : Nat) (v : Int64) (g o gm om : Nat → Int32) (H : Heap) (locs : List Loc) (ls : Array Slot), i ≤ L → L + 1 ≤ i + f → n ≤ 1000 → k ≤ 1000 → gg_I t n g → gg_I z k o → sb_Lat t n gm → sb_Lat z k om → va_P (dC, dI) vwCl (w0 a0 ar ao cA cB g o (nI n) (nI k) v ++ w1 b0 br bo cC cD gm om (nI n) (nI k) v) H → va_D (fun q : Nat => s.heap.size ≤ q) (w0 a0 ar ao cA cB g o (nI n) (nI k) v ++ w1 b0 br bo cC cD gm om (nI n) (nI k) v) → va_S (fun q : Nat => s.heap.size ≤ q) s.heap H locs → lv_has ls 4 [(0, .ref b), (1, .ref a0), (2, .ref b0), (3, .int (nI i))] → W p l e room_1 s m #[Value.ref b] below meth c H locs 6 4010 (lw_Z below #[Value.ref b] s) (F0 m 18 ls []) := by
  obtain ⟨hx, hb, hr, hml, hown, hts0, hX, hbl, hlocks, hgv⟩ := C0
  have hb : c.code = cL_law := hb
  have hown : s.vm.findClass RL = some m.cls := hown
  have hts : ∀ w ∈ wsL_law, w.before #[Value.ref b] s = true := fun w h => hts0 w (wsL_law_in w h)
  have hA : ∀ q : Nat, s.heap.size ≤ q → (fun q : Nat => s.heap.size ≤ q) q := fun _ h => h
  have hbA : ¬ (fun q : Nat => s.heap.size ≤ q) b := Nat.not_le.mpr hbl
  have hK0 := hK.sub (tys' := ty0 cA cB) [0, 1] rfl
  have hK1 := hK.sub (tys' := ty1 cC cD) [2, 3] rfl
  intro f
  induction f with
  | zero => intro i t z n k v g o gm om H locs ls h1 h2
            exact absurd h2 (by omega)
  | succ f ih =>
    intro i t z n k v g o gm om H locs ls hi hf hn hk hI hO hJ hU hP hD hS hl
    refine lv_iload_n hx hb dL_law_18 rfl (lv_at hl 3 rfl) ?_
    refine lv_aload_n hx hb dL_law_19 rfl (lv_at hl 0 rfl) ?_
    refine va_slen hx hb hX hbl hbA hS dL_law_20 ?_
    refine lv_bipush (v := nI 6) hx hb dL_law_21 (by decide) ?_
    refine lv_isub hx hb dL_law_23 ?_
    refine lv_icmp_gt (tgt := 329) hx hb dL_law_24 (by decide) (fun c_1 => ?_) (fun c_1 => ?_)
    · refine lv_iconst (v := 1) hx hb dL_law_329 (by decide) ?_
      refine va_forget (fun q hq => hS.2.2 q hq) ?_
      refine W.widen (k := 6) (n := 4010) (Nat.le_refl _) (Nat.le_refl _) ?_
      exact lw_ret hx hb hr hlocks dL_law_330
    · have h6 : i + 6 ≤ L := gg_cmp_T hL hi c_1
      refine lv_aload_n hx hb dL_law_27 rfl (lv_at hl 0 rfl) ?_
      refine lv_iload_n hx hb dL_law_28 rfl (lv_at hl 3 rfl) ?_
      refine va_sld hx hb hX hbl hbA hS (vp_in_nI (show i < L by omega) (by omega)) dL_law_29 ?_
      refine lv_topi (fun z_2 ez_2 => ?_)
      have ez_2 : z_2 = xs (i) := by rw [ez_2]; rw [nI_clamp (show i < 2 ^ 31 by omega)]
      subst ez_2
      refine lv_bipush (v := 7) hx hb dL_law_30 (by decide) ?_
      refine lv_iand hx hb dL_law_32 ?_
      obtain ⟨q, hq, eq⟩ := pk_andE (xs i) (m := 7) 3 (by decide)
      refine lv_topi (fun z_3 ez_3 => ?_)
      have ez_3 : z_3 = nI q := by rw [ez_3]; exact eq
      subst ez_3
      have hq8 : q < 8 := hq
      rcases (show q = 0 ∨ q = 1 ∨ q = 2 ∨ q = 3 ∨ q = 4 ∨ q = 5 ∨ q = 6 ∨ q = 7 by omega) with rfl | rfl | rfl | rfl | rfl | rfl | rfl | rfl
      · refine lv_tableIn (off := 47) (tgt := 80) hx hb dL_law_33 (by decide) (by decide) (by decide +kernel) (by decide) ?_
        refine lv_aload_n hx hb dL_law_80 rfl (lv_at hl 1 rfl) ?_
        refine lv_aload_n hx hb dL_law_81 rfl (lv_at hl 0 rfl) ?_
        refine lv_iload_n hx hb dL_law_82 rfl (lv_at hl 3 rfl) ?_
        refine lv_iconst (v := nI 1) hx hb dL_law_83 (by decide) ?_
        refine lv_iadd hx hb dL_law_84 ?_
        refine lv_topi (fun z_4 ez_4 => ?_)
        have ez_4 : z_4 = nI (i + 1) := by rw [ez_4]; exact nI_add i 1
        subst ez_4
        refine va_sld hx hb hX hbl hbA hS (vp_in_nI (show i + 1 < L by omega) (by omega)) dL_law_85 ?_
        refine lv_topi (fun z_5 ez_5 => ?_)
        have ez_5 : z_5 = xs (i + 1) := by rw [ez_5]; rw [nI_clamp (show i + 1 < 2 ^ 31 by omega)]
        subst ez_5
        refine lv_aload_n hx hb dL_law_86 rfl (lv_at hl 0 rfl) ?_
        refine lv_iload_n hx hb dL_law_87 rfl (lv_at hl 3 rfl) ?_
        refine lv_iconst (v := nI 2) hx hb dL_law_88 (by decide) ?_
        refine lv_iadd hx hb dL_law_89 ?_
        refine lv_topi (fun z_6 ez_6 => ?_)
        have ez_6 : z_6 = nI (i + 2) := by rw [ez_6]; exact nI_add i 2
        subst ez_6
        refine va_sld hx hb hX hbl hbA hS (vp_in_nI (show i + 2 < L by omega) (by omega)) dL_law_90 ?_
        refine lv_topi (fun z_7 ez_7 => ?_)
        have ez_7 : z_7 = xs (i + 2) := by rw [ez_7]; rw [nI_clamp (show i + 2 < 2 ^ 31 by omega)]
        subst ez_7
        refine lv_aload_n hx hb dL_law_91 rfl (lv_at hl 0 rfl) ?_
        refine lv_iload_n hx hb dL_law_92 rfl (lv_at hl 3 rfl) ?_
        refine lv_iconst (v := nI 3) hx hb dL_law_93 (by decide) ?_
        refine lv_iadd hx hb dL_law_94 ?_
        refine lv_topi (fun z_8 ez_8 => ?_)
        have ez_8 : z_8 = nI (i + 3) := by rw [ez_8]; exact nI_add i 3
        subst ez_8
        refine va_sld hx hb hX hbl hbA hS (vp_in_nI (show i + 3 < L by omega) (by omega)) dL_law_95 ?_
        refine lv_topi (fun z_9 ez_9 => ?_)
        have ez_9 : z_9 = xs (i + 3) := by rw [ez_9]; rw [nI_clamp (show i + 3 < 2 ^ 31 by omega)]
        subst ez_9
        refine lv_aload_n hx hb dL_law_96 rfl (lv_at hl 0 rfl) ?_
        refine lv_iload_n hx hb dL_law_97 rfl (lv_at hl 3 rfl) ?_
        refine lv_iconst (v := nI 4) hx hb dL_law_98 (by decide) ?_
        refine lv_iadd hx hb dL_law_99 ?_
        refine lv_topi (fun z_10 ez_10 => ?_)
        have ez_10 : z_10 = nI (i + 4) := by rw [ez_10]; exact nI_add i 4
        subst ez_10
        refine va_sld hx hb hX hbl hbA hS (vp_in_nI (show i + 4 < L by omega) (by omega)) dL_law_100 ?_
        refine lv_topi (fun z_11 ez_11 => ?_)
        have ez_11 : z_11 = xs (i + 4) := by rw [ez_11]; rw [nI_clamp (show i + 4 < 2 ^ 31 by omega)]
        subst ez_11
        refine lv_aload_n hx hb dL_law_101 rfl (lv_at hl 0 rfl) ?_
        refine lv_iload_n hx hb dL_law_102 rfl (lv_at hl 3 rfl) ?_
        refine lv_iconst (v := nI 5) hx hb dL_law_103 (by decide) ?_
        refine lv_iadd hx hb dL_law_104 ?_
        refine lv_topi (fun z_12 ez_12 => ?_)
        have ez_12 : z_12 = nI (i + 5) := by rw [ez_12]; exact nI_add i 5
        subst ez_12
        refine va_sld hx hb hX hbl hbA hS (vp_in_nI (show i + 5 < L by omega) (by omega)) dL_law_105 ?_
        refine lv_topi (fun z_13 ez_13 => ?_)
        have ez_13 : z_13 = xs (i + 5) := by rw [ez_13]; rw [nI_clamp (show i + 5 < 2 ^ 31 by omega)]
        subst ez_13
        refine cc_mi (av := [.int (xs (i + 1)), .int (xs (i + 2)), .int (xs (i + 3)), .int (xs (i + 4)), .int (xs (i + 5))]) (rest := []) [0, 1, 2] [3, 4, 5] ⟨hx, hb, hml, hown, hts⟩ (c_X0_feed l dC dI a0 ar ao cA cB H.size g o n k v t z (xs (i + 1)) (xs (i + 2)) (xs (i + 3)) (xs (i + 4)) (xs (i + 5)) hI hO hn hk) (cwV 5 hts gL_law_X0_feed rfl rfl rfl (by decide +kernel) ⟨Nat.le_of_ble_eq_true rfl, Nat.le_of_ble_eq_true rfl⟩) hP hD hS hA hK0 (wr := w1 b0 br bo cC cD gm om (nI n) (nI k) v) rfl rfl (by decide) (by decide) (by decide) (ci := 0) rfl rfl rfl hl.1 rfl (Nat.le_of_ble_eq_true rfl) dL_law_106 ⟨Nat.le_of_ble_eq_true rfl, Nat.le_of_ble_eq_true rfl⟩ (fun r u H locs hw hP hD hS => ?_)
        obtain ⟨g1, o1, n1, k1, v1⟩ := u
        obtain ⟨hr1, hI1, hO1, en, ek, ev⟩ := hw
        dsimp only at hI1 hO1 en ek ev
        subst en
        subst ek
        have ev := ev.symm
        subst ev
        have hP : va_P (dC, dI) vwCl (w1 b0 br bo cC cD gm om (nI n) (nI k) v ++ w0 a0 ar ao cA cB g1 o1 (nI ((gg_feed t n (xs (i + 1)) (xs (i + 2)) (xs (i + 3)) (xs (i + 4)) (xs (i + 5))).2.1)) (nI (k)) v) H := hP
        have hD : va_D (fun q : Nat => s.heap.size ≤ q) (w1 b0 br bo cC cD gm om (nI n) (nI k) v ++ w0 a0 ar ao cA cB g1 o1 (nI ((gg_feed t n (xs (i + 1)) (xs (i + 2)) (xs (i + 3)) (xs (i + 4)) (xs (i + 5))).2.1)) (nI (k)) v) := hD
        subst hr1
        refine lv_aload_n hx hb dL_law_109 rfl (lv_at hl 2 rfl) ?_
        refine lv_aload_n hx hb dL_law_110 rfl (lv_at hl 0 rfl) ?_
        refine lv_iload_n hx hb dL_law_111 rfl (lv_at hl 3 rfl) ?_
        refine lv_iconst (v := nI 1) hx hb dL_law_112 (by decide) ?_
        refine lv_iadd hx hb dL_law_113 ?_
        refine lv_topi (fun z_14 ez_14 => ?_)
        have ez_14 : z_14 = nI (i + 1) := by rw [ez_14]; exact nI_add i 1
        subst ez_14
        refine va_sld hx hb hX hbl hbA hS (vp_in_nI (show i + 1 < L by omega) (by omega)) dL_law_114 ?_
        refine lv_topi (fun z_15 ez_15 => ?_)
        have ez_15 : z_15 = xs (i + 1) := by rw [ez_15]; rw [nI_clamp (show i + 1 < 2 ^ 31 by omega)]
        subst ez_15
        refine lv_aload_n hx hb dL_law_115 rfl (lv_at hl 0 rfl) ?_
        refine lv_iload_n hx hb dL_law_116 rfl (lv_at hl 3 rfl) ?_
        refine lv_iconst (v := nI 2) hx hb dL_law_117 (by decide) ?_
        refine lv_iadd hx hb dL_law_118 ?_
        refine lv_topi (fun z_16 ez_16 => ?_)
        have ez_16 : z_16 = nI (i + 2) := by rw [ez_16]; exact nI_add i 2
        subst ez_16
        refine va_sld hx hb hX hbl hbA hS (vp_in_nI (show i + 2 < L by omega) (by omega)) dL_law_119 ?_
        refine lv_topi (fun z_17 ez_17 => ?_)
        have ez_17 : z_17 = xs (i + 2) := by rw [ez_17]; rw [nI_clamp (show i + 2 < 2 ^ 31 by omega)]
        subst ez_17
        refine lv_aload_n hx hb dL_law_120 rfl (lv_at hl 0 rfl) ?_
        refine lv_iload_n hx hb dL_law_121 rfl (lv_at hl 3 rfl) ?_
        refine lv_iconst (v := nI 3) hx hb dL_law_122 (by decide) ?_
        refine lv_iadd hx hb dL_law_123 ?_
        refine lv_topi (fun z_18 ez_18 => ?_)
        have ez_18 : z_18 = nI (i + 3) := by rw [ez_18]; exact nI_add i 3
        subst ez_18
        refine va_sld hx hb hX hbl hbA hS (vp_in_nI (show i + 3 < L by omega) (by omega)) dL_law_124 ?_
        refine lv_topi (fun z_19 ez_19 => ?_)
        have ez_19 : z_19 = xs (i + 3) := by rw [ez_19]; rw [nI_clamp (show i + 3 < 2 ^ 31 by omega)]
        subst ez_19
        refine lv_aload_n hx hb dL_law_125 rfl (lv_at hl 0 rfl) ?_
        refine lv_iload_n hx hb dL_law_126 rfl (lv_at hl 3 rfl) ?_
        refine lv_iconst (v := nI 4) hx hb dL_law_127 (by decide) ?_
        refine lv_iadd hx hb dL_law_128 ?_
        refine lv_topi (fun z_20 ez_20 => ?_)
        have ez_20 : z_20 = nI (i + 4) := by rw [ez_20]; exact nI_add i 4
        subst ez_20
        refine va_sld hx hb hX hbl hbA hS (vp_in_nI (show i + 4 < L by omega) (by omega)) dL_law_129 ?_
        refine lv_topi (fun z_21 ez_21 => ?_)
        have ez_21 : z_21 = xs (i + 4) := by rw [ez_21]; rw [nI_clamp (show i + 4 < 2 ^ 31 by omega)]
        subst ez_21
        refine lv_aload_n hx hb dL_law_130 rfl (lv_at hl 0 rfl) ?_
        refine lv_iload_n hx hb dL_law_131 rfl (lv_at hl 3 rfl) ?_
        refine lv_iconst (v := nI 5) hx hb dL_law_132 (by decide) ?_
        refine lv_iadd hx hb dL_law_133 ?_
        refine lv_topi (fun z_22 ez_22 => ?_)
        have ez_22 : z_22 = nI (i + 5) := by rw [ez_22]; exact nI_add i 5
        subst ez_22
        refine va_sld hx hb hX hbl hbA hS (vp_in_nI (show i + 5 < L by omega) (by omega)) dL_law_134 ?_
        refine lv_topi (fun z_23 ez_23 => ?_)
        have ez_23 : z_23 = xs (i + 5) := by rw [ez_23]; rw [nI_clamp (show i + 5 < 2 ^ 31 by omega)]
        subst ez_23
        refine cc_mi (av := [.int (xs (i + 1)), .int (xs (i + 2)), .int (xs (i + 3)), .int (xs (i + 4)), .int (xs (i + 5))]) (rest := [.int ((gg_feed t n (xs (i + 1)) (xs (i + 2)) (xs (i + 3)) (xs (i + 4)) (xs (i + 5))).1)]) [0, 1, 2] [3, 4, 5] ⟨hx, hb, hml, hown, hts⟩ (c_X1_feed l dC dI b0 br bo cC cD H.size gm om n k v t z (xs (i + 1)) (xs (i + 2)) (xs (i + 3)) (xs (i + 4)) (xs (i + 5)) hJ hU hn hk) (cwV 5 hts gL_law_X1_feed rfl rfl rfl (by decide +kernel) ⟨Nat.le_of_ble_eq_true rfl, Nat.le_of_ble_eq_true rfl⟩) hP hD hS hA hK1 (wr := w0 a0 ar ao cA cB g1 o1 (nI ((gg_feed t n (xs (i + 1)) (xs (i + 2)) (xs (i + 3)) (xs (i + 4)) (xs (i + 5))).2.1)) (nI (k)) v) rfl rfl (by decide) (by decide) (by decide) (ci := 1) rfl rfl rfl hl.1 rfl (Nat.le_of_ble_eq_true rfl) dL_law_135 ⟨Nat.le_of_ble_eq_true rfl, Nat.le_of_ble_eq_true rfl⟩ (fun r u H locs hw hP hD hS => ?_)
        obtain ⟨gm1, om1, n1, k1, v1⟩ := u
        obtain ⟨hr2, hJ1, hU1, en, ek, ev⟩ := hw
        dsimp only at hJ1 hU1 en ek ev
        subst en
        subst ek
        have ev := ev.symm
        subst ev
        have hP : va_P (dC, dI) vwCl (w0 a0 ar ao cA cB g1 o1 (nI ((gg_feed t n (xs (i + 1)) (xs (i + 2)) (xs (i + 3)) (xs (i + 4)) (xs (i + 5))).2.1)) (nI (k)) v ++ w1 b0 br bo cC cD gm1 om1 (nI ((gg_feed t n (xs (i + 1)) (xs (i + 2)) (xs (i + 3)) (xs (i + 4)) (xs (i + 5))).2.1)) (nI (k)) v) H := hP
        have hD : va_D (fun q : Nat => s.heap.size ≤ q) (w0 a0 ar ao cA cB g1 o1 (nI ((gg_feed t n (xs (i + 1)) (xs (i + 2)) (xs (i + 3)) (xs (i + 4)) (xs (i + 5))).2.1)) (nI (k)) v ++ w1 b0 br bo cC cD gm1 om1 (nI ((gg_feed t n (xs (i + 1)) (xs (i + 2)) (xs (i + 3)) (xs (i + 4)) (xs (i + 5))).2.1)) (nI (k)) v) := hD
        refine lv_icmp_eq (tgt := 323) hx hb dL_law_138 (by decide) (fun c_24 => ?_) (fun c_24 => ?_)
        · refine lv_iinc (v := nI (i + 6)) (lv' := [(3, .int (nI (i + 6))), (0, .ref b), (1, .ref a0), (2, .ref b0)]) hx hb dL_law_323 hl (k := 3) rfl (show nI i + 6 = nI (i + 6) from nI_add i 6) (by decide) rfl (fun ls hl => ?_)
          refine lv_goto (tgt := 18) hx hb dL_law_326 (by decide) ?_
          exact ih (i + 6) ((gg_feed t n (xs (i + 1)) (xs (i + 2)) (xs (i + 3)) (xs (i + 4)) (xs (i + 5))).2.2) (z) ((gg_feed t n (xs (i + 1)) (xs (i + 2)) (xs (i + 3)) (xs (i + 4)) (xs (i + 5))).2.1) (k) _ g1 o1 gm1 om1 H locs ls (by omega) (by omega) (gg_feed_bd hn) (hk) hI1 hO1 hJ1 hU1 hP hD hS (lv_sub hl [1, 2, 3, 0] rfl)
        · exact absurd hr2.symm c_24
      · refine lv_tableIn (off := 110) (tgt := 143) hx hb dL_law_33 (by decide) (by decide) (by decide +kernel) (by decide) ?_
        refine lv_aload_n hx hb dL_law_143 rfl (lv_at hl 1 rfl) ?_
        refine lv_aload_n hx hb dL_law_144 rfl (lv_at hl 0 rfl) ?_
        refine lv_iload_n hx hb dL_law_145 rfl (lv_at hl 3 rfl) ?_
        refine lv_iconst (v := nI 1) hx hb dL_law_146 (by decide) ?_
        refine lv_iadd hx hb dL_law_147 ?_
        refine lv_topi (fun z_25 ez_25 => ?_)
        have ez_25 : z_25 = nI (i + 1) := by rw [ez_25]; exact nI_add i 1
        subst ez_25
        refine va_sld hx hb hX hbl hbA hS (vp_in_nI (show i + 1 < L by omega) (by omega)) dL_law_148 ?_
        refine lv_topi (fun z_26 ez_26 => ?_)
        have ez_26 : z_26 = xs (i + 1) := by rw [ez_26]; rw [nI_clamp (show i + 1 < 2 ^ 31 by omega)]
        subst ez_26
        refine cc_mi (av := [.int (xs (i + 1))]) (rest := []) [0, 1, 2] [3, 4, 5] ⟨hx, hb, hml, hown, hts⟩ (c_X0_end l dC dI a0 ar ao cA cB H.size g o n k v t z (xs (i + 1)) hI hO hn hk) (cwV 1 hts gL_law_X0_end rfl rfl rfl (by decide +kernel) ⟨Nat.le_of_ble_eq_true rfl, Nat.le_of_ble_eq_true rfl⟩) hP hD hS hA hK0 (wr := w1 b0 br bo cC cD gm om (nI n) (nI k) v) rfl rfl (by decide) (by decide) (by decide) (ci := 0) rfl rfl rfl hl.1 rfl (Nat.le_of_ble_eq_true rfl) dL_law_149 ⟨Nat.le_of_ble_eq_true rfl, Nat.le_of_ble_eq_true rfl⟩ (fun r u H locs hw hP hD hS => ?_)
        obtain ⟨g1, o1, n1, k1, v1⟩ := u
        obtain ⟨hr1, hI1, hO1, en, ek, ev⟩ := hw
        dsimp only at hI1 hO1 en ek ev
        subst en
        subst ek
        have ev := ev.symm
        subst ev
        have hP : va_P (dC, dI) vwCl (w1 b0 br bo cC cD gm om (nI n) (nI k) v ++ w0 a0 ar ao cA cB g1 o1 (nI ((gg_end (xs (i + 1)) n).2)) (nI (k)) v) H := hP
        have hD : va_D (fun q : Nat => s.heap.size ≤ q) (w1 b0 br bo cC cD gm om (nI n) (nI k) v ++ w0 a0 ar ao cA cB g1 o1 (nI ((gg_end (xs (i + 1)) n).2)) (nI (k)) v) := hD
        subst hr1
        refine lv_aload_n hx hb dL_law_152 rfl (lv_at hl 2 rfl) ?_
        refine lv_aload_n hx hb dL_law_153 rfl (lv_at hl 0 rfl) ?_
        refine lv_iload_n hx hb dL_law_154 rfl (lv_at hl 3 rfl) ?_
        refine lv_iconst (v := nI 1) hx hb dL_law_155 (by decide) ?_
        refine lv_iadd hx hb dL_law_156 ?_
        refine lv_topi (fun z_27 ez_27 => ?_)
        have ez_27 : z_27 = nI (i + 1) := by rw [ez_27]; exact nI_add i 1
        subst ez_27
        refine va_sld hx hb hX hbl hbA hS (vp_in_nI (show i + 1 < L by omega) (by omega)) dL_law_157 ?_
        refine lv_topi (fun z_28 ez_28 => ?_)
        have ez_28 : z_28 = xs (i + 1) := by rw [ez_28]; rw [nI_clamp (show i + 1 < 2 ^ 31 by omega)]
        subst ez_28
        refine cc_mi (av := [.int (xs (i + 1))]) (rest := [.int ((gg_end (xs (i + 1)) n).1)]) [0, 1, 2] [3, 4, 5] ⟨hx, hb, hml, hown, hts⟩ (c_X1_end l dC dI b0 br bo cC cD H.size gm om n k v t z (xs (i + 1)) hJ hU hn hk) (cwV 1 hts gL_law_X1_end rfl rfl rfl (by decide +kernel) ⟨Nat.le_of_ble_eq_true rfl, Nat.le_of_ble_eq_true rfl⟩) hP hD hS hA hK1 (wr := w0 a0 ar ao cA cB g1 o1 (nI ((gg_end (xs (i + 1)) n).2)) (nI (k)) v) rfl rfl (by decide) (by decide) (by decide) (ci := 1) rfl rfl rfl hl.1 rfl (Nat.le_of_ble_eq_true rfl) dL_law_158 ⟨Nat.le_of_ble_eq_true rfl, Nat.le_of_ble_eq_true rfl⟩ (fun r u H locs hw hP hD hS => ?_)
        obtain ⟨gm1, om1, n1, k1, v1⟩ := u
        obtain ⟨hr2, hJ1, hU1, en, ek, ev⟩ := hw
        dsimp only at hJ1 hU1 en ek ev
        subst en
        subst ek
        have ev := ev.symm
        subst ev
        have hP : va_P (dC, dI) vwCl (w0 a0 ar ao cA cB g1 o1 (nI ((gg_end (xs (i + 1)) n).2)) (nI (k)) v ++ w1 b0 br bo cC cD gm1 om1 (nI ((gg_end (xs (i + 1)) n).2)) (nI (k)) v) H := hP
        have hD : va_D (fun q : Nat => s.heap.size ≤ q) (w0 a0 ar ao cA cB g1 o1 (nI ((gg_end (xs (i + 1)) n).2)) (nI (k)) v ++ w1 b0 br bo cC cD gm1 om1 (nI ((gg_end (xs (i + 1)) n).2)) (nI (k)) v) := hD
        refine lv_icmp_eq (tgt := 323) hx hb dL_law_161 (by decide) (fun c_29 => ?_) (fun c_29 => ?_)
        · refine lv_iinc (v := nI (i + 6)) (lv' := [(3, .int (nI (i + 6))), (0, .ref b), (1, .ref a0), (2, .ref b0)]) hx hb dL_law_323 hl (k := 3) rfl (show nI i + 6 = nI (i + 6) from nI_add i 6) (by decide) rfl (fun ls hl => ?_)
          refine lv_goto (tgt := 18) hx hb dL_law_326 (by decide) ?_
          exact ih (i + 6) (t) (z) ((gg_end (xs (i + 1)) n).2) (k) _ g1 o1 gm1 om1 H locs ls (by omega) (by omega) (Nat.le_trans (gg_end_bd hn) hn) (hk) hI1 hO1 hJ1 hU1 hP hD hS (lv_sub hl [1, 2, 3, 0] rfl)
        · exact absurd hr2.symm c_29
      · refine lv_tableIn (off := 133) (tgt := 166) hx hb dL_law_33 (by decide) (by decide) (by decide +kernel) (by decide) ?_
        refine lv_aload_n hx hb dL_law_166 rfl (lv_at hl 1 rfl) ?_
        refine lv_aload_n hx hb dL_law_167 rfl (lv_at hl 0 rfl) ?_
        refine lv_iload_n hx hb dL_law_168 rfl (lv_at hl 3 rfl) ?_
        refine lv_iconst (v := nI 1) hx hb dL_law_169 (by decide) ?_
        refine lv_iadd hx hb dL_law_170 ?_
        refine lv_topi (fun z_30 ez_30 => ?_)
        have ez_30 : z_30 = nI (i + 1) := by rw [ez_30]; exact nI_add i 1
        subst ez_30
        refine va_sld hx hb hX hbl hbA hS (vp_in_nI (show i + 1 < L by omega) (by omega)) dL_law_171 ?_
        refine lv_topi (fun z_31 ez_31 => ?_)
        have ez_31 : z_31 = xs (i + 1) := by rw [ez_31]; rw [nI_clamp (show i + 1 < 2 ^ 31 by omega)]
        subst ez_31
        refine lv_aload_n hx hb dL_law_172 rfl (lv_at hl 0 rfl) ?_
        refine lv_iload_n hx hb dL_law_173 rfl (lv_at hl 3 rfl) ?_
        refine lv_iconst (v := nI 2) hx hb dL_law_174 (by decide) ?_
        refine lv_iadd hx hb dL_law_175 ?_
        refine lv_topi (fun z_32 ez_32 => ?_)
        have ez_32 : z_32 = nI (i + 2) := by rw [ez_32]; exact nI_add i 2
        subst ez_32
        refine va_sld hx hb hX hbl hbA hS (vp_in_nI (show i + 2 < L by omega) (by omega)) dL_law_176 ?_
        refine lv_topi (fun z_33 ez_33 => ?_)
        have ez_33 : z_33 = xs (i + 2) := by rw [ez_33]; rw [nI_clamp (show i + 2 < 2 ^ 31 by omega)]
        subst ez_33
        refine cc_mi (av := [.int (xs (i + 1)), .int (xs (i + 2))]) (rest := []) [0, 1, 2] [3, 4, 5] ⟨hx, hb, hml, hown, hts⟩ (c_X0_read l dC dI a0 ar ao cA cB H.size g o n k v t z (xs (i + 1)) (xs (i + 2)) hI hO hn hk) (cwV 2 hts gL_law_X0_read rfl rfl rfl (by decide +kernel) ⟨Nat.le_of_ble_eq_true rfl, Nat.le_of_ble_eq_true rfl⟩) hP hD hS hA hK0 (wr := w1 b0 br bo cC cD gm om (nI n) (nI k) v) rfl rfl (by decide) (by decide) (by decide) (ci := 0) rfl rfl rfl hl.1 rfl (Nat.le_of_ble_eq_true rfl) dL_law_177 ⟨Nat.le_of_ble_eq_true rfl, Nat.le_of_ble_eq_true rfl⟩ (fun r u H locs hw hP hD hS => ?_)
        obtain ⟨g1, o1, n1, k1, v1⟩ := u
        obtain ⟨hr1, hI1, hO1, en, ek, ev⟩ := hw
        dsimp only at hI1 hO1 en ek ev
        subst en
        subst ek
        have ev := ev.symm
        subst ev
        have hP : va_P (dC, dI) vwCl (w1 b0 br bo cC cD gm om (nI n) (nI k) v ++ w0 a0 ar ao cA cB g1 o1 (nI (n)) (nI (k)) ((gg_read (xs (i + 1)) (xs (i + 2)) t n v).2)) H := hP
        have hD : va_D (fun q : Nat => s.heap.size ≤ q) (w1 b0 br bo cC cD gm om (nI n) (nI k) v ++ w0 a0 ar ao cA cB g1 o1 (nI (n)) (nI (k)) ((gg_read (xs (i + 1)) (xs (i + 2)) t n v).2)) := hD
        subst hr1
        refine lv_aload_n hx hb dL_law_180 rfl (lv_at hl 2 rfl) ?_
        refine lv_aload_n hx hb dL_law_181 rfl (lv_at hl 0 rfl) ?_
        refine lv_iload_n hx hb dL_law_182 rfl (lv_at hl 3 rfl) ?_
        refine lv_iconst (v := nI 1) hx hb dL_law_183 (by decide) ?_
        refine lv_iadd hx hb dL_law_184 ?_
        refine lv_topi (fun z_34 ez_34 => ?_)
        have ez_34 : z_34 = nI (i + 1) := by rw [ez_34]; exact nI_add i 1
        subst ez_34
        refine va_sld hx hb hX hbl hbA hS (vp_in_nI (show i + 1 < L by omega) (by omega)) dL_law_185 ?_
        refine lv_topi (fun z_35 ez_35 => ?_)
        have ez_35 : z_35 = xs (i + 1) := by rw [ez_35]; rw [nI_clamp (show i + 1 < 2 ^ 31 by omega)]
        subst ez_35
        refine lv_aload_n hx hb dL_law_186 rfl (lv_at hl 0 rfl) ?_
        refine lv_iload_n hx hb dL_law_187 rfl (lv_at hl 3 rfl) ?_
        refine lv_iconst (v := nI 2) hx hb dL_law_188 (by decide) ?_
        refine lv_iadd hx hb dL_law_189 ?_
        refine lv_topi (fun z_36 ez_36 => ?_)
        have ez_36 : z_36 = nI (i + 2) := by rw [ez_36]; exact nI_add i 2
        subst ez_36
        refine va_sld hx hb hX hbl hbA hS (vp_in_nI (show i + 2 < L by omega) (by omega)) dL_law_190 ?_
        refine lv_topi (fun z_37 ez_37 => ?_)
        have ez_37 : z_37 = xs (i + 2) := by rw [ez_37]; rw [nI_clamp (show i + 2 < 2 ^ 31 by omega)]
        subst ez_37
        refine cc_mi (av := [.int (xs (i + 1)), .int (xs (i + 2))]) (rest := [.int ((gg_read (xs (i + 1)) (xs (i + 2)) t n v).1)]) [0, 1, 2] [3, 4, 5] ⟨hx, hb, hml, hown, hts⟩ (c_X1_read l dC dI b0 br bo cC cD H.size gm om n k v t z (xs (i + 1)) (xs (i + 2)) hJ hU hn hk) (cwV 2 hts gL_law_X1_read rfl rfl rfl (by decide +kernel) ⟨Nat.le_of_ble_eq_true rfl, Nat.le_of_ble_eq_true rfl⟩) hP hD hS hA hK1 (wr := w0 a0 ar ao cA cB g1 o1 (nI (n)) (nI (k)) ((gg_read (xs (i + 1)) (xs (i + 2)) t n v).2)) rfl rfl (by decide) (by decide) (by decide) (ci := 1) rfl rfl rfl hl.1 rfl (Nat.le_of_ble_eq_true rfl) dL_law_191 ⟨Nat.le_of_ble_eq_true rfl, Nat.le_of_ble_eq_true rfl⟩ (fun r u H locs hw hP hD hS => ?_)
        obtain ⟨gm1, om1, n1, k1, v1⟩ := u
        obtain ⟨hr2, hJ1, hU1, en, ek, ev⟩ := hw
        dsimp only at hJ1 hU1 en ek ev
        subst en
        subst ek
        have ev := ev.symm
        subst ev
        have hP : va_P (dC, dI) vwCl (w0 a0 ar ao cA cB g1 o1 (nI (n)) (nI (k)) ((gg_read (xs (i + 1)) (xs (i + 2)) t n v).2) ++ w1 b0 br bo cC cD gm1 om1 (nI (n)) (nI (k)) ((gg_read (xs (i + 1)) (xs (i + 2)) t n v).2)) H := hP
        have hD : va_D (fun q : Nat => s.heap.size ≤ q) (w0 a0 ar ao cA cB g1 o1 (nI (n)) (nI (k)) ((gg_read (xs (i + 1)) (xs (i + 2)) t n v).2) ++ w1 b0 br bo cC cD gm1 om1 (nI (n)) (nI (k)) ((gg_read (xs (i + 1)) (xs (i + 2)) t n v).2)) := hD
        refine lv_icmp_eq (tgt := 323) hx hb dL_law_194 (by decide) (fun c_38 => ?_) (fun c_38 => ?_)
        · refine lv_iinc (v := nI (i + 6)) (lv' := [(3, .int (nI (i + 6))), (0, .ref b), (1, .ref a0), (2, .ref b0)]) hx hb dL_law_323 hl (k := 3) rfl (show nI i + 6 = nI (i + 6) from nI_add i 6) (by decide) rfl (fun ls hl => ?_)
          refine lv_goto (tgt := 18) hx hb dL_law_326 (by decide) ?_
          exact ih (i + 6) (t) (z) (n) (k) _ g1 o1 gm1 om1 H locs ls (by omega) (by omega) (hn) (hk) hI1 hO1 hJ1 hU1 hP hD hS (lv_sub hl [1, 2, 3, 0] rfl)
        · exact absurd hr2.symm c_38
      · refine lv_tableIn (off := 166) (tgt := 199) hx hb dL_law_33 (by decide) (by decide) (by decide +kernel) (by decide) ?_
        refine lv_aload_n hx hb dL_law_199 rfl (lv_at hl 1 rfl) ?_
        refine cc_vl (av := []) (rest := []) ⟨hx, hb, hml, hown, hts⟩ (c_X0_value l dC dI a0 ar ao cA cB g o n k v ) (cwV 0 hts gL_law_X0_value rfl rfl rfl (by decide +kernel) ⟨Nat.le_of_ble_eq_true rfl, Nat.le_of_ble_eq_true rfl⟩) (hP.sub (ws' := w0 a0 ar ao cA cB g o (nI n) (nI k) v) [0, 1, 2] rfl) hK0 (ci := 0) rfl rfl rfl hl.1 rfl (Nat.le_of_ble_eq_true rfl) dL_law_200 ⟨Nat.le_of_ble_eq_true rfl, Nat.le_of_ble_eq_true rfl⟩ (fun r hr => ?_)
        have hr1 := hr.symm
        subst hr1
        refine lv_aload_n hx hb dL_law_203 rfl (lv_at hl 2 rfl) ?_
        refine cc_vl (av := []) (rest := [.long v]) ⟨hx, hb, hml, hown, hts⟩ (c_X1_value l dC dI b0 br bo cC cD gm om n k v ) (cwV 0 hts gL_law_X1_value rfl rfl rfl (by decide +kernel) ⟨Nat.le_of_ble_eq_true rfl, Nat.le_of_ble_eq_true rfl⟩) (hP.sub (ws' := w1 b0 br bo cC cD gm om (nI n) (nI k) v) [3, 4, 5] rfl) hK1 (ci := 1) rfl rfl rfl hl.1 rfl (Nat.le_of_ble_eq_true rfl) dL_law_204 ⟨Nat.le_of_ble_eq_true rfl, Nat.le_of_ble_eq_true rfl⟩ (fun r hr => ?_)
        refine W.lcmp hx hb dL_law_207 ?_
        refine lv_if_eq (tgt := 323) hx hb dL_law_208 (by decide) (fun c_39 => ?_) (fun c_39 => ?_)
        · refine lv_iinc (v := nI (i + 6)) (lv' := [(3, .int (nI (i + 6))), (0, .ref b), (1, .ref a0), (2, .ref b0)]) hx hb dL_law_323 hl (k := 3) rfl (show nI i + 6 = nI (i + 6) from nI_add i 6) (by decide) rfl (fun ls hl => ?_)
          refine lv_goto (tgt := 18) hx hb dL_law_326 (by decide) ?_
          exact ih (i + 6) t z n k v g o gm om H locs ls (by omega) (by omega) hn hk hI hO hJ hU hP hD hS (lv_sub hl [1, 2, 3, 0] rfl)
        · exact absurd ((lg_cmp_eq _ _).mpr hr.symm) c_39
      · refine lv_tableIn (off := 180) (tgt := 213) hx hb dL_law_33 (by decide) (by decide) (by decide +kernel) (by decide) ?_
        refine lv_aload_n hx hb dL_law_213 rfl (lv_at hl 1 rfl) ?_
        refine lv_aload_n hx hb dL_law_214 rfl (lv_at hl 0 rfl) ?_
        refine lv_iload_n hx hb dL_law_215 rfl (lv_at hl 3 rfl) ?_
        refine lv_iconst (v := nI 1) hx hb dL_law_216 (by decide) ?_
        refine lv_iadd hx hb dL_law_217 ?_
        refine lv_topi (fun z_40 ez_40 => ?_)
        have ez_40 : z_40 = nI (i + 1) := by rw [ez_40]; exact nI_add i 1
        subst ez_40
        refine va_sld hx hb hX hbl hbA hS (vp_in_nI (show i + 1 < L by omega) (by omega)) dL_law_218 ?_
        refine lv_topi (fun z_41 ez_41 => ?_)
        have ez_41 : z_41 = xs (i + 1) := by rw [ez_41]; rw [nI_clamp (show i + 1 < 2 ^ 31 by omega)]
        subst ez_41
        refine lv_aload_n hx hb dL_law_219 rfl (lv_at hl 0 rfl) ?_
        refine lv_iload_n hx hb dL_law_220 rfl (lv_at hl 3 rfl) ?_
        refine lv_iconst (v := nI 2) hx hb dL_law_221 (by decide) ?_
        refine lv_iadd hx hb dL_law_222 ?_
        refine lv_topi (fun z_42 ez_42 => ?_)
        have ez_42 : z_42 = nI (i + 2) := by rw [ez_42]; exact nI_add i 2
        subst ez_42
        refine va_sld hx hb hX hbl hbA hS (vp_in_nI (show i + 2 < L by omega) (by omega)) dL_law_223 ?_
        refine lv_topi (fun z_43 ez_43 => ?_)
        have ez_43 : z_43 = xs (i + 2) := by rw [ez_43]; rw [nI_clamp (show i + 2 < 2 ^ 31 by omega)]
        subst ez_43
        refine lv_i2l hx hb dL_law_224 rfl ?_
        refine lv_bipush (v := 32) hx hb dL_law_225 (by decide) ?_
        refine lv_lshl hx hb dL_law_227 rfl ?_
        refine lv_aload_n hx hb dL_law_228 rfl (lv_at hl 0 rfl) ?_
        refine lv_iload_n hx hb dL_law_229 rfl (lv_at hl 3 rfl) ?_
        refine lv_iconst (v := nI 3) hx hb dL_law_230 (by decide) ?_
        refine lv_iadd hx hb dL_law_231 ?_
        refine lv_topi (fun z_44 ez_44 => ?_)
        have ez_44 : z_44 = nI (i + 3) := by rw [ez_44]; exact nI_add i 3
        subst ez_44
        refine va_sld hx hb hX hbl hbA hS (vp_in_nI (show i + 3 < L by omega) (by omega)) dL_law_232 ?_
        refine lv_topi (fun z_45 ez_45 => ?_)
        have ez_45 : z_45 = xs (i + 3) := by rw [ez_45]; rw [nI_clamp (show i + 3 < 2 ^ 31 by omega)]
        subst ez_45
        refine lv_i2l hx hb dL_law_233 rfl ?_
        refine lv_ldc2 hx hb hown (hts (.constantLong RL 33 4294967295) (by decide +kernel)) dL_law_234 ?_
        refine lv_land hx hb dL_law_237 ?_
        refine lv_lor hx hb dL_law_238 ?_
        refine lv_topl (fun y ey => ?_)
        refine cc_mi (av := [.int (xs (i + 1)), .long y]) (rest := []) [0, 1, 2] [3, 4, 5] ⟨hx, hb, hml, hown, hts⟩ (c_X0_write l dC dI a0 ar ao cA cB H.size g o n k v t z (xs (i + 1)) y hI hO hn hk) (cwV 2 hts gL_law_X0_write rfl rfl rfl (by decide +kernel) ⟨Nat.le_of_ble_eq_true rfl, Nat.le_of_ble_eq_true rfl⟩) hP hD hS hA hK0 (wr := w1 b0 br bo cC cD gm om (nI n) (nI k) v) rfl rfl (by decide) (by decide) (by decide) (ci := 0) rfl rfl rfl hl.1 rfl (Nat.le_of_ble_eq_true rfl) dL_law_239 ⟨Nat.le_of_ble_eq_true rfl, Nat.le_of_ble_eq_true rfl⟩ (fun r u H locs hw hP hD hS => ?_)
        obtain ⟨g1, o1, n1, k1, v1⟩ := u
        obtain ⟨hr1, hI1, hO1, en, ek, ev⟩ := hw
        dsimp only at hI1 hO1 en ek ev
        subst en
        subst ek
        have ev := ev.symm
        subst ev
        have hP : va_P (dC, dI) vwCl (w1 b0 br bo cC cD gm om (nI n) (nI k) v ++ w0 a0 ar ao cA cB g1 o1 (nI (n)) (nI ((gg_write (xs (i + 1)) y k z).2.1)) v) H := hP
        have hD : va_D (fun q : Nat => s.heap.size ≤ q) (w1 b0 br bo cC cD gm om (nI n) (nI k) v ++ w0 a0 ar ao cA cB g1 o1 (nI (n)) (nI ((gg_write (xs (i + 1)) y k z).2.1)) v) := hD
        subst hr1
        refine lv_aload_n hx hb dL_law_242 rfl (lv_at hl 2 rfl) ?_
        refine lv_aload_n hx hb dL_law_243 rfl (lv_at hl 0 rfl) ?_
        refine lv_iload_n hx hb dL_law_244 rfl (lv_at hl 3 rfl) ?_
        refine lv_iconst (v := nI 1) hx hb dL_law_245 (by decide) ?_
        refine lv_iadd hx hb dL_law_246 ?_
        refine lv_topi (fun z_46 ez_46 => ?_)
        have ez_46 : z_46 = nI (i + 1) := by rw [ez_46]; exact nI_add i 1
        subst ez_46
        refine va_sld hx hb hX hbl hbA hS (vp_in_nI (show i + 1 < L by omega) (by omega)) dL_law_247 ?_
        refine lv_topi (fun z_47 ez_47 => ?_)
        have ez_47 : z_47 = xs (i + 1) := by rw [ez_47]; rw [nI_clamp (show i + 1 < 2 ^ 31 by omega)]
        subst ez_47
        refine lv_aload_n hx hb dL_law_248 rfl (lv_at hl 0 rfl) ?_
        refine lv_iload_n hx hb dL_law_249 rfl (lv_at hl 3 rfl) ?_
        refine lv_iconst (v := nI 2) hx hb dL_law_250 (by decide) ?_
        refine lv_iadd hx hb dL_law_251 ?_
        refine lv_topi (fun z_48 ez_48 => ?_)
        have ez_48 : z_48 = nI (i + 2) := by rw [ez_48]; exact nI_add i 2
        subst ez_48
        refine va_sld hx hb hX hbl hbA hS (vp_in_nI (show i + 2 < L by omega) (by omega)) dL_law_252 ?_
        refine lv_topi (fun z_49 ez_49 => ?_)
        have ez_49 : z_49 = xs (i + 2) := by rw [ez_49]; rw [nI_clamp (show i + 2 < 2 ^ 31 by omega)]
        subst ez_49
        refine lv_i2l hx hb dL_law_253 rfl ?_
        refine lv_bipush (v := 32) hx hb dL_law_254 (by decide) ?_
        refine lv_lshl hx hb dL_law_256 rfl ?_
        refine lv_aload_n hx hb dL_law_257 rfl (lv_at hl 0 rfl) ?_
        refine lv_iload_n hx hb dL_law_258 rfl (lv_at hl 3 rfl) ?_
        refine lv_iconst (v := nI 3) hx hb dL_law_259 (by decide) ?_
        refine lv_iadd hx hb dL_law_260 ?_
        refine lv_topi (fun z_50 ez_50 => ?_)
        have ez_50 : z_50 = nI (i + 3) := by rw [ez_50]; exact nI_add i 3
        subst ez_50
        refine va_sld hx hb hX hbl hbA hS (vp_in_nI (show i + 3 < L by omega) (by omega)) dL_law_261 ?_
        refine lv_topi (fun z_51 ez_51 => ?_)
        have ez_51 : z_51 = xs (i + 3) := by rw [ez_51]; rw [nI_clamp (show i + 3 < 2 ^ 31 by omega)]
        subst ez_51
        refine lv_i2l hx hb dL_law_262 rfl ?_
        refine lv_ldc2 hx hb hown (hts (.constantLong RL 33 4294967295) (by decide +kernel)) dL_law_263 ?_
        refine lv_land hx hb dL_law_266 ?_
        refine lv_lor hx hb dL_law_267 ?_
        refine lv_topl (fun z_52 ez_52 => ?_)
        have ez_52 : z_52 = y := by rw [ez_52]; exact ey.symm
        have ez_52 := ez_52.symm
        subst ez_52
        refine cc_mi (av := [.int (xs (i + 1)), .long y]) (rest := [.int ((gg_write (xs (i + 1)) y k z).1)]) [0, 1, 2] [3, 4, 5] ⟨hx, hb, hml, hown, hts⟩ (c_X1_write l dC dI b0 br bo cC cD H.size gm om n k v t z (xs (i + 1)) y hJ hU hn hk) (cwV 2 hts gL_law_X1_write rfl rfl rfl (by decide +kernel) ⟨Nat.le_of_ble_eq_true rfl, Nat.le_of_ble_eq_true rfl⟩) hP hD hS hA hK1 (wr := w0 a0 ar ao cA cB g1 o1 (nI (n)) (nI ((gg_write (xs (i + 1)) y k z).2.1)) v) rfl rfl (by decide) (by decide) (by decide) (ci := 1) rfl rfl rfl hl.1 rfl (Nat.le_of_ble_eq_true rfl) dL_law_268 ⟨Nat.le_of_ble_eq_true rfl, Nat.le_of_ble_eq_true rfl⟩ (fun r u H locs hw hP hD hS => ?_)
        obtain ⟨gm1, om1, n1, k1, v1⟩ := u
        obtain ⟨hr2, hJ1, hU1, en, ek, ev⟩ := hw
        dsimp only at hJ1 hU1 en ek ev
        subst en
        subst ek
        have ev := ev.symm
        subst ev
        have hP : va_P (dC, dI) vwCl (w0 a0 ar ao cA cB g1 o1 (nI (n)) (nI ((gg_write (xs (i + 1)) y k z).2.1)) v ++ w1 b0 br bo cC cD gm1 om1 (nI (n)) (nI ((gg_write (xs (i + 1)) y k z).2.1)) v) H := hP
        have hD : va_D (fun q : Nat => s.heap.size ≤ q) (w0 a0 ar ao cA cB g1 o1 (nI (n)) (nI ((gg_write (xs (i + 1)) y k z).2.1)) v ++ w1 b0 br bo cC cD gm1 om1 (nI (n)) (nI ((gg_write (xs (i + 1)) y k z).2.1)) v) := hD
        refine lv_icmp_eq (tgt := 323) hx hb dL_law_271 (by decide) (fun c_53 => ?_) (fun c_53 => ?_)
        · refine lv_iinc (v := nI (i + 6)) (lv' := [(3, .int (nI (i + 6))), (0, .ref b), (1, .ref a0), (2, .ref b0)]) hx hb dL_law_323 hl (k := 3) rfl (show nI i + 6 = nI (i + 6) from nI_add i 6) (by decide) rfl (fun ls hl => ?_)
          refine lv_goto (tgt := 18) hx hb dL_law_326 (by decide) ?_
          exact ih (i + 6) (t) ((gg_write (xs (i + 1)) y k z).2.2) (n) ((gg_write (xs (i + 1)) y k z).2.1) _ g1 o1 gm1 om1 H locs ls (by omega) (by omega) (hn) (gg_write_bd hk) hI1 hO1 hJ1 hU1 hP hD hS (lv_sub hl [1, 2, 3, 0] rfl)
        · exact absurd hr2.symm c_53
      · refine lv_tableIn (off := 243) (tgt := 276) hx hb dL_law_33 (by decide) (by decide) (by decide +kernel) (by decide) ?_
        refine lv_aload_n hx hb dL_law_276 rfl (lv_at hl 1 rfl) ?_
        refine cc_vi (av := []) (rest := []) ⟨hx, hb, hml, hown, hts⟩ (c_X0_size l dC dI a0 ar ao cA cB g o n k v ) (cwV 0 hts gL_law_X0_size rfl rfl rfl (by decide +kernel) ⟨Nat.le_of_ble_eq_true rfl, Nat.le_of_ble_eq_true rfl⟩) (hP.sub (ws' := w0 a0 ar ao cA cB g o (nI n) (nI k) v) [0, 1, 2] rfl) hK0 (ci := 0) rfl rfl rfl hl.1 rfl (Nat.le_of_ble_eq_true rfl) dL_law_277 ⟨Nat.le_of_ble_eq_true rfl, Nat.le_of_ble_eq_true rfl⟩ (fun r hr => ?_)
        have hr1 := hr.symm
        subst hr1
        refine lv_aload_n hx hb dL_law_280 rfl (lv_at hl 2 rfl) ?_
        refine cc_vi (av := []) (rest := [.int (nI k)]) ⟨hx, hb, hml, hown, hts⟩ (c_X1_size l dC dI b0 br bo cC cD gm om n k v ) (cwV 0 hts gL_law_X1_size rfl rfl rfl (by decide +kernel) ⟨Nat.le_of_ble_eq_true rfl, Nat.le_of_ble_eq_true rfl⟩) (hP.sub (ws' := w1 b0 br bo cC cD gm om (nI n) (nI k) v) [3, 4, 5] rfl) hK1 (ci := 1) rfl rfl rfl hl.1 rfl (Nat.le_of_ble_eq_true rfl) dL_law_281 ⟨Nat.le_of_ble_eq_true rfl, Nat.le_of_ble_eq_true rfl⟩ (fun r hr => ?_)
        refine lv_icmp_eq (tgt := 323) hx hb dL_law_284 (by decide) (fun c_54 => ?_) (fun c_54 => ?_)
        · refine lv_iinc (v := nI (i + 6)) (lv' := [(3, .int (nI (i + 6))), (0, .ref b), (1, .ref a0), (2, .ref b0)]) hx hb dL_law_323 hl (k := 3) rfl (show nI i + 6 = nI (i + 6) from nI_add i 6) (by decide) rfl (fun ls hl => ?_)
          refine lv_goto (tgt := 18) hx hb dL_law_326 (by decide) ?_
          exact ih (i + 6) t z n k v g o gm om H locs ls (by omega) (by omega) hn hk hI hO hJ hU hP hD hS (lv_sub hl [1, 2, 3, 0] rfl)
        · exact absurd hr.symm c_54
      · refine lv_tableIn (off := 256) (tgt := 289) hx hb dL_law_33 (by decide) (by decide) (by decide +kernel) (by decide) ?_
        refine lv_aload_n hx hb dL_law_289 rfl (lv_at hl 1 rfl) ?_
        refine lv_aload_n hx hb dL_law_290 rfl (lv_at hl 0 rfl) ?_
        refine lv_iload_n hx hb dL_law_291 rfl (lv_at hl 3 rfl) ?_
        refine lv_iconst (v := nI 1) hx hb dL_law_292 (by decide) ?_
        refine lv_iadd hx hb dL_law_293 ?_
        refine lv_topi (fun z_55 ez_55 => ?_)
        have ez_55 : z_55 = nI (i + 1) := by rw [ez_55]; exact nI_add i 1
        subst ez_55
        refine va_sld hx hb hX hbl hbA hS (vp_in_nI (show i + 1 < L by omega) (by omega)) dL_law_294 ?_
        refine lv_topi (fun z_56 ez_56 => ?_)
        have ez_56 : z_56 = xs (i + 1) := by rw [ez_56]; rw [nI_clamp (show i + 1 < 2 ^ 31 by omega)]
        subst ez_56
        refine cc_vi (av := [.int (xs (i + 1))]) (rest := []) ⟨hx, hb, hml, hown, hts⟩ (c_X0_at l dC dI a0 ar ao cA cB g o n k v z (xs (i + 1)) hO hk) (cwV 1 hts gL_law_X0_at rfl rfl rfl (by decide +kernel) ⟨Nat.le_of_ble_eq_true rfl, Nat.le_of_ble_eq_true rfl⟩) (hP.sub (ws' := w0 a0 ar ao cA cB g o (nI n) (nI k) v) [0, 1, 2] rfl) hK0 (ci := 0) rfl rfl rfl hl.1 rfl (Nat.le_of_ble_eq_true rfl) dL_law_295 ⟨Nat.le_of_ble_eq_true rfl, Nat.le_of_ble_eq_true rfl⟩ (fun r hr => ?_)
        have hr1 := hr.symm
        subst hr1
        refine lv_aload_n hx hb dL_law_298 rfl (lv_at hl 2 rfl) ?_
        refine lv_aload_n hx hb dL_law_299 rfl (lv_at hl 0 rfl) ?_
        refine lv_iload_n hx hb dL_law_300 rfl (lv_at hl 3 rfl) ?_
        refine lv_iconst (v := nI 1) hx hb dL_law_301 (by decide) ?_
        refine lv_iadd hx hb dL_law_302 ?_
        refine lv_topi (fun z_57 ez_57 => ?_)
        have ez_57 : z_57 = nI (i + 1) := by rw [ez_57]; exact nI_add i 1
        subst ez_57
        refine va_sld hx hb hX hbl hbA hS (vp_in_nI (show i + 1 < L by omega) (by omega)) dL_law_303 ?_
        refine lv_topi (fun z_58 ez_58 => ?_)
        have ez_58 : z_58 = xs (i + 1) := by rw [ez_58]; rw [nI_clamp (show i + 1 < 2 ^ 31 by omega)]
        subst ez_58
        refine cc_vi (av := [.int (xs (i + 1))]) (rest := [.int (gg_at (xs (i + 1)) z k)]) ⟨hx, hb, hml, hown, hts⟩ (c_X1_at l dC dI b0 br bo cC cD gm om n k v z (xs (i + 1)) hU hk) (cwV 1 hts gL_law_X1_at rfl rfl rfl (by decide +kernel) ⟨Nat.le_of_ble_eq_true rfl, Nat.le_of_ble_eq_true rfl⟩) (hP.sub (ws' := w1 b0 br bo cC cD gm om (nI n) (nI k) v) [3, 4, 5] rfl) hK1 (ci := 1) rfl rfl rfl hl.1 rfl (Nat.le_of_ble_eq_true rfl) dL_law_304 ⟨Nat.le_of_ble_eq_true rfl, Nat.le_of_ble_eq_true rfl⟩ (fun r hr => ?_)
        refine lv_icmp_eq (tgt := 323) hx hb dL_law_307 (by decide) (fun c_59 => ?_) (fun c_59 => ?_)
        · refine lv_iinc (v := nI (i + 6)) (lv' := [(3, .int (nI (i + 6))), (0, .ref b), (1, .ref a0), (2, .ref b0)]) hx hb dL_law_323 hl (k := 3) rfl (show nI i + 6 = nI (i + 6) from nI_add i 6) (by decide) rfl (fun ls hl => ?_)
          refine lv_goto (tgt := 18) hx hb dL_law_326 (by decide) ?_
          exact ih (i + 6) t z n k v g o gm om H locs ls (by omega) (by omega) hn hk hI hO hJ hU hP hD hS (lv_sub hl [1, 2, 3, 0] rfl)
        · exact absurd hr.symm c_59
      · refine lv_tableIn (off := 279) (tgt := 312) hx hb dL_law_33 (by decide) (by decide) (by decide +kernel) (by decide) ?_
        refine lv_aload_n hx hb dL_law_312 rfl (lv_at hl 1 rfl) ?_
        refine cc_mv (av := []) (rest := []) [0, 1, 2] [3, 4, 5] ⟨hx, hb, hml, hown, hts⟩ (c_X0_clear l dC dI a0 ar ao cA cB H.size g o n k v t z  hI hO hn hk) (cwV 0 hts gL_law_X0_clear rfl rfl rfl (by decide +kernel) ⟨Nat.le_of_ble_eq_true rfl, Nat.le_of_ble_eq_true rfl⟩) hP hD hS hA hK0 (wr := w1 b0 br bo cC cD gm om (nI n) (nI k) v) rfl rfl (by decide) (by decide) (by decide) (ci := 0) rfl rfl rfl hl.1 rfl (Nat.le_of_ble_eq_true rfl) dL_law_313 ⟨Nat.le_of_ble_eq_true rfl, Nat.le_of_ble_eq_true rfl⟩ (fun u H locs hw hP hD hS => ?_)
        obtain ⟨g1, o1, n1, k1, v1⟩ := u
        obtain ⟨hI1, hO1, en, ek, ev⟩ := hw
        dsimp only at hI1 hO1 en ek ev
        subst en
        subst ek
        have ev := ev.symm
        subst ev
        have hP : va_P (dC, dI) vwCl (w1 b0 br bo cC cD gm om (nI n) (nI k) v ++ w0 a0 ar ao cA cB g1 o1 (nI (0)) (nI (0)) v) H := hP
        have hD : va_D (fun q : Nat => s.heap.size ≤ q) (w1 b0 br bo cC cD gm om (nI n) (nI k) v ++ w0 a0 ar ao cA cB g1 o1 (nI (0)) (nI (0)) v) := hD
        refine lv_aload_n hx hb dL_law_316 rfl (lv_at hl 2 rfl) ?_
        refine cc_mv (av := []) (rest := []) [0, 1, 2] [3, 4, 5] ⟨hx, hb, hml, hown, hts⟩ (c_X1_clear l dC dI b0 br bo cC cD H.size gm om n k v t z  hJ hU hn hk) (cwV 0 hts gL_law_X1_clear rfl rfl rfl (by decide +kernel) ⟨Nat.le_of_ble_eq_true rfl, Nat.le_of_ble_eq_true rfl⟩) hP hD hS hA hK1 (wr := w0 a0 ar ao cA cB g1 o1 (nI (0)) (nI (0)) v) rfl rfl (by decide) (by decide) (by decide) (ci := 1) rfl rfl rfl hl.1 rfl (Nat.le_of_ble_eq_true rfl) dL_law_317 ⟨Nat.le_of_ble_eq_true rfl, Nat.le_of_ble_eq_true rfl⟩ (fun u H locs hw hP hD hS => ?_)
        obtain ⟨gm1, om1, n1, k1, v1⟩ := u
        obtain ⟨hJ1, hU1, en, ek, ev⟩ := hw
        dsimp only at hJ1 hU1 en ek ev
        subst en
        subst ek
        have ev := ev.symm
        subst ev
        have hP : va_P (dC, dI) vwCl (w0 a0 ar ao cA cB g1 o1 (nI (0)) (nI (0)) v ++ w1 b0 br bo cC cD gm1 om1 (nI (0)) (nI (0)) v) H := hP
        have hD : va_D (fun q : Nat => s.heap.size ≤ q) (w0 a0 ar ao cA cB g1 o1 (nI (0)) (nI (0)) v ++ w1 b0 br bo cC cD gm1 om1 (nI (0)) (nI (0)) v) := hD
        refine lv_goto (tgt := 323) hx hb dL_law_320 (by decide) ?_
        refine lv_iinc (v := nI (i + 6)) (lv' := [(3, .int (nI (i + 6))), (0, .ref b), (1, .ref a0), (2, .ref b0)]) hx hb dL_law_323 hl (k := 3) rfl (show nI i + 6 = nI (i + 6) from nI_add i 6) (by decide) rfl (fun ls hl => ?_)
        refine lv_goto (tgt := 18) hx hb dL_law_326 (by decide) ?_
        exact ih (i + 6) (t) (z) (0) (0) _ g1 o1 gm1 om1 H locs ls (by omega) (by omega) (by omega) (by omega) hI1 hO1 hJ1 hU1 hP hD hS (lv_sub hl [1, 2, 3, 0] rfl)
