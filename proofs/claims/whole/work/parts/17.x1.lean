abbrev rm_X1_dishesTold : Room := { frames := 0, cells := 0, slots := 0, locals := 0 }
set_option maxRecDepth 20000 in
theorem us_X1_dishesTold_1 : ∀ w ∈ u_ws RX1 TX1 4, w ∈ wsX1_dishesTold := by decide +kernel
set_option maxRecDepth 20000 in
theorem fl_X1_dishesTold_15 : FL RX1 wsX1_dishesTold 15 1 1 := ⟨RX1, TX1, 4, rfl, by decide, us_X1_dishesTold_1, by decide +kernel⟩
set_option maxRecDepth 20000 in
theorem fl_X1_dishesTold_19 : FL RX1 wsX1_dishesTold 19 1 2 := ⟨RX1, TX1, 4, rfl, by decide, us_X1_dishesTold_1, by decide +kernel⟩

set_option maxHeartbeats 4000000 in
set_option maxRecDepth 100000 in
theorem c_X1_dishesTold {l : Launch} {V : ab_V} {mu : ab_mem} {g : Nat} (hV : OKX V) (hg : g < 3) (hn : mu (19 + 2 * g) 1 = nI (nX mu g)) : CT l V ShX yX1_dishesTold wsX1_dishesTold rm_X1_dishesTold [.ref (aL V (19 + 2 * g))] mu (pI (fun r mu2 => r = nI (tX mu g) ∧ mu = mu2)) := by
  refine ab_enter hV.1 (by decide) rfl (Nat.le_of_ble_eq_true rfl) ?_
  intro X B E
  have B : CX X l rm_X1_dishesTold RX1 cX1_dishesTold wsX1_dishesTold 1 V ShX := B
  show AW X V ShX 1 0 [some (.ref (aL V (19 + 2 * g)))] [] mu
  have q1 := shG hg
  have q2 := shGm hg
  refine a_aload_n B dX1_dishesTold_0 rfl ?_
  refine a_geti B fl_X1_dishesTold_19 (by first | rfl | assumption) rfl dX1_dishesTold_1 ?_
  refine a_iconst (v := -1) B dX1_dishesTold_4 (by decide) ?_
  refine a_icmp_ne (tgt := 15) B dX1_dishesTold_5 (by decide) (fun c5 => ?_) (fun c5 => ?_)
  · refine a_iconst (v := 0) B dX1_dishesTold_15 (by decide) ?_
    refine a_ireturn B E dX1_dishesTold_16 ?_
    refine ⟨?_, rfl⟩
    rw [tX]
    first | rw [if_pos c5, hn] | (rw [if_neg c5]; rfl)
  · refine a_aload_n B dX1_dishesTold_8 rfl ?_
    refine a_geti B fl_X1_dishesTold_15 (by first | rfl | assumption) rfl dX1_dishesTold_9 ?_
    refine a_goto (tgt := 16) B dX1_dishesTold_12 (by decide) ?_
    refine a_ireturn B E dX1_dishesTold_16 ?_
    refine ⟨?_, rfl⟩
    rw [tX]
    first | rw [if_pos c5, hn] | (rw [if_neg c5]; rfl)
abbrev rm_X1_dishAt : Room := { frames := 0, cells := 0, slots := 0, locals := 0 }
set_option maxRecDepth 20000 in
theorem us_X1_dishAt_1 : ∀ w ∈ u_ws RX1 TX1 4, w ∈ wsX1_dishAt := by decide +kernel
set_option maxRecDepth 20000 in
theorem fl_X1_dishAt_9 : FL RX1 wsX1_dishAt 9 1 0 := ⟨RX1, TX1, 4, rfl, by decide, us_X1_dishAt_1, by decide +kernel⟩
set_option maxRecDepth 20000 in
theorem fl_X1_dishAt_15 : FL RX1 wsX1_dishAt 15 1 1 := ⟨RX1, TX1, 4, rfl, by decide, us_X1_dishAt_1, by decide +kernel⟩

set_option maxHeartbeats 4000000 in
set_option maxRecDepth 100000 in
theorem c_X1_dishAt_neg {l : Launch} {V : ab_V} {mu : ab_mem} {g : Nat} {a : Int32} (hV : OKX V) (hg : g < 3) (ha : a < 0) : CT l V ShX yX1_dishAt wsX1_dishAt rm_X1_dishAt [.ref (aL V (19 + 2 * g)), .int a] mu (pI (fun r mu2 => r = 0 ∧ mu = mu2)) := by
  refine ab_enter hV.1 (by decide) rfl (Nat.le_of_ble_eq_true rfl) ?_
  intro X B E
  have B : CX X l rm_X1_dishAt RX1 cX1_dishAt wsX1_dishAt 2 V ShX := B
  show AW X V ShX 2 0 [some (.ref (aL V (19 + 2 * g))), some (.int a)] [] mu
  have q1 := shG hg
  have q2 := shGm hg
  refine a_iload_n B dX1_dishAt_0 rfl ?_
  refine a_if_lt_t (tgt := 21) B dX1_dishAt_1 (by decide) (ha) ?_
  refine a_iconst (v := 0) B dX1_dishAt_21 (by decide) ?_
  refine a_ireturn B E dX1_dishAt_22 ?_
  exact ⟨rfl, rfl⟩
set_option maxHeartbeats 4000000 in
set_option maxRecDepth 100000 in
theorem c_X1_dishAt {l : Launch} {V : ab_V} {mu : ab_mem} {g k : Nat} (hV : OKX V) (hg : g < 3) (hn : mu (19 + 2 * g) 1 = nI (nX mu g)) (h24 : nX mu g ≤ 24) (hk : k < nX mu g) : CT l V ShX yX1_dishAt wsX1_dishAt rm_X1_dishAt [.ref (aL V (19 + 2 * g)), .int (nI k)] mu (pI (fun r mu2 => r = fX mu g k ∧ mu = mu2)) := by
  refine ab_enter hV.1 (by decide) rfl (Nat.le_of_ble_eq_true rfl) ?_
  intro X B E
  have B : CX X l rm_X1_dishAt RX1 cX1_dishAt wsX1_dishAt 2 V ShX := B
  show AW X V ShX 2 0 [some (.ref (aL V (19 + 2 * g))), some (.int (nI k))] [] mu
  have q1 := shG hg
  have q2 := shGm hg
  refine a_iload_n B dX1_dishAt_0 rfl ?_
  refine a_if_lt_f (tgt := 21) B dX1_dishAt_1 (by decide) (nI_pos (by omega)) ?_
  refine a_iload_n B dX1_dishAt_4 rfl ?_
  refine a_aload_n B dX1_dishAt_5 rfl ?_
  refine a_geti B fl_X1_dishAt_15 (by first | rfl | assumption) rfl dX1_dishAt_6 ?_
  refine a_icmp_ge_f (tgt := 21) B dX1_dishAt_9 (by decide) (by rw [hn]; exact nI_ge hk (by omega)) ?_
  refine a_aload_n B dX1_dishAt_12 rfl ?_
  refine a_getr B fl_X1_dishAt_9 (by first | rfl | assumption) rfl dX1_dishAt_13 ?_
  refine a_iload_n B dX1_dishAt_16 rfl ?_
  refine a_ialdN B (k) (by first | rfl | assumption) rfl (by omega) (by decide) dX1_dishAt_17 ?_
  refine a_goto (tgt := 22) B dX1_dishAt_18 (by decide) ?_
  refine a_ireturn B E dX1_dishAt_22 ?_
  exact ⟨rfl, rfl⟩
abbrev rm_X1_append : Room := { frames := 0, cells := 0, slots := 0, locals := 0 }
set_option maxRecDepth 20000 in
theorem us_X1_append_1 : ∀ w ∈ u_ws RX1 TX1 4, w ∈ wsX1_append := by decide +kernel
set_option maxRecDepth 20000 in
theorem fl_X1_append_9 : FL RX1 wsX1_append 9 1 0 := ⟨RX1, TX1, 4, rfl, by decide, us_X1_append_1, by decide +kernel⟩
set_option maxRecDepth 20000 in
theorem fl_X1_append_15 : FL RX1 wsX1_append 15 1 1 := ⟨RX1, TX1, 4, rfl, by decide, us_X1_append_1, by decide +kernel⟩
set_option maxRecDepth 20000 in
theorem fl_X1_append_19 : FL RX1 wsX1_append 19 1 2 := ⟨RX1, TX1, 4, rfl, by decide, us_X1_append_1, by decide +kernel⟩
set_option maxRecDepth 20000 in
theorem fp_X1_append_15 : FP RX1 wsX1_append 15 1 1 .int := ⟨RX1, TX1, 4, tyX1, rfl, by decide, us_X1_append_1, by decide +kernel, tyX1_ok, nmX1, rfl, rfl⟩
set_option maxRecDepth 20000 in
theorem fp_X1_append_19 : FP RX1 wsX1_append 19 1 2 .int := ⟨RX1, TX1, 4, tyX1, rfl, by decide, us_X1_append_1, by decide +kernel, tyX1_ok, nmX1, rfl, rfl⟩

set_option maxHeartbeats 4000000 in
set_option maxRecDepth 100000 in
theorem c_X1_append {l : Launch} {V : ab_V} {mu : ab_mem} {g n : Nat} {d : Int32} (hV : OKX V) (hg : g < 3) (hn : n ≤ 24) (hm : mu (19 + 2 * g) 1 = nI n) : CT l V ShX yX1_append wsX1_append rm_X1_append [.ref (aL V (19 + 2 * g)), .int d] mu (pI (fun r mu2 => if n = 24 then r = -4 ∧ mu = mu2 else r = nI (n + 1) ∧ mu2 = ab_up (ab_up (if d = -1 ∧ mu (19 + 2 * g) 2 = -1 then ab_up mu (19 + 2 * g) 2 (nI n) else mu) (20 + 2 * g) n d) (19 + 2 * g) 1 (nI (n + 1)))) := by
  refine ab_enter hV.1 (by decide) rfl (Nat.le_of_ble_eq_true rfl) ?_
  intro X B E
  have B : CX X l rm_X1_append RX1 cX1_append wsX1_append 2 V ShX := B
  show AW X V ShX 2 0 [some (.ref (aL V (19 + 2 * g))), some (.int d)] [] mu
  have q1 := shG hg
  have q2 := shGm hg
  by_cases h24 : n = 24
  · skip
    refine a_aload_n B dX1_append_0 rfl ?_
    refine a_geti B fl_X1_append_15 (by first | rfl | assumption) rfl dX1_append_1 ?_
    refine a_bipush (v := 24) B dX1_append_4 (by decide) ?_
    refine a_icmp_lt_f (tgt := 12) B dX1_append_6 (by decide) (by rw [hm, h24]; decide) ?_
    refine a_bipush (v := -4) B dX1_append_9 (by decide) ?_
    refine a_ireturn B E dX1_append_11 ?_
    rw [if_pos h24]
    exact ⟨rfl, rfl⟩
  · have hlt : n < 24 := by omega
    have t33 : ∀ mu1, mu1 = (if d = -1 ∧ mu (19 + 2 * g) 2 = -1 then ab_up mu (19 + 2 * g) 2 (nI n) else mu) → AW X V ShX 2 33 [some (.ref (aL V (19 + 2 * g))), some (.int d)] [] mu1 := by
      intro mu1 h1
      have e1 : mu1 (19 + 2 * g) 1 = nI n := by
        rw [h1]
        split
        · rw [ab_up_s, pk_un (by decide), hm]
        · exact hm
      refine a_aload_n B dX1_append_33 rfl ?_
      refine a_getr B fl_X1_append_9 (by first | rfl | assumption) rfl dX1_append_34 ?_
      refine a_aload_n B dX1_append_37 rfl ?_
      refine a_geti B fl_X1_append_15 (by first | rfl | assumption) rfl dX1_append_38 ?_
      refine a_iload_n B dX1_append_41 rfl ?_
      refine a_iastN B (n) (by first | rfl | assumption) e1 (by omega) (by decide)  dX1_append_42 ?_
      refine a_aload_n B dX1_append_43 rfl ?_
      refine a_dup B dX1_append_44 rfl ?_
      refine a_geti B fl_X1_append_15 (by first | rfl | assumption) rfl dX1_append_45 ?_
      refine a_iconst (v := 1) B dX1_append_48 (by decide) ?_
      refine a_iadd B dX1_append_49 ?_
      refine a_put B fp_X1_append_15 (by first | rfl | assumption) rfl rfl rfl dX1_append_50 ?_
      refine a_aload_n B dX1_append_53 rfl ?_
      refine a_geti B fl_X1_append_15 (by first | rfl | assumption) rfl dX1_append_54 ?_
      refine a_ireturn B E dX1_append_57 ?_
      rw [if_neg h24]
      have e2 : ab_up mu1 (20 + 2 * g) n d (19 + 2 * g) 1 + 1 = nI (n + 1) := by rw [ab_up_o (by omega), e1]; exact nI_1 n
      rw [e2, ← h1]
      exact ⟨ab_up_k, rfl⟩
    refine a_aload_n B dX1_append_0 rfl ?_
    refine a_geti B fl_X1_append_15 (by first | rfl | assumption) rfl dX1_append_1 ?_
    refine a_bipush (v := 24) B dX1_append_4 (by decide) ?_
    refine a_icmp_lt_t (tgt := 12) B dX1_append_6 (by decide) (by rw [hm]; exact nI_lt (a := n) (b := 24) hlt (by decide)) ?_
    refine a_iload_n B dX1_append_12 rfl ?_
    refine a_iconst (v := -1) B dX1_append_13 (by decide) ?_
    refine a_icmp_ne (tgt := 33) B dX1_append_14 (by decide) (fun c14 => ?_) (fun c14 => ?_)
    · first
        | exact t33 _ (by rw [if_neg (fun z => c14 z.1)])
        | exact t33 _ (by rw [if_neg (fun z => c22 z.2)])
        | exact t33 _ (by rw [if_pos ⟨c14, c22⟩])
    · refine a_aload_n B dX1_append_17 rfl ?_
      refine a_geti B fl_X1_append_19 (by first | rfl | assumption) rfl dX1_append_18 ?_
      refine a_iconst (v := -1) B dX1_append_21 (by decide) ?_
      refine a_icmp_ne (tgt := 33) B dX1_append_22 (by decide) (fun c22 => ?_) (fun c22 => ?_)
      · first
          | exact t33 _ (by rw [if_neg (fun z => c14 z.1)])
          | exact t33 _ (by rw [if_neg (fun z => c22 z.2)])
          | exact t33 _ (by rw [if_pos ⟨c14, c22⟩])
      · refine a_aload_n B dX1_append_25 rfl ?_
        refine a_aload_n B dX1_append_26 rfl ?_
        refine a_geti B fl_X1_append_15 (by first | rfl | assumption) rfl dX1_append_27 ?_
        rw [hm]
        refine a_put B fp_X1_append_19 (by first | rfl | assumption) rfl rfl rfl dX1_append_30 ?_
        first
          | exact t33 _ (by rw [if_neg (fun z => c14 z.1)])
          | exact t33 _ (by rw [if_neg (fun z => c22 z.2)])
          | exact t33 _ (by rw [if_pos ⟨c14, c22⟩])
abbrev rm_X1_clearMenu : Room := { frames := 0, cells := 0, slots := 0, locals := 0 }
set_option maxRecDepth 20000 in
theorem us_X1_clearMenu_1 : ∀ w ∈ u_ws RX1 TX1 4, w ∈ wsX1_clearMenu := by decide +kernel
set_option maxRecDepth 20000 in
theorem fl_X1_clearMenu_15 : FL RX1 wsX1_clearMenu 15 1 1 := ⟨RX1, TX1, 4, rfl, by decide, us_X1_clearMenu_1, by decide +kernel⟩
set_option maxRecDepth 20000 in
theorem fp_X1_clearMenu_15 : FP RX1 wsX1_clearMenu 15 1 1 .int := ⟨RX1, TX1, 4, tyX1, rfl, by decide, us_X1_clearMenu_1, by decide +kernel, tyX1_ok, nmX1, rfl, rfl⟩
set_option maxRecDepth 20000 in
theorem fp_X1_clearMenu_19 : FP RX1 wsX1_clearMenu 19 1 2 .int := ⟨RX1, TX1, 4, tyX1, rfl, by decide, us_X1_clearMenu_1, by decide +kernel, tyX1_ok, nmX1, rfl, rfl⟩

set_option maxHeartbeats 4000000 in
set_option maxRecDepth 100000 in
theorem c_X1_clearMenu {l : Launch} {V : ab_V} {mu : ab_mem} {g : Nat} (hV : OKX V) (hg : g < 3)  : CT l V ShX yX1_clearMenu wsX1_clearMenu rm_X1_clearMenu [.ref (aL V (19 + 2 * g))] mu (pI (fun r mu2 => r = mu (19 + 2 * g) 1 ∧ mu2 = ab_up (ab_up mu (19 + 2 * g) 1 0) (19 + 2 * g) 2 (-1))) := by
  refine ab_enter hV.1 (by decide) rfl (Nat.le_of_ble_eq_true rfl) ?_
  intro X B E
  have B : CX X l rm_X1_clearMenu RX1 cX1_clearMenu wsX1_clearMenu 2 V ShX := B
  show AW X V ShX 2 0 [some (.ref (aL V (19 + 2 * g))), none] [] mu
  have q1 := shG hg
  have q2 := shGm hg
  refine a_aload_n B dX1_clearMenu_0 rfl ?_
  refine a_geti B fl_X1_clearMenu_15 (by first | rfl | assumption) rfl dX1_clearMenu_1 ?_
  refine a_istore_n B dX1_clearMenu_4 (by decide) ?_
  refine a_aload_n B dX1_clearMenu_5 rfl ?_
  refine a_iconst (v := 0) B dX1_clearMenu_6 (by decide) ?_
  refine a_put B fp_X1_clearMenu_15 (by first | rfl | assumption) rfl rfl rfl dX1_clearMenu_7 ?_
  refine a_aload_n B dX1_clearMenu_10 rfl ?_
  refine a_iconst (v := -1) B dX1_clearMenu_11 (by decide) ?_
  refine a_put B fp_X1_clearMenu_19 (by first | rfl | assumption) rfl rfl rfl dX1_clearMenu_12 ?_
  refine a_iload_n B dX1_clearMenu_15 rfl ?_
  refine a_ireturn B E dX1_clearMenu_16 ?_
  exact ⟨rfl, rfl⟩
abbrev rm_X1_dropLast : Room := { frames := 0, cells := 0, slots := 0, locals := 0 }
set_option maxRecDepth 20000 in
theorem us_X1_dropLast_1 : ∀ w ∈ u_ws RX1 TX1 4, w ∈ wsX1_dropLast := by decide +kernel
set_option maxRecDepth 20000 in
theorem fl_X1_dropLast_15 : FL RX1 wsX1_dropLast 15 1 1 := ⟨RX1, TX1, 4, rfl, by decide, us_X1_dropLast_1, by decide +kernel⟩
set_option maxRecDepth 20000 in
theorem fl_X1_dropLast_19 : FL RX1 wsX1_dropLast 19 1 2 := ⟨RX1, TX1, 4, rfl, by decide, us_X1_dropLast_1, by decide +kernel⟩
set_option maxRecDepth 20000 in
theorem fp_X1_dropLast_15 : FP RX1 wsX1_dropLast 15 1 1 .int := ⟨RX1, TX1, 4, tyX1, rfl, by decide, us_X1_dropLast_1, by decide +kernel, tyX1_ok, nmX1, rfl, rfl⟩
set_option maxRecDepth 20000 in
theorem fp_X1_dropLast_19 : FP RX1 wsX1_dropLast 19 1 2 .int := ⟨RX1, TX1, 4, tyX1, rfl, by decide, us_X1_dropLast_1, by decide +kernel, tyX1_ok, nmX1, rfl, rfl⟩

set_option maxHeartbeats 4000000 in
set_option maxRecDepth 100000 in
theorem c_X1_dropLast {l : Launch} {V : ab_V} {mu : ab_mem} {g n : Nat} (hV : OKX V) (hg : g < 3) (hn : n ≤ 24) (hm : mu (19 + 2 * g) 1 = nI n) : CT l V ShX yX1_dropLast wsX1_dropLast rm_X1_dropLast [.ref (aL V (19 + 2 * g))] mu (pI (fun r mu2 => if n = 0 then r = -3 ∧ mu = mu2 else r = nI (n - 1) ∧ mu2 = (if mu (19 + 2 * g) 2 = nI (n - 1) then ab_up (ab_up mu (19 + 2 * g) 1 (nI (n - 1))) (19 + 2 * g) 2 (-1) else ab_up mu (19 + 2 * g) 1 (nI (n - 1))))) := by
  refine ab_enter hV.1 (by decide) rfl (Nat.le_of_ble_eq_true rfl) ?_
  intro X B E
  have B : CX X l rm_X1_dropLast RX1 cX1_dropLast wsX1_dropLast 1 V ShX := B
  show AW X V ShX 1 0 [some (.ref (aL V (19 + 2 * g)))] [] mu
  have q1 := shG hg
  have q2 := shGm hg
  refine a_aload_n B dX1_dropLast_0 rfl ?_
  refine a_geti B fl_X1_dropLast_15 (by first | rfl | assumption) rfl dX1_dropLast_1 ?_
  rw [hm]
  refine a_if_ne (tgt := 10) B dX1_dropLast_4 (by decide) (fun c4 => ?_) (fun c4 => ?_)
  · refine a_aload_n B dX1_dropLast_10 rfl ?_
    refine a_dup B dX1_dropLast_11 rfl ?_
    refine a_geti B fl_X1_dropLast_15 (by first | rfl | assumption) rfl dX1_dropLast_12 ?_
    refine a_iconst (v := 1) B dX1_dropLast_15 (by decide) ?_
    refine a_isub B dX1_dropLast_16 ?_
    have e1 : mu (19 + 2 * g) 1 - 1 = nI (n - 1) := by rw [hm]; exact pk_sub (a := n) (b := 1) (by have : n ≠ 0 := (fun e => c4 (by rw [e]; rfl)); omega)
    rw [e1]
    refine a_put B fp_X1_dropLast_15 (by first | rfl | assumption) rfl rfl rfl dX1_dropLast_17 ?_
    refine a_aload_n B dX1_dropLast_20 rfl ?_
    refine a_geti B fl_X1_dropLast_19 (by first | rfl | assumption) rfl dX1_dropLast_21 ?_
    refine a_aload_n B dX1_dropLast_24 rfl ?_
    refine a_geti B fl_X1_dropLast_15 (by first | rfl | assumption) rfl dX1_dropLast_25 ?_
    rw [ab_up_k, ab_up_s, pk_un (by decide)]
    refine a_icmp_ne (tgt := 36) B dX1_dropLast_28 (by decide) (fun c28 => ?_) (fun c28 => ?_)
    · refine a_aload_n B dX1_dropLast_36 rfl ?_
      refine a_geti B fl_X1_dropLast_15 (by first | rfl | assumption) rfl dX1_dropLast_37 ?_
      refine a_ireturn B E dX1_dropLast_40 ?_
      rw [if_neg (fun e => c4 (by rw [e]; rfl))]
      first
        | (rw [if_pos c28]; exact ⟨by rw [ab_up_s, pk_un (by decide), ab_up_k], rfl⟩)
        | (rw [if_neg c28]; exact ⟨ab_up_k, rfl⟩)
    · refine a_aload_n B dX1_dropLast_31 rfl ?_
      refine a_iconst (v := -1) B dX1_dropLast_32 (by decide) ?_
      refine a_put B fp_X1_dropLast_19 (by first | rfl | assumption) rfl rfl rfl dX1_dropLast_33 ?_
      refine a_aload_n B dX1_dropLast_36 rfl ?_
      refine a_geti B fl_X1_dropLast_15 (by first | rfl | assumption) rfl dX1_dropLast_37 ?_
      refine a_ireturn B E dX1_dropLast_40 ?_
      rw [if_neg (fun e => c4 (by rw [e]; rfl))]
      first
        | (rw [if_pos c28]; exact ⟨by rw [ab_up_s, pk_un (by decide), ab_up_k], rfl⟩)
        | (rw [if_neg c28]; exact ⟨ab_up_k, rfl⟩)
  · refine a_bipush (v := -3) B dX1_dropLast_7 (by decide) ?_
    refine a_ireturn B E dX1_dropLast_9 ?_
    rw [if_pos ((nI_eq (a := n) (b := 0) (by omega) (by decide)).mp c4)]
    exact ⟨rfl, rfl⟩
theorem a_pop {X : ab_X} {l : Launch} {R : Room} {own : String} {cc : ByteArray} {Ts : List Cond} {nL : Nat} {V : ab_V} {Sh : List ab_kd} {pc : Nat} {lo : List (Option Value)} {st : List Value} {mu : ab_mem} (B : CX X l R own cc Ts nL V Sh) {va : Value} (hd : decode cc pc = .ok (.pop, 1)) (h1 : va.category = 1) (k : AW X V Sh nL (pc + 1) lo st mu) : AW X V Sh nL pc lo (va :: st) mu := fun H locs ls hP hS hl => lv_pop B.1.1 B.1.2.1 hd h1 (k H locs ls hP hS hl)
def tkX (mu : ab_mem) (g s n : Nat) : ab_mem := ab_row (ab_up (ab_up mu (19 + 2 * g) 1 (nI n)) (19 + 2 * g) 2 (-1)) (20 + 2 * g) (fb_put (mu (20 + 2 * g)) (mu (35 + 2 * s)) 0 n)
theorem tkX_0 {mu : ab_mem} {g s : Nat} : tkX mu g s 0 = ab_up (ab_up mu (19 + 2 * g) 1 0) (19 + 2 * g) 2 (-1) := by
  have e : (ab_up (ab_up mu (19 + 2 * g) 1 (nI 0)) (19 + 2 * g) 2 (-1)) (20 + 2 * g) = mu (20 + 2 * g) := by rw [ab_up_o (by omega), ab_up_o (by omega)]
  rw [tkX, fb_put_0, ← e, ab_row_self]
  rfl
theorem tkX_s {mu : ab_mem} {g s n : Nat} : ab_up (ab_up (tkX mu g s n) (20 + 2 * g) n (mu (35 + 2 * s) n)) (19 + 2 * g) 1 (nI (n + 1)) = tkX mu g s (n + 1) := by
  funext q k
  by_cases h1 : q = 19 + 2 * g
  · subst h1
    rw [ab_up_s, tkX, tkX, ab_up_row, ab_row_o (by omega), ab_row_o (by omega), ab_up_s, ab_up_s, ab_up_s, ab_up_s]
    simp only [upd]
    by_cases hk : k = 1
    · simp [hk]
    · by_cases hk2 : k = 2
      · simp [hk2]
      · simp [hk, hk2]
  · rw [ab_up_o h1, tkX, ab_up_row, tkX]
    by_cases h2 : q = 20 + 2 * g
    · subst h2
      have z := fb_put_succ (mu (20 + 2 * g)) (mu (35 + 2 * s)) 0 n
      rw [Nat.zero_add] at z
      rw [ab_row_s, ab_row_s, z]
    · rw [ab_row_o h2, ab_row_o h2, ab_up_o h1, ab_up_o h1, ab_up_o h1, ab_up_o h1]
theorem tkX_i {mu : ab_mem} {g s n : Nat} (hg : g < 3) (hs : s < 4) : tkX mu g s n (35 + 2 * s) = mu (35 + 2 * s) := by rw [tkX, ab_row_o (by omega), ab_up_o (by omega), ab_up_o (by omega)]
theorem tkX_n {mu : ab_mem} {g s n : Nat} : tkX mu g s n (19 + 2 * g) 1 = nI n := by rw [tkX, ab_row_o (by omega), ab_up_s, pk_un (by decide), ab_up_k]
theorem min24 (z : Nat) (h : z ≤ 48) : (if (24 : Int32) < nI z then (24 : Int32) else nI z) = nI (min z 24) := by
  by_cases q : z ≤ 24
  · rw [if_neg (show ¬ (24 : Int32) < nI z from nI_nlt (a := 24) (b := z) q (by decide)), Nat.min_eq_left q]
  · rw [if_pos (show (24 : Int32) < nI z from nI_lt (a := 24) (b := z) (by omega) (by omega)), Nat.min_eq_right (by omega)]; rfl
abbrev rm_X1_takeMenu : Room := { frames := 2, cells := 0, slots := 0, locals := 42 }
set_option maxRecDepth 20000 in
theorem us_X1_takeMenu_1 : ∀ w ∈ u_ws RX1 TX1 4, w ∈ wsX1_takeMenu := by decide +kernel
set_option maxRecDepth 20000 in
theorem us_X1_takeMenu_4 : ∀ w ∈ u_ws RX4 TX4 4, w ∈ wsX1_takeMenu := by decide +kernel
set_option maxRecDepth 20000 in
theorem fl_X1_takeMenu_15 : FL RX1 wsX1_takeMenu 15 1 1 := ⟨RX1, TX1, 4, rfl, by decide, us_X1_takeMenu_1, by decide +kernel⟩
set_option maxRecDepth 20000 in
theorem fl_X1_takeMenu_29 : FL RX1 wsX1_takeMenu 29 4 2 := ⟨RX4, TX4, 4, rfl, by decide, us_X1_takeMenu_4, by decide +kernel⟩
set_option maxRecDepth 20000 in
theorem fl_X1_takeMenu_38 : FL RX1 wsX1_takeMenu 38 4 0 := ⟨RX4, TX4, 4, rfl, by decide, us_X1_takeMenu_4, by decide +kernel⟩
theorem k_X1_takeMenu_25 : KV RX1 wsX1_takeMenu rm_X1_takeMenu 25 RX1 yX1_clearMenu wsX1_clearMenu rm_X1_clearMenu 0 := ⟨_, _, _, _, gX1_takeMenu_X1_clearMenu, rfl, rfl, rfl, by decide +kernel, by decide⟩
set_option maxRecDepth 20000 in
theorem k_X1_takeMenu_41 : KN RX1 wsX1_takeMenu rm_X1_takeMenu yX7_isDish wsX7_isDish rm_X7_isDish 1 := ⟨_, _, _, _, gX1_takeMenu_X7_isDish_n41, by decide +kernel, by decide +kernel, rfl, rfl, rfl, by decide +kernel, by decide⟩
theorem k_X1_takeMenu_45 : KV RX1 wsX1_takeMenu rm_X1_takeMenu 45 RX1 yX1_append wsX1_append rm_X1_append 1 := ⟨_, _, _, _, gX1_takeMenu_X1_append, rfl, rfl, rfl, by decide +kernel, by decide⟩

set_option maxHeartbeats 4000000 in
set_option maxRecDepth 100000 in
theorem c_X1_takeMenu {l : Launch} {V : ab_V} {mu : ab_mem} {g s z : Nat} (hV : OKX V) (hg : g < 3) (hs : s < 4) (hz48 : z ≤ 48) (hz : mu (34 + 2 * s) 2 = nI z) : CT l V ShX yX1_takeMenu wsX1_takeMenu rm_X1_takeMenu [.ref (aL V (19 + 2 * g)), .ref (aL V (34 + 2 * s))] mu (pI (fun r mu2 => r = nI (rdF (mu (35 + 2 * s)) 0 (min z 24)) ∧ mu2 = tkX mu g s (rdF (mu (35 + 2 * s)) 0 (min z 24)))) := by
  refine ab_enter hV.1 (by decide) rfl (Nat.le_of_ble_eq_true rfl) ?_
  intro X B E
  have B : CX X l rm_X1_takeMenu RX1 cX1_takeMenu wsX1_takeMenu 4 V ShX := B
  show AW X V ShX 4 0 [some (.ref (aL V (19 + 2 * g))), some (.ref (aL V (34 + 2 * s))), none, none] [] mu
  have q1 := shG hg
  have q2 := shGm hg
  have q3 := shS hs
  have q4 := shSi hs
  obtain ⟨R, hR⟩ : ∃ R, (rdF (mu (35 + 2 * s)) 0 (min z 24)) = R := ⟨_, rfl⟩
  rw [hR] at E
  have k51 : AW X V ShX 4 51 [some (.ref (aL V (19 + 2 * g))), some (.ref (aL V (34 + 2 * s))), some (.int (nI (min z 24))), some (.int (nI R))] [] (tkX mu g s R) := by
    refine a_aload_n B dX1_takeMenu_51 rfl ?_
    refine a_geti B fl_X1_takeMenu_15 (by first | rfl | assumption) rfl dX1_takeMenu_52 ?_
    refine a_ireturn B E dX1_takeMenu_55 ?_
    exact ⟨tkX_n, rfl⟩
  have loop : ∀ (m j : Nat), j + m = min z 24 → j + rdF (mu (35 + 2 * s)) j m = R → AW X V ShX 4 17 [some (.ref (aL V (19 + 2 * g))), some (.ref (aL V (34 + 2 * s))), some (.int (nI (min z 24))), some (.int (nI j))] [] (tkX mu g s j) := by
    intro m
    induction m with
    | zero =>
      intro j hj hf
      refine a_iload_n B dX1_takeMenu_17 rfl ?_
      refine a_iload_n B dX1_takeMenu_18 rfl ?_
      refine a_icmp_ge_t (tgt := 51) B dX1_takeMenu_19 (by decide) (nI_le (by omega) (by omega)) ?_
      rw [show j = R from hf]
      exact k51
    | succ m ih =>
      intro j hj hf
      refine a_iload_n B dX1_takeMenu_17 rfl ?_
      refine a_iload_n B dX1_takeMenu_18 rfl ?_
      refine a_icmp_ge_f (tgt := 51) B dX1_takeMenu_19 (by decide) (nI_ge (by omega) (by omega)) ?_
      refine a_aload_n B dX1_takeMenu_22 rfl ?_
      refine a_getr B fl_X1_takeMenu_38 (by first | rfl | assumption) rfl dX1_takeMenu_23 ?_
      refine a_iload_n B dX1_takeMenu_26 rfl ?_
      refine a_ialdN B (j) (by first | rfl | assumption) rfl (by omega) (by decide) dX1_takeMenu_27 ?_
      rw [tkX_i hg hs]
      refine a_callNi B k_X1_takeMenu_41 (hV.2 _ B.2.2.2.1).1 (c_X7_isDish hV) rfl rfl (Nat.le_of_ble_eq_true rfl) dX1_takeMenu_28 (fun r28 mu28 h28 => ?_)
      obtain ⟨rfl, rfl⟩ := h28
      refine a_if_eq (tgt := 51) B dX1_takeMenu_31 (by decide) (fun c31 => ?_) (fun c31 => ?_)
      · have e : j = R := by rw [← hf, rdF, if_neg (by rw [bI_0.mp c31]; decide)]; rfl
        rw [e]
        exact k51
      · refine a_aload_n B dX1_takeMenu_34 rfl ?_
        refine a_aload_n B dX1_takeMenu_35 rfl ?_
        refine a_getr B fl_X1_takeMenu_38 (by first | rfl | assumption) rfl dX1_takeMenu_36 ?_
        refine a_iload_n B dX1_takeMenu_39 rfl ?_
        refine a_ialdN B (j) (by first | rfl | assumption) rfl (by omega) (by decide) dX1_takeMenu_40 ?_
        rw [tkX_i hg hs]
        refine a_callVi B k_X1_takeMenu_45 (c_X1_append (n := j) hV hg (by omega) tkX_n) (by first | rfl | assumption) rfl rfl rfl (Nat.le_of_ble_eq_true rfl) dX1_takeMenu_41 (fun r41 mu41 h41 => ?_)
        rw [if_neg (show ¬ j = 24 by omega)] at h41
        obtain ⟨rfl, rfl⟩ := h41
        have hd := bI_n0.mp c31
        rw [if_neg (fun e => by rw [e.1] at hd; exact absurd hd (by decide)), tkX_s]
        refine a_pop B dX1_takeMenu_44 rfl ?_
        refine a_iinc (v := 1) B dX1_takeMenu_45 rfl (by decide) (by decide) ?_
        refine a_goto (tgt := 17) B dX1_takeMenu_48 (by decide) ?_
        rw [nI_1]
        refine ih (j + 1) (by omega) ?_
        rw [← hf, rdF, if_pos (bI_n0.mp c31)]
        omega
  refine a_aload_n B dX1_takeMenu_0 rfl ?_
  refine a_callVi B k_X1_takeMenu_25 (c_X1_clearMenu hV hg) (by first | rfl | assumption) rfl rfl rfl (Nat.le_of_ble_eq_true rfl) dX1_takeMenu_1 (fun r1 mu1 h1 => ?_)
  obtain ⟨rfl, rfl⟩ := h1
  refine a_pop B dX1_takeMenu_4 rfl ?_
  refine a_aload_n B dX1_takeMenu_5 rfl ?_
  refine a_geti B fl_X1_takeMenu_29 (by first | rfl | assumption) rfl dX1_takeMenu_6 ?_
  refine a_bipush (v := 24) B dX1_takeMenu_9 (by decide) ?_
  refine a_min B (by decide +kernel) (by decide +kernel) (by decide +kernel) (by decide +kernel) (by decide) (Nat.le_of_ble_eq_true rfl) dX1_takeMenu_11 ?_
  rw [ab_up_o (by omega), ab_up_o (by omega), hz, min24 z hz48]
  refine a_istore_n B dX1_takeMenu_14 (by decide) ?_
  refine a_iconst (v := 0) B dX1_takeMenu_15 (by decide) ?_
  refine a_istore_n B dX1_takeMenu_16 (by decide) ?_
  rw [← tkX_0 (s := s)]
  exact loop (min z 24) 0 (by omega) (by rw [Nat.zero_add]; exact hR)
theorem nxt_lo {e : Nat → Int32} {v d : Int32} (h : ¬ 0 ≤ v + e d.toNatClampNeg) : nxt e v d = 0 := by
  rw [nxt, if_pos (Int32.not_le.mp h)]
theorem nxt_mid {e : Nat → Int32} {v d : Int32} (h : 0 ≤ v + e d.toNatClampNeg) (h2 : ¬ 10 ≤ v + e d.toNatClampNeg) : nxt e v d = v + e d.toNatClampNeg := by
  rw [nxt, if_neg (Int32.not_lt.mpr h), if_neg]
  rw [fa_lt]
  rw [fa_le] at h2
  have e1 : (9 : Int32).toInt = 9 := by decide
  have e2 : (10 : Int32).toInt = 10 := by decide
  omega
theorem nxt_hi {e : Nat → Int32} {v d : Int32} (h : 0 ≤ v + e d.toNatClampNeg) (h2 : 10 ≤ v + e d.toNatClampNeg) : nxt e v d = 9 := by
  rw [nxt, if_neg (Int32.not_lt.mpr h), if_pos]
  rw [fa_lt]
  rw [fa_le] at h2
  have e1 : (9 : Int32).toInt = 9 := by decide
  have e2 : (10 : Int32).toInt = 10 := by decide
  omega
abbrev rm_X3_levelAfter : Room := { frames := 0, cells := 0, slots := 0, locals := 0 }
set_option maxRecDepth 20000 in
theorem us_X3_levelAfter_3 : ∀ w ∈ u_ws RX3 TX3 5, w ∈ wsX3_levelAfter := by decide +kernel
set_option maxRecDepth 20000 in
theorem fl_X3_levelAfter_9 : FL RX3 wsX3_levelAfter 9 3 0 := ⟨RX3, TX3, 5, rfl, by decide, us_X3_levelAfter_3, by decide +kernel⟩

set_option maxHeartbeats 4000000 in
set_option maxRecDepth 100000 in
theorem c_X3_levelAfter {l : Launch} {V : ab_V} {mu : ab_mem} {v d : Int32} (hV : OKX V) (hd : vp_in d 7) : CT l V ShX yX3_levelAfter wsX3_levelAfter rm_X3_levelAfter [.ref (aL V 4), .int v, .int d] mu (pI (fun r mu2 => r = nxt (mu 5) v d ∧ mu = mu2)) := by
  refine ab_enter hV.1 (by decide) rfl (Nat.le_of_ble_eq_true rfl) ?_
  intro X B E
  have B : CX X l rm_X3_levelAfter RX3 cX3_levelAfter wsX3_levelAfter 4 V ShX := B
  show AW X V ShX 4 0 [some (.ref (aL V 4)), some (.int v), some (.int d), none] [] mu
  refine a_iload_n B dX3_levelAfter_0 rfl ?_
  refine a_if_lt_f (tgt := 21) B dX3_levelAfter_1 (by decide) (fun z => hd (Or.inl z)) ?_
  refine a_iload_n B dX3_levelAfter_4 rfl ?_
  refine a_bipush (v := 7) B dX3_levelAfter_5 (by decide) ?_
  refine a_icmp_ge_f (tgt := 21) B dX3_levelAfter_7 (by decide) (by obtain ⟨j, hj, rfl⟩ := vp_in_of hd (by decide); exact nI_ge (a := j) (b := 7) hj (by decide)) ?_
  refine a_iload_n B dX3_levelAfter_10 rfl ?_
  refine a_aload_n B dX3_levelAfter_11 rfl ?_
  refine a_getr B fl_X3_levelAfter_9 (by first | rfl | assumption) rfl dX3_levelAfter_12 ?_
  refine a_iload_n B dX3_levelAfter_15 rfl ?_
  refine a_iald B (by first | rfl | assumption) hd dX3_levelAfter_16 ?_
  refine a_iadd B dX3_levelAfter_17 ?_
  refine a_goto (tgt := 22) B dX3_levelAfter_18 (by decide) ?_
  refine a_istore_n B dX3_levelAfter_22 (by decide) ?_
  refine a_iload_n B dX3_levelAfter_23 rfl ?_
  refine a_if_ge (tgt := 29) B dX3_levelAfter_24 (by decide) (fun c24 => ?_) (fun c24 => ?_)
  · refine a_iload_n B dX3_levelAfter_29 rfl ?_
    refine a_bipush (v := 10) B dX3_levelAfter_30 (by decide) ?_
    refine a_icmp_ge (tgt := 39) B dX3_levelAfter_32 (by decide) (fun c32 => ?_) (fun c32 => ?_)
    · refine a_bipush (v := 9) B dX3_levelAfter_39 (by decide) ?_
      refine a_ireturn B E dX3_levelAfter_41 ?_
      refine ⟨?_, rfl⟩
      first
        | exact (nxt_lo c24).symm
        | exact (nxt_mid c24 c32).symm
        | exact (nxt_hi c24 c32).symm
    · refine a_iload_n B dX3_levelAfter_35 rfl ?_
      refine a_goto (tgt := 41) B dX3_levelAfter_36 (by decide) ?_
      refine a_ireturn B E dX3_levelAfter_41 ?_
      refine ⟨?_, rfl⟩
      first
        | exact (nxt_lo c24).symm
        | exact (nxt_mid c24 c32).symm
        | exact (nxt_hi c24 c32).symm
  · refine a_iconst (v := 0) B dX3_levelAfter_27 (by decide) ?_
    refine a_ireturn B E dX3_levelAfter_28 ?_
    refine ⟨?_, rfl⟩
    first
      | exact (nxt_lo c24).symm
      | exact (nxt_mid c24 c32).symm
      | exact (nxt_hi c24 c32).symm
abbrev rm_X3_hiccupsAt : Room := { frames := 0, cells := 0, slots := 0, locals := 0 }
set_option maxRecDepth 20000 in
theorem us_X3_hiccupsAt_3 : ∀ w ∈ u_ws RX3 TX3 5, w ∈ wsX3_hiccupsAt := by decide +kernel
set_option maxRecDepth 20000 in
theorem fl_X3_hiccupsAt_18 : FL RX3 wsX3_hiccupsAt 18 3 2 := ⟨RX3, TX3, 5, rfl, by decide, us_X3_hiccupsAt_3, by decide +kernel⟩

set_option maxHeartbeats 4000000 in
set_option maxRecDepth 100000 in
theorem c_X3_hiccupsAt {l : Launch} {V : ab_V} {mu : ab_mem} {v d : Int32} (hV : OKX V)  : CT l V ShX yX3_hiccupsAt wsX3_hiccupsAt rm_X3_hiccupsAt [.ref (aL V 4), .int v, .int d] mu (pI (fun r mu2 => r = bI (hicB (mu 4 2) v d) ∧ mu = mu2)) := by
  refine ab_enter hV.1 (by decide) rfl (Nat.le_of_ble_eq_true rfl) ?_
  intro X B E
  have B : CX X l rm_X3_hiccupsAt RX3 cX3_hiccupsAt wsX3_hiccupsAt 3 V ShX := B
  show AW X V ShX 3 0 [some (.ref (aL V 4)), some (.int v), some (.int d)] [] mu
  refine a_iload_n B dX3_hiccupsAt_0 rfl ?_
  refine a_aload_n B dX3_hiccupsAt_1 rfl ?_
  refine a_geti B fl_X3_hiccupsAt_18 (by first | rfl | assumption) rfl dX3_hiccupsAt_2 ?_
  refine a_icmp_lt (tgt := 17) B dX3_hiccupsAt_5 (by decide) (fun c5 => ?_) (fun c5 => ?_)
  · refine a_iconst (v := 0) B dX3_hiccupsAt_17 (by decide) ?_
    refine a_zreturn B E dX3_hiccupsAt_18 (by first | rfl | exact nar_bI _) ?_
    exact ⟨by first | (simp [bI, hicB, Int32.not_le.mpr c5]; done) | simp_all [bI, hicB, Int32.not_lt, Int32.not_le], rfl⟩
  · refine a_iload_n B dX3_hiccupsAt_8 rfl ?_
    refine a_iconst (v := 5) B dX3_hiccupsAt_9 (by decide) ?_
    refine a_icmp_eq (tgt := 17) B dX3_hiccupsAt_10 (by decide) (fun c10 => ?_) (fun c10 => ?_)
    · refine a_iconst (v := 0) B dX3_hiccupsAt_17 (by decide) ?_
      refine a_zreturn B E dX3_hiccupsAt_18 (by first | rfl | exact nar_bI _) ?_
      exact ⟨by first | (simp [bI, hicB, Int32.not_le.mpr c5]; done) | simp_all [bI, hicB, Int32.not_lt, Int32.not_le], rfl⟩
    · refine a_iconst (v := 1) B dX3_hiccupsAt_13 (by decide) ?_
      refine a_goto (tgt := 18) B dX3_hiccupsAt_14 (by decide) ?_
      refine a_zreturn B E dX3_hiccupsAt_18 (by first | rfl | exact nar_bI _) ?_
      exact ⟨by first | (simp [bI, hicB, Int32.not_le.mpr c5]; done) | simp_all [bI, hicB, Int32.not_lt, Int32.not_le], rfl⟩
theorem bit01 (x : Int32) : x &&& 1 = 0 ∨ x &&& 1 = 1 := by
  have h := pk_and x (m := 1) 1 (by decide)
  rw [h]
  rcases (show x.toBitVec.toNat % 2 ^ 1 = 0 ∨ x.toBitVec.toNat % 2 ^ 1 = 1 by omega) with e | e
  · exact Or.inl (by rw [e]; rfl)
  · exact Or.inr (by rw [e]; rfl)
abbrev rm_X3_mayServe : Room := { frames := 0, cells := 0, slots := 0, locals := 0 }
set_option maxRecDepth 20000 in
theorem us_X3_mayServe_3 : ∀ w ∈ u_ws RX3 TX3 5, w ∈ wsX3_mayServe := by decide +kernel
set_option maxRecDepth 20000 in
theorem fl_X3_mayServe_25 : FL RX3 wsX3_mayServe 25 3 4 := ⟨RX3, TX3, 5, rfl, by decide, us_X3_mayServe_3, by decide +kernel⟩

set_option maxHeartbeats 4000000 in
set_option maxRecDepth 100000 in
theorem c_X3_mayServe {l : Launch} {V : ab_V} {mu : ab_mem} {d : Int32} (hV : OKX V)  : CT l V ShX yX3_mayServe wsX3_mayServe rm_X3_mayServe [.ref (aL V 4), .int d] mu (pI (fun r mu2 => r = bI (!bitB (mu 4 4) d) ∧ mu = mu2)) := by
  refine ab_enter hV.1 (by decide) rfl (Nat.le_of_ble_eq_true rfl) ?_
  intro X B E
  have B : CX X l rm_X3_mayServe RX3 cX3_mayServe wsX3_mayServe 2 V ShX := B
  show AW X V ShX 2 0 [some (.ref (aL V 4)), some (.int d)] [] mu
  refine a_aload_n B dX3_mayServe_0 rfl ?_
  refine a_geti B fl_X3_mayServe_25 (by first | rfl | assumption) rfl dX3_mayServe_1 ?_
  refine a_iload_n B dX3_mayServe_4 rfl ?_
  refine a_ishr B dX3_mayServe_5 ?_
  refine a_iconst (v := 1) B dX3_mayServe_6 (by decide) ?_
  refine a_iand B dX3_mayServe_7 ?_
  refine a_if_ne (tgt := 15) B dX3_mayServe_8 (by decide) (fun c8 => ?_) (fun c8 => ?_)
  · refine a_iconst (v := 0) B dX3_mayServe_15 (by decide) ?_
    refine a_zreturn B E dX3_mayServe_16 (by first | rfl | exact nar_bI _) ?_
    refine ⟨?_, rfl⟩
    rw [bitB]
    first
      | (rw [decide_eq_false (fun z => absurd (z.symm.trans c8) (by decide))]; rfl)
      | (rw [decide_eq_true ((bit01 _).resolve_left c8)]; rfl)
  · refine a_iconst (v := 1) B dX3_mayServe_11 (by decide) ?_
    refine a_goto (tgt := 16) B dX3_mayServe_12 (by decide) ?_
    refine a_zreturn B E dX3_mayServe_16 (by first | rfl | exact nar_bI _) ?_
    refine ⟨?_, rfl⟩
    rw [bitB]
    first
      | (rw [decide_eq_false (fun z => absurd (z.symm.trans c8) (by decide))]; rfl)
      | (rw [decide_eq_true ((bit01 _).resolve_left c8)]; rfl)
abbrev rm_X3_priceOf : Room := { frames := 2, cells := 0, slots := 0, locals := 42 }
set_option maxRecDepth 20000 in
theorem us_X3_priceOf_3 : ∀ w ∈ u_ws RX3 TX3 5, w ∈ wsX3_priceOf := by decide +kernel
set_option maxRecDepth 20000 in
theorem fl_X3_priceOf_15 : FL RX3 wsX3_priceOf 15 3 1 := ⟨RX3, TX3, 5, rfl, by decide, us_X3_priceOf_3, by decide +kernel⟩
set_option maxRecDepth 20000 in
theorem k_X3_priceOf_28 : KN RX3 wsX3_priceOf rm_X3_priceOf yX7_isDish wsX7_isDish rm_X7_isDish 1 := ⟨_, _, _, _, gX3_priceOf_X7_isDish_n28, by decide +kernel, by decide +kernel, rfl, rfl, rfl, by decide +kernel, by decide⟩

set_option maxHeartbeats 4000000 in
set_option maxRecDepth 100000 in
theorem c_X3_priceOf {l : Launch} {V : ab_V} {mu : ab_mem} {d : Nat} (hV : OKX V) (hd : d < 7) : CT l V ShX yX3_priceOf wsX3_priceOf rm_X3_priceOf [.ref (aL V 4), .int (nI d)] mu (pI (fun r mu2 => r = mu 6 d ∧ mu = mu2)) := by
  refine ab_enter hV.1 (by decide) rfl (Nat.le_of_ble_eq_true rfl) ?_
  intro X B E
  have B : CX X l rm_X3_priceOf RX3 cX3_priceOf wsX3_priceOf 2 V ShX := B
  show AW X V ShX 2 0 [some (.ref (aL V 4)), some (.int (nI d))] [] mu
  refine a_iload_n B dX3_priceOf_0 rfl ?_
  refine a_callNi B k_X3_priceOf_28 (hV.2 _ B.2.2.2.1).2.2.2.1 (c_X7_isDish hV) rfl rfl (Nat.le_of_ble_eq_true rfl) dX3_priceOf_1 (fun r1 mu1 h1 => ?_)
  obtain ⟨rfl, rfl⟩ := h1
  refine a_if_eq_f (tgt := 16) B dX3_priceOf_4 (by decide) (bI_n0.mpr (inB_nI (n := 6) (by omega) (by decide))) ?_
  refine a_aload_n B dX3_priceOf_7 rfl ?_
  refine a_getr B fl_X3_priceOf_15 (by first | rfl | assumption) rfl dX3_priceOf_8 ?_
  refine a_iload_n B dX3_priceOf_11 rfl ?_
  refine a_ialdN B (d) (by first | rfl | assumption) rfl (by omega) (by decide) dX3_priceOf_12 ?_
  refine a_goto (tgt := 17) B dX3_priceOf_13 (by decide) ?_
  refine a_ireturn B E dX3_priceOf_17 ?_
  exact ⟨rfl, rfl⟩
