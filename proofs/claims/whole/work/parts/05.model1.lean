def dishBy (b : Int32) : Int32 := if b = 110 then 0 else if b = 98 then 1 else if b = 99 then 2 else if b = 118 then 3 else if b = 102 then 4 else if b = 115 then 5 else if b = 104 then 6 else -1
def byteOf (d : Int32) : Int32 := if d = 0 then 110 else if d = 1 then 98 else if d = 2 then 99 else if d = 3 then 118 else if d = 4 then 102 else if d = 5 then 115 else 104
abbrev rm_X8_dishBy : Room := { frames := 0, cells := 0, slots := 0, locals := 0 }

set_option maxHeartbeats 4000000 in
set_option maxRecDepth 100000 in
theorem c_X8_dishBy {l : Launch} {V : ab_V} {mu : ab_mem} {b : Int32} (hV : ab_OK V ShM)  : CT l V ShM yX8_dishBy wsX8_dishBy rm_X8_dishBy [.int b] mu (pI (fun r mu2 => r = dishBy b ∧ mu = mu2)) := by
  refine ab_enter hV (by decide) rfl (Nat.le_of_ble_eq_true rfl) ?_
  intro X B E
  have B : CX X l rm_X8_dishBy RX8 cX8_dishBy wsX8_dishBy 1 V ShM := B
  show AW X V ShM 1 0 [some (.int b)] [] mu
  refine a_iload_n B dX8_dishBy_0 rfl ?_
  refine a_bipush (v := 110) B dX8_dishBy_1 (by decide) ?_
  refine a_icmp_ne (tgt := 10) B dX8_dishBy_3 (by decide) (fun c3 => ?_) (fun c3 => ?_)
  · refine a_iload_n B dX8_dishBy_10 rfl ?_
    refine a_bipush (v := 98) B dX8_dishBy_11 (by decide) ?_
    refine a_icmp_ne (tgt := 20) B dX8_dishBy_13 (by decide) (fun c13 => ?_) (fun c13 => ?_)
    · refine a_iload_n B dX8_dishBy_20 rfl ?_
      refine a_bipush (v := 99) B dX8_dishBy_21 (by decide) ?_
      refine a_icmp_ne (tgt := 30) B dX8_dishBy_23 (by decide) (fun c23 => ?_) (fun c23 => ?_)
      · refine a_iload_n B dX8_dishBy_30 rfl ?_
        refine a_bipush (v := 118) B dX8_dishBy_31 (by decide) ?_
        refine a_icmp_ne (tgt := 40) B dX8_dishBy_33 (by decide) (fun c33 => ?_) (fun c33 => ?_)
        · refine a_iload_n B dX8_dishBy_40 rfl ?_
          refine a_bipush (v := 102) B dX8_dishBy_41 (by decide) ?_
          refine a_icmp_ne (tgt := 50) B dX8_dishBy_43 (by decide) (fun c43 => ?_) (fun c43 => ?_)
          · refine a_iload_n B dX8_dishBy_50 rfl ?_
            refine a_bipush (v := 115) B dX8_dishBy_51 (by decide) ?_
            refine a_icmp_ne (tgt := 60) B dX8_dishBy_53 (by decide) (fun c53 => ?_) (fun c53 => ?_)
            · refine a_iload_n B dX8_dishBy_60 rfl ?_
              refine a_bipush (v := 104) B dX8_dishBy_61 (by decide) ?_
              refine a_icmp_ne (tgt := 71) B dX8_dishBy_63 (by decide) (fun c63 => ?_) (fun c63 => ?_)
              · refine a_iconst (v := -1) B dX8_dishBy_71 (by decide) ?_
                refine a_ireturn B E dX8_dishBy_72 ?_
                exact ⟨by simp_all [dishBy], rfl⟩
              · refine a_bipush (v := 6) B dX8_dishBy_66 (by decide) ?_
                refine a_goto (tgt := 72) B dX8_dishBy_68 (by decide) ?_
                refine a_ireturn B E dX8_dishBy_72 ?_
                exact ⟨by simp_all [dishBy], rfl⟩
            · refine a_iconst (v := 5) B dX8_dishBy_56 (by decide) ?_
              refine a_goto (tgt := 72) B dX8_dishBy_57 (by decide) ?_
              refine a_ireturn B E dX8_dishBy_72 ?_
              exact ⟨by simp_all [dishBy], rfl⟩
          · refine a_iconst (v := 4) B dX8_dishBy_46 (by decide) ?_
            refine a_goto (tgt := 72) B dX8_dishBy_47 (by decide) ?_
            refine a_ireturn B E dX8_dishBy_72 ?_
            exact ⟨by simp_all [dishBy], rfl⟩
        · refine a_iconst (v := 3) B dX8_dishBy_36 (by decide) ?_
          refine a_goto (tgt := 72) B dX8_dishBy_37 (by decide) ?_
          refine a_ireturn B E dX8_dishBy_72 ?_
          exact ⟨by simp_all [dishBy], rfl⟩
      · refine a_iconst (v := 2) B dX8_dishBy_26 (by decide) ?_
        refine a_goto (tgt := 72) B dX8_dishBy_27 (by decide) ?_
        refine a_ireturn B E dX8_dishBy_72 ?_
        exact ⟨by simp_all [dishBy], rfl⟩
    · refine a_iconst (v := 1) B dX8_dishBy_16 (by decide) ?_
      refine a_goto (tgt := 72) B dX8_dishBy_17 (by decide) ?_
      refine a_ireturn B E dX8_dishBy_72 ?_
      exact ⟨by simp_all [dishBy], rfl⟩
  · refine a_iconst (v := 0) B dX8_dishBy_6 (by decide) ?_
    refine a_goto (tgt := 72) B dX8_dishBy_7 (by decide) ?_
    refine a_ireturn B E dX8_dishBy_72 ?_
    exact ⟨by simp_all [dishBy], rfl⟩
abbrev rm_X8_byteOf : Room := { frames := 0, cells := 0, slots := 0, locals := 0 }

set_option maxHeartbeats 4000000 in
set_option maxRecDepth 100000 in
theorem c_X8_byteOf {l : Launch} {V : ab_V} {mu : ab_mem} {b : Int32} (hV : ab_OK V ShM)  : CT l V ShM yX8_byteOf wsX8_byteOf rm_X8_byteOf [.int b] mu (pI (fun r mu2 => r = byteOf b ∧ mu = mu2)) := by
  refine ab_enter hV (by decide) rfl (Nat.le_of_ble_eq_true rfl) ?_
  intro X B E
  have B : CX X l rm_X8_byteOf RX8 cX8_byteOf wsX8_byteOf 1 V ShM := B
  show AW X V ShM 1 0 [some (.int b)] [] mu
  refine a_iload_n B dX8_byteOf_0 rfl ?_
  refine a_if_ne (tgt := 9) B dX8_byteOf_1 (by decide) (fun c1 => ?_) (fun c1 => ?_)
  · refine a_iload_n B dX8_byteOf_9 rfl ?_
    refine a_iconst (v := 1) B dX8_byteOf_10 (by decide) ?_
    refine a_icmp_ne (tgt := 19) B dX8_byteOf_11 (by decide) (fun c11 => ?_) (fun c11 => ?_)
    · refine a_iload_n B dX8_byteOf_19 rfl ?_
      refine a_iconst (v := 2) B dX8_byteOf_20 (by decide) ?_
      refine a_icmp_ne (tgt := 29) B dX8_byteOf_21 (by decide) (fun c21 => ?_) (fun c21 => ?_)
      · refine a_iload_n B dX8_byteOf_29 rfl ?_
        refine a_iconst (v := 3) B dX8_byteOf_30 (by decide) ?_
        refine a_icmp_ne (tgt := 39) B dX8_byteOf_31 (by decide) (fun c31 => ?_) (fun c31 => ?_)
        · refine a_iload_n B dX8_byteOf_39 rfl ?_
          refine a_iconst (v := 4) B dX8_byteOf_40 (by decide) ?_
          refine a_icmp_ne (tgt := 49) B dX8_byteOf_41 (by decide) (fun c41 => ?_) (fun c41 => ?_)
          · refine a_iload_n B dX8_byteOf_49 rfl ?_
            refine a_iconst (v := 5) B dX8_byteOf_50 (by decide) ?_
            refine a_icmp_ne (tgt := 59) B dX8_byteOf_51 (by decide) (fun c51 => ?_) (fun c51 => ?_)
            · refine a_bipush (v := 104) B dX8_byteOf_59 (by decide) ?_
              refine a_ireturn B E dX8_byteOf_61 ?_
              exact ⟨by simp_all [byteOf], rfl⟩
            · refine a_bipush (v := 115) B dX8_byteOf_54 (by decide) ?_
              refine a_goto (tgt := 61) B dX8_byteOf_56 (by decide) ?_
              refine a_ireturn B E dX8_byteOf_61 ?_
              exact ⟨by simp_all [byteOf], rfl⟩
          · refine a_bipush (v := 102) B dX8_byteOf_44 (by decide) ?_
            refine a_goto (tgt := 61) B dX8_byteOf_46 (by decide) ?_
            refine a_ireturn B E dX8_byteOf_61 ?_
            exact ⟨by simp_all [byteOf], rfl⟩
        · refine a_bipush (v := 118) B dX8_byteOf_34 (by decide) ?_
          refine a_goto (tgt := 61) B dX8_byteOf_36 (by decide) ?_
          refine a_ireturn B E dX8_byteOf_61 ?_
          exact ⟨by simp_all [byteOf], rfl⟩
      · refine a_bipush (v := 99) B dX8_byteOf_24 (by decide) ?_
        refine a_goto (tgt := 61) B dX8_byteOf_26 (by decide) ?_
        refine a_ireturn B E dX8_byteOf_61 ?_
        exact ⟨by simp_all [byteOf], rfl⟩
    · refine a_bipush (v := 98) B dX8_byteOf_14 (by decide) ?_
      refine a_goto (tgt := 61) B dX8_byteOf_16 (by decide) ?_
      refine a_ireturn B E dX8_byteOf_61 ?_
      exact ⟨by simp_all [byteOf], rfl⟩
  · refine a_bipush (v := 110) B dX8_byteOf_4 (by decide) ?_
    refine a_goto (tgt := 61) B dX8_byteOf_6 (by decide) ?_
    refine a_ireturn B E dX8_byteOf_61 ?_
    exact ⟨by simp_all [byteOf], rfl⟩
abbrev rm_X8_no : Room := { frames := 0, cells := 0, slots := 0, locals := 0 }

set_option maxHeartbeats 4000000 in
set_option maxRecDepth 100000 in
theorem c_X8_no {l : Launch} {V : ab_V} {mu : ab_mem} {b : Int32} (hV : ab_OK V ShM)  : CT l V ShM yX8_no wsX8_no rm_X8_no [.int b] mu (pL (fun r mu2 => r = -9223372036854775808 - b.toInt64 ∧ mu = mu2)) := by
  refine ab_enter hV (by decide) rfl (Nat.le_of_ble_eq_true rfl) ?_
  intro X B E
  have B : CX X l rm_X8_no RX8 cX8_no wsX8_no 1 V ShM := B
  show AW X V ShM 1 0 [some (.int b)] [] mu
  refine a_ldc2 (v := -9223372036854775808) B (by decide +kernel) dX8_no_0 ?_
  refine a_iload_n B dX8_no_3 rfl ?_
  refine a_i2l B dX8_no_4 ?_
  refine a_lsub B dX8_no_5 ?_
  refine a_lreturn B E dX8_no_6 ?_
  exact ⟨rfl, rfl⟩
abbrev rm_X8_type : Room := { frames := 2, cells := 0, slots := 0, locals := 42 }
set_option maxRecDepth 20000 in
theorem us_X8_type_8 : ∀ w ∈ u_ws RX8 TX8 23, w ∈ wsX8_type := by decide +kernel
set_option maxRecDepth 20000 in
theorem fl_X8_type_7 : FL RX8 wsX8_type 7 8 0 := ⟨RX8, TX8, 23, rfl, by decide, us_X8_type_8, by decide +kernel⟩
set_option maxRecDepth 20000 in
theorem fl_X8_type_13 : FL RX8 wsX8_type 13 8 1 := ⟨RX8, TX8, 23, rfl, by decide, us_X8_type_8, by decide +kernel⟩
theorem k_X8_type_71 : KS RX8 wsX8_type rm_X8_type 71 yX8_in wsX8_in rm_X8_in 3 := ⟨_, _, _, _, gX8_type_X8_in, rfl, rfl, rfl, by decide +kernel, by decide⟩
theorem k_X8_type_75 : KS RX8 wsX8_type rm_X8_type 75 yX8_isGeneral wsX8_isGeneral rm_X8_isGeneral 1 := ⟨_, _, _, _, gX8_type_X8_isGeneral, rfl, rfl, rfl, by decide +kernel, by decide⟩

set_option maxHeartbeats 4000000 in
set_option maxRecDepth 100000 in
theorem c_X8_type {l : Launch} {V : ab_V} {mu : ab_mem} {g n : Nat} {b : Int32} (hV : ab_OK V ShM) (hg : g < 3) (hb : inB b 0 255 = true) (hn : n ≤ 24) (hm : mu 1 g = nI n) : CT l V ShM yX8_type wsX8_type rm_X8_type [.ref (aL V 0), .int (nI g), .int b] mu (pI (fun r mu2 => if n = 24 then r = -4 ∧ mu = mu2 else r = nI (n + 1) ∧ mu2 = ab_up (ab_up mu 2 (24 * g + n) b) 1 g (nI (n + 1)))) := by
  refine ab_enter hV (by decide) rfl (Nat.le_of_ble_eq_true rfl) ?_
  intro X B E
  have B : CX X l rm_X8_type RX8 cX8_type wsX8_type 3 V ShM := B
  show AW X V ShM 3 0 [some (.ref (aL V 0)), some (.int (nI g)), some (.int b)] [] mu
  refine a_iload_n B dX8_type_0 rfl ?_
  refine a_callSi B k_X8_type_75 (c_X8_isGeneral hV) rfl rfl (Nat.le_of_ble_eq_true rfl) dX8_type_1 (fun r1 mu1 h1 => ?_)
  obtain ⟨rfl, rfl⟩ := h1
  refine a_if_eq_f (tgt := 18) B dX8_type_4 (by decide) (bI_n0.mpr (inB_nI (n := 2) (by omega) (by decide))) ?_
  refine a_iload_n B dX8_type_7 rfl ?_
  refine a_iconst (v := 0) B dX8_type_8 (by decide) ?_
  refine a_sipush (v := 255) B dX8_type_9 (by decide) ?_
  refine a_callSi B k_X8_type_71 (c_X8_in hV) rfl rfl (Nat.le_of_ble_eq_true rfl) dX8_type_12 (fun r12 mu12 h12 => ?_)
  obtain ⟨rfl, rfl⟩ := h12
  refine a_if_ne_t (tgt := 21) B dX8_type_15 (by decide) ((bI_n0.mpr hb)) ?_
  refine a_aload_n B dX8_type_21 rfl ?_
  refine a_getr B fl_X8_type_7 (by first | rfl | assumption) rfl dX8_type_22 ?_
  refine a_iload_n B dX8_type_25 rfl ?_
  refine a_ialdN B (g) (by first | rfl | assumption) rfl (by omega) (by decide) dX8_type_26 ?_
  refine a_bipush (v := 24) B dX8_type_27 (by decide) ?_
  rw [hm]
  refine a_icmp_ne (tgt := 35) B dX8_type_29 (by decide) (fun c29 => ?_) (fun c29 => ?_)
  · refine a_aload_n B dX8_type_35 rfl ?_
    refine a_getr B fl_X8_type_13 (by first | rfl | assumption) rfl dX8_type_36 ?_
    refine a_bipush (v := 24) B dX8_type_39 (by decide) ?_
    refine a_iload_n B dX8_type_41 rfl ?_
    refine a_imul B dX8_type_42 ?_
    refine a_aload_n B dX8_type_43 rfl ?_
    refine a_getr B fl_X8_type_7 (by first | rfl | assumption) rfl dX8_type_44 ?_
    refine a_iload_n B dX8_type_47 rfl ?_
    refine a_ialdN B (g) (by first | rfl | assumption) rfl (by omega) (by decide) dX8_type_48 ?_
    refine a_iadd B dX8_type_49 ?_
    refine a_iload_n B dX8_type_50 rfl ?_
    refine a_iastN B (24 * g + n) (by first | rfl | assumption) (by rw [hm]; exact ix24 g n) (by have : n ≠ 24 := (fun e => c29 (by rw [e]; rfl)); omega) (by decide)  dX8_type_51 ?_
    refine a_aload_n B dX8_type_52 rfl ?_
    refine a_getr B fl_X8_type_7 (by first | rfl | assumption) rfl dX8_type_53 ?_
    refine a_iload_n B dX8_type_56 rfl ?_
    refine a_dup2 B dX8_type_57 rfl rfl ?_
    refine a_ialdN B (g) (by first | rfl | assumption) rfl (by omega) (by decide) dX8_type_58 ?_
    refine a_iconst (v := 1) B dX8_type_59 (by decide) ?_
    refine a_iadd B dX8_type_60 ?_
    refine a_iastN B (g) (by first | rfl | assumption) rfl (by omega) (by decide)  dX8_type_61 ?_
    refine a_aload_n B dX8_type_62 rfl ?_
    refine a_getr B fl_X8_type_7 (by first | rfl | assumption) rfl dX8_type_63 ?_
    refine a_iload_n B dX8_type_66 rfl ?_
    refine a_ialdN B (g) (by first | rfl | assumption) rfl (by omega) (by decide) dX8_type_67 ?_
    refine a_ireturn B E dX8_type_68 ?_
    have e : n ≠ 24 := fun e => c29 (by rw [e]; rfl)
    rw [if_neg e]
    have e1 : ab_up mu 2 (24 * g + n) b 1 g + 1 = nI (n + 1) := by rw [ab_up_o (by decide), hm]; exact nI_1 n
    rw [e1]
    exact ⟨ab_up_k, rfl⟩
  · refine a_bipush (v := -4) B dX8_type_32 (by decide) ?_
    refine a_ireturn B E dX8_type_34 ?_
    have e : n = 24 := (nI_eq (a := n) (b := 24) (by omega) (by decide)).mp c29
    rw [if_pos e]
    exact ⟨rfl, rfl⟩
set_option maxHeartbeats 4000000 in
set_option maxRecDepth 100000 in
theorem c_X8_type_bad {l : Launch} {V : ab_V} {mu : ab_mem} {a b : Int32} (hV : ab_OK V ShM) (hbad : ¬ (inB a 0 2 = true ∧ inB b 0 255 = true)) : CT l V ShM yX8_type wsX8_type rm_X8_type [.ref (aL V 0), .int a, .int b] mu (pI (fun r mu2 => r = -2 ∧ mu = mu2)) := by
  refine ab_enter hV (by decide) rfl (Nat.le_of_ble_eq_true rfl) ?_
  intro X B E
  have B : CX X l rm_X8_type RX8 cX8_type wsX8_type 3 V ShM := B
  show AW X V ShM 3 0 [some (.ref (aL V 0)), some (.int a), some (.int b)] [] mu
  refine a_iload_n B dX8_type_0 rfl ?_
  refine a_callSi B k_X8_type_75 (c_X8_isGeneral hV) rfl rfl (Nat.le_of_ble_eq_true rfl) dX8_type_1 (fun r1 mu1 h1 => ?_)
  obtain ⟨rfl, rfl⟩ := h1
  refine a_if_eq (tgt := 18) B dX8_type_4 (by decide) (fun c4 => ?_) (fun c4 => ?_)
  · refine a_bipush (v := -2) B dX8_type_18 (by decide) ?_
    refine a_ireturn B E dX8_type_20 ?_
    exact ⟨rfl, rfl⟩
  · refine a_iload_n B dX8_type_7 rfl ?_
    refine a_iconst (v := 0) B dX8_type_8 (by decide) ?_
    refine a_sipush (v := 255) B dX8_type_9 (by decide) ?_
    refine a_callSi B k_X8_type_71 (c_X8_in hV) rfl rfl (Nat.le_of_ble_eq_true rfl) dX8_type_12 (fun r12 mu12 h12 => ?_)
    obtain ⟨rfl, rfl⟩ := h12
    refine a_if_ne (tgt := 21) B dX8_type_15 (by decide) (fun c15 => ?_) (fun c15 => ?_)
    · exfalso
      simp_all [bI_0, bI_n0]
    · refine a_bipush (v := -2) B dX8_type_18 (by decide) ?_
      refine a_ireturn B E dX8_type_20 ?_
      exact ⟨rfl, rfl⟩
abbrev rm_X8_wipe : Room := { frames := 2, cells := 0, slots := 0, locals := 42 }
set_option maxRecDepth 20000 in
theorem us_X8_wipe_8 : ∀ w ∈ u_ws RX8 TX8 23, w ∈ wsX8_wipe := by decide +kernel
set_option maxRecDepth 20000 in
theorem fl_X8_wipe_7 : FL RX8 wsX8_wipe 7 8 0 := ⟨RX8, TX8, 23, rfl, by decide, us_X8_wipe_8, by decide +kernel⟩
theorem k_X8_wipe_75 : KS RX8 wsX8_wipe rm_X8_wipe 75 yX8_isGeneral wsX8_isGeneral rm_X8_isGeneral 1 := ⟨_, _, _, _, gX8_wipe_X8_isGeneral, rfl, rfl, rfl, by decide +kernel, by decide⟩

set_option maxHeartbeats 4000000 in
set_option maxRecDepth 100000 in
theorem c_X8_wipe {l : Launch} {V : ab_V} {mu : ab_mem} {g : Nat} (hV : ab_OK V ShM) (hg : g < 3) : CT l V ShM yX8_wipe wsX8_wipe rm_X8_wipe [.ref (aL V 0), .int (nI g)] mu (pI (fun r mu2 => r = mu 1 g ∧ mu2 = ab_up mu 1 g 0)) := by
  refine ab_enter hV (by decide) rfl (Nat.le_of_ble_eq_true rfl) ?_
  intro X B E
  have B : CX X l rm_X8_wipe RX8 cX8_wipe wsX8_wipe 3 V ShM := B
  show AW X V ShM 3 0 [some (.ref (aL V 0)), some (.int (nI g)), none] [] mu
  refine a_iload_n B dX8_wipe_0 rfl ?_
  refine a_callSi B k_X8_wipe_75 (c_X8_isGeneral hV) rfl rfl (Nat.le_of_ble_eq_true rfl) dX8_wipe_1 (fun r1 mu1 h1 => ?_)
  obtain ⟨rfl, rfl⟩ := h1
  refine a_if_ne_t (tgt := 10) B dX8_wipe_4 (by decide) (bI_n0.mpr (inB_nI (n := 2) (by omega) (by decide))) ?_
  refine a_aload_n B dX8_wipe_10 rfl ?_
  refine a_getr B fl_X8_wipe_7 (by first | rfl | assumption) rfl dX8_wipe_11 ?_
  refine a_iload_n B dX8_wipe_14 rfl ?_
  refine a_ialdN B (g) (by first | rfl | assumption) rfl (by omega) (by decide) dX8_wipe_15 ?_
  refine a_istore_n B dX8_wipe_16 (by decide) ?_
  refine a_aload_n B dX8_wipe_17 rfl ?_
  refine a_getr B fl_X8_wipe_7 (by first | rfl | assumption) rfl dX8_wipe_18 ?_
  refine a_iload_n B dX8_wipe_21 rfl ?_
  refine a_iconst (v := 0) B dX8_wipe_22 (by decide) ?_
  refine a_iastN B (g) (by first | rfl | assumption) rfl (by omega) (by decide)  dX8_wipe_23 ?_
  refine a_iload_n B dX8_wipe_24 rfl ?_
  refine a_ireturn B E dX8_wipe_25 ?_
  exact ⟨rfl, rfl⟩
set_option maxHeartbeats 4000000 in
set_option maxRecDepth 100000 in
theorem c_X8_wipe_bad {l : Launch} {V : ab_V} {mu : ab_mem} {a : Int32} (hV : ab_OK V ShM) (hbad : ¬ inB a 0 2 = true) : CT l V ShM yX8_wipe wsX8_wipe rm_X8_wipe [.ref (aL V 0), .int a] mu (pI (fun r mu2 => r = -2 ∧ mu = mu2)) := by
  refine ab_enter hV (by decide) rfl (Nat.le_of_ble_eq_true rfl) ?_
  intro X B E
  have B : CX X l rm_X8_wipe RX8 cX8_wipe wsX8_wipe 3 V ShM := B
  show AW X V ShM 3 0 [some (.ref (aL V 0)), some (.int a), none] [] mu
  refine a_iload_n B dX8_wipe_0 rfl ?_
  refine a_callSi B k_X8_wipe_75 (c_X8_isGeneral hV) rfl rfl (Nat.le_of_ble_eq_true rfl) dX8_wipe_1 (fun r1 mu1 h1 => ?_)
  obtain ⟨rfl, rfl⟩ := h1
  refine a_if_ne (tgt := 10) B dX8_wipe_4 (by decide) (fun c4 => ?_) (fun c4 => ?_)
  · exfalso
    simp_all [bI_0, bI_n0]
  · refine a_bipush (v := -2) B dX8_wipe_7 (by decide) ?_
    refine a_ireturn B E dX8_wipe_9 ?_
    exact ⟨rfl, rfl⟩
/-- the first place from i on, of n, with no dish; -1: none -/
def fltF (f : Nat → Int32) (i : Nat) : Nat → Int32
  | 0 => -1
  | n + 1 => if f i = -1 then nI i else fltF f (i + 1) n

abbrev rm_X8_faultOf : Room := { frames := 1, cells := 0, slots := 0, locals := 20 }
set_option maxRecDepth 20000 in
theorem us_X8_faultOf_8 : ∀ w ∈ u_ws RX8 TX8 23, w ∈ wsX8_faultOf := by decide +kernel
set_option maxRecDepth 20000 in
theorem fl_X8_faultOf_7 : FL RX8 wsX8_faultOf 7 8 0 := ⟨RX8, TX8, 23, rfl, by decide, us_X8_faultOf_8, by decide +kernel⟩
set_option maxRecDepth 20000 in
theorem fl_X8_faultOf_13 : FL RX8 wsX8_faultOf 13 8 1 := ⟨RX8, TX8, 23, rfl, by decide, us_X8_faultOf_8, by decide +kernel⟩
theorem k_X8_faultOf_79 : KS RX8 wsX8_faultOf rm_X8_faultOf 79 yX8_dishBy wsX8_dishBy rm_X8_dishBy 1 := ⟨_, _, _, _, gX8_faultOf_X8_dishBy, rfl, rfl, rfl, by decide +kernel, by decide⟩

set_option maxHeartbeats 4000000 in
set_option maxRecDepth 100000 in
theorem c_X8_faultOf {l : Launch} {V : ab_V} {mu : ab_mem} {g n : Nat} (hV : ab_OK V ShM) (hg : g < 3) (hn : n ≤ 24) (hm : mu 1 g = nI n) : CT l V ShM yX8_faultOf wsX8_faultOf rm_X8_faultOf [.ref (aL V 0), .int (nI g)] mu (pI (fun r mu2 => r = fltF (fun k => dishBy (mu 2 (24 * g + k))) 0 n ∧ mu = mu2)) := by
  refine ab_enter hV (by decide) rfl (Nat.le_of_ble_eq_true rfl) ?_
  intro X B E
  have B : CX X l rm_X8_faultOf RX8 cX8_faultOf wsX8_faultOf 3 V ShM := B
  show AW X V ShM 3 0 [some (.ref (aL V 0)), some (.int (nI g)), none] [] mu
  have loop : ∀ (m j : Nat), j + m = n → fltF (fun k => dishBy (mu 2 (24 * g + k))) j m = fltF (fun k => dishBy (mu 2 (24 * g + k))) 0 n → AW X V ShM 3 2 [some (.ref (aL V 0)), some (.int (nI g)), some (.int (nI j))] [] mu := by
    intro m
    induction m with
    | zero =>
      intro j hj hf
      refine a_iload_n B dX8_faultOf_2 rfl ?_
      refine a_aload_n B dX8_faultOf_3 rfl ?_
      refine a_getr B fl_X8_faultOf_7 (by first | rfl | assumption) rfl dX8_faultOf_4 ?_
      refine a_iload_n B dX8_faultOf_7 rfl ?_
      refine a_ialdN B (g) (by first | rfl | assumption) rfl (by omega) (by decide) dX8_faultOf_8 ?_
      refine a_icmp_ge_t (tgt := 38) B dX8_faultOf_9 (by decide) ((by rw [hm]; exact nI_le (by omega) (by omega))) ?_
      refine a_iconst (v := -1) B dX8_faultOf_38 (by decide) ?_
      refine a_ireturn B E dX8_faultOf_39 ?_
      exact ⟨hf, rfl⟩
    | succ m ih =>
      intro j hj hf
      refine a_iload_n B dX8_faultOf_2 rfl ?_
      refine a_aload_n B dX8_faultOf_3 rfl ?_
      refine a_getr B fl_X8_faultOf_7 (by first | rfl | assumption) rfl dX8_faultOf_4 ?_
      refine a_iload_n B dX8_faultOf_7 rfl ?_
      refine a_ialdN B (g) (by first | rfl | assumption) rfl (by omega) (by decide) dX8_faultOf_8 ?_
      refine a_icmp_ge_f (tgt := 38) B dX8_faultOf_9 (by decide) ((by rw [hm]; exact nI_ge (by omega) (by omega))) ?_
      refine a_aload_n B dX8_faultOf_12 rfl ?_
      refine a_getr B fl_X8_faultOf_13 (by first | rfl | assumption) rfl dX8_faultOf_13 ?_
      refine a_bipush (v := 24) B dX8_faultOf_16 (by decide) ?_
      refine a_iload_n B dX8_faultOf_18 rfl ?_
      refine a_imul B dX8_faultOf_19 ?_
      refine a_iload_n B dX8_faultOf_20 rfl ?_
      refine a_iadd B dX8_faultOf_21 ?_
      refine a_ialdN B (24 * g + j) (by first | rfl | assumption) (ix24 g j) (by omega) (by decide) dX8_faultOf_22 ?_
      refine a_callSi B k_X8_faultOf_79 (c_X8_dishBy hV) rfl rfl (Nat.le_of_ble_eq_true rfl) dX8_faultOf_23 (fun r23 mu23 h23 => ?_)
      obtain ⟨rfl, rfl⟩ := h23
      refine a_iconst (v := -1) B dX8_faultOf_26 (by decide) ?_
      refine a_icmp_ne (tgt := 32) B dX8_faultOf_27 (by decide) (fun c27 => ?_) (fun c27 => ?_)
      · refine a_iinc (v := 1) B dX8_faultOf_32 rfl (by decide) (by decide) ?_
        refine a_goto (tgt := 2) B dX8_faultOf_35 (by decide) ?_
        rw [nI_1]
        refine ih (j + 1) (by omega) ?_
        rw [← hf, fltF, if_neg c27]
      · refine a_iload_n B dX8_faultOf_30 rfl ?_
        refine a_ireturn B E dX8_faultOf_31 ?_
        refine ⟨?_, rfl⟩
        rw [← hf, fltF, if_pos c27]
  refine a_iconst (v := 0) B dX8_faultOf_0 (by decide) ?_
  refine a_istore_n B dX8_faultOf_1 (by decide) ?_
  exact loop n 0 (by omega) rfl
def tolM (mu : ab_mem) (g n : Nat) : Nat := if fltF (fun k => dishBy (mu 2 (24 * g + k))) 0 n = -1 then n else 0
abbrev rm_X8_fault : Room := { frames := 2, cells := 0, slots := 0, locals := 42 }
theorem k_X8_fault_75 : KS RX8 wsX8_fault rm_X8_fault 75 yX8_isGeneral wsX8_isGeneral rm_X8_isGeneral 1 := ⟨_, _, _, _, gX8_fault_X8_isGeneral, rfl, rfl, rfl, by decide +kernel, by decide⟩
theorem k_X8_fault_83 : KV RX8 wsX8_fault rm_X8_fault 83 RX8 yX8_faultOf wsX8_faultOf rm_X8_faultOf 1 := ⟨_, _, _, _, gX8_fault_X8_faultOf, rfl, rfl, rfl, by decide +kernel, by decide⟩

set_option maxHeartbeats 4000000 in
set_option maxRecDepth 100000 in
theorem c_X8_fault {l : Launch} {V : ab_V} {mu : ab_mem} {g n : Nat} (hV : ab_OK V ShM) (hg : g < 3) (hn : n ≤ 24) (hm : mu 1 g = nI n) : CT l V ShM yX8_fault wsX8_fault rm_X8_fault [.ref (aL V 0), .int (nI g)] mu (pI (fun r mu2 => r = fltF (fun k => dishBy (mu 2 (24 * g + k))) 0 n ∧ mu = mu2)) := by
  refine ab_enter hV (by decide) rfl (Nat.le_of_ble_eq_true rfl) ?_
  intro X B E
  have B : CX X l rm_X8_fault RX8 cX8_fault wsX8_fault 2 V ShM := B
  show AW X V ShM 2 0 [some (.ref (aL V 0)), some (.int (nI g))] [] mu
  refine a_iload_n B dX8_fault_0 rfl ?_
  refine a_callSi B k_X8_fault_75 (c_X8_isGeneral hV) rfl rfl (Nat.le_of_ble_eq_true rfl) dX8_fault_1 (fun r1 mu1 h1 => ?_)
  obtain ⟨rfl, rfl⟩ := h1
  refine a_if_eq_f (tgt := 15) B dX8_fault_4 (by decide) (bI_n0.mpr (inB_nI (n := 2) (by omega) (by decide))) ?_
  refine a_aload_n B dX8_fault_7 rfl ?_
  refine a_iload_n B dX8_fault_8 rfl ?_
  refine a_callVi B k_X8_fault_83 (c_X8_faultOf hV hg hn hm) (by first | rfl | assumption) rfl rfl rfl (Nat.le_of_ble_eq_true rfl) dX8_fault_9 (fun r9 mu9 h9 => ?_)
  obtain ⟨rfl, rfl⟩ := h9
  refine a_goto (tgt := 17) B dX8_fault_12 (by decide) ?_
  refine a_ireturn B E dX8_fault_17 ?_
  exact ⟨rfl, rfl⟩
set_option maxHeartbeats 4000000 in
set_option maxRecDepth 100000 in
theorem c_X8_fault_bad {l : Launch} {V : ab_V} {mu : ab_mem} {a : Int32} (hV : ab_OK V ShM) (hbad : ¬ inB a 0 2 = true) : CT l V ShM yX8_fault wsX8_fault rm_X8_fault [.ref (aL V 0), .int a] mu (pI (fun r mu2 => r = -2 ∧ mu = mu2)) := by
  refine ab_enter hV (by decide) rfl (Nat.le_of_ble_eq_true rfl) ?_
  intro X B E
  have B : CX X l rm_X8_fault RX8 cX8_fault wsX8_fault 2 V ShM := B
  show AW X V ShM 2 0 [some (.ref (aL V 0)), some (.int a)] [] mu
  refine a_iload_n B dX8_fault_0 rfl ?_
  refine a_callSi B k_X8_fault_75 (c_X8_isGeneral hV) rfl rfl (Nat.le_of_ble_eq_true rfl) dX8_fault_1 (fun r1 mu1 h1 => ?_)
  obtain ⟨rfl, rfl⟩ := h1
  refine a_if_eq (tgt := 15) B dX8_fault_4 (by decide) (fun c4 => ?_) (fun c4 => ?_)
  · refine a_bipush (v := -2) B dX8_fault_15 (by decide) ?_
    refine a_ireturn B E dX8_fault_17 ?_
    exact ⟨rfl, rfl⟩
  · exfalso
    simp_all [bI_0, bI_n0]
abbrev rm_X8_toldMany : Room := { frames := 2, cells := 0, slots := 0, locals := 42 }
set_option maxRecDepth 20000 in
theorem us_X8_toldMany_8 : ∀ w ∈ u_ws RX8 TX8 23, w ∈ wsX8_toldMany := by decide +kernel
set_option maxRecDepth 20000 in
theorem fl_X8_toldMany_7 : FL RX8 wsX8_toldMany 7 8 0 := ⟨RX8, TX8, 23, rfl, by decide, us_X8_toldMany_8, by decide +kernel⟩
theorem k_X8_toldMany_83 : KV RX8 wsX8_toldMany rm_X8_toldMany 83 RX8 yX8_faultOf wsX8_faultOf rm_X8_faultOf 1 := ⟨_, _, _, _, gX8_toldMany_X8_faultOf, rfl, rfl, rfl, by decide +kernel, by decide⟩

set_option maxHeartbeats 4000000 in
set_option maxRecDepth 100000 in
theorem c_X8_toldMany {l : Launch} {V : ab_V} {mu : ab_mem} {g n : Nat} (hV : ab_OK V ShM) (hg : g < 3) (hn : n ≤ 24) (hm : mu 1 g = nI n) : CT l V ShM yX8_toldMany wsX8_toldMany rm_X8_toldMany [.ref (aL V 0), .int (nI g)] mu (pI (fun r mu2 => r = nI (tolM mu g n) ∧ mu = mu2)) := by
  refine ab_enter hV (by decide) rfl (Nat.le_of_ble_eq_true rfl) ?_
  intro X B E
  have B : CX X l rm_X8_toldMany RX8 cX8_toldMany wsX8_toldMany 2 V ShM := B
  show AW X V ShM 2 0 [some (.ref (aL V 0)), some (.int (nI g))] [] mu
  refine a_aload_n B dX8_toldMany_0 rfl ?_
  refine a_iload_n B dX8_toldMany_1 rfl ?_
  refine a_callVi B k_X8_toldMany_83 (c_X8_faultOf hV hg hn hm) (by first | rfl | assumption) rfl rfl rfl (Nat.le_of_ble_eq_true rfl) dX8_toldMany_2 (fun r2 mu2 h2 => ?_)
  obtain ⟨rfl, rfl⟩ := h2
  refine a_iconst (v := -1) B dX8_toldMany_5 (by decide) ?_
  refine a_icmp_ne (tgt := 18) B dX8_toldMany_6 (by decide) (fun c6 => ?_) (fun c6 => ?_)
  · refine a_iconst (v := 0) B dX8_toldMany_18 (by decide) ?_
    refine a_ireturn B E dX8_toldMany_19 ?_
    exact ⟨by simp_all [tolM]; try rfl, rfl⟩
  · refine a_aload_n B dX8_toldMany_9 rfl ?_
    refine a_getr B fl_X8_toldMany_7 (by first | rfl | assumption) rfl dX8_toldMany_10 ?_
    refine a_iload_n B dX8_toldMany_13 rfl ?_
    refine a_ialdN B (g) (by first | rfl | assumption) rfl (by omega) (by decide) dX8_toldMany_14 ?_
    refine a_goto (tgt := 19) B dX8_toldMany_15 (by decide) ?_
    refine a_ireturn B E dX8_toldMany_19 ?_
    exact ⟨by simp_all [tolM]; try rfl, rfl⟩
abbrev rm_X8_undo : Room := { frames := 2, cells := 0, slots := 0, locals := 42 }
set_option maxRecDepth 20000 in
theorem us_X8_undo_8 : ∀ w ∈ u_ws RX8 TX8 23, w ∈ wsX8_undo := by decide +kernel
set_option maxRecDepth 20000 in
theorem fl_X8_undo_7 : FL RX8 wsX8_undo 7 8 0 := ⟨RX8, TX8, 23, rfl, by decide, us_X8_undo_8, by decide +kernel⟩
theorem k_X8_undo_75 : KS RX8 wsX8_undo rm_X8_undo 75 yX8_isGeneral wsX8_isGeneral rm_X8_isGeneral 1 := ⟨_, _, _, _, gX8_undo_X8_isGeneral, rfl, rfl, rfl, by decide +kernel, by decide⟩

set_option maxHeartbeats 4000000 in
set_option maxRecDepth 100000 in
theorem c_X8_undo {l : Launch} {V : ab_V} {mu : ab_mem} {g n : Nat} (hV : ab_OK V ShM) (hg : g < 3) (hn : n ≤ 24) (hm : mu 1 g = nI n) : CT l V ShM yX8_undo wsX8_undo rm_X8_undo [.ref (aL V 0), .int (nI g)] mu (pI (fun r mu2 => if n = 0 then r = -3 ∧ mu = mu2 else r = nI (n - 1) ∧ mu2 = ab_up mu 1 g (nI (n - 1)))) := by
  refine ab_enter hV (by decide) rfl (Nat.le_of_ble_eq_true rfl) ?_
  intro X B E
  have B : CX X l rm_X8_undo RX8 cX8_undo wsX8_undo 2 V ShM := B
  show AW X V ShM 2 0 [some (.ref (aL V 0)), some (.int (nI g))] [] mu
  refine a_iload_n B dX8_undo_0 rfl ?_
  refine a_callSi B k_X8_undo_75 (c_X8_isGeneral hV) rfl rfl (Nat.le_of_ble_eq_true rfl) dX8_undo_1 (fun r1 mu1 h1 => ?_)
  obtain ⟨rfl, rfl⟩ := h1
  refine a_if_ne_t (tgt := 10) B dX8_undo_4 (by decide) (bI_n0.mpr (inB_nI (n := 2) (by omega) (by decide))) ?_
  refine a_aload_n B dX8_undo_10 rfl ?_
  refine a_getr B fl_X8_undo_7 (by first | rfl | assumption) rfl dX8_undo_11 ?_
  refine a_iload_n B dX8_undo_14 rfl ?_
  refine a_ialdN B (g) (by first | rfl | assumption) rfl (by omega) (by decide) dX8_undo_15 ?_
  rw [hm]
  refine a_if_ne (tgt := 22) B dX8_undo_16 (by decide) (fun c16 => ?_) (fun c16 => ?_)
  · refine a_aload_n B dX8_undo_22 rfl ?_
    refine a_getr B fl_X8_undo_7 (by first | rfl | assumption) rfl dX8_undo_23 ?_
    refine a_iload_n B dX8_undo_26 rfl ?_
    refine a_dup2 B dX8_undo_27 rfl rfl ?_
    refine a_ialdN B (g) (by first | rfl | assumption) rfl (by omega) (by decide) dX8_undo_28 ?_
    refine a_iconst (v := 1) B dX8_undo_29 (by decide) ?_
    refine a_isub B dX8_undo_30 ?_
    refine a_iastN B (g) (by first | rfl | assumption) rfl (by omega) (by decide)  dX8_undo_31 ?_
    refine a_aload_n B dX8_undo_32 rfl ?_
    refine a_getr B fl_X8_undo_7 (by first | rfl | assumption) rfl dX8_undo_33 ?_
    refine a_iload_n B dX8_undo_36 rfl ?_
    refine a_ialdN B (g) (by first | rfl | assumption) rfl (by omega) (by decide) dX8_undo_37 ?_
    refine a_ireturn B E dX8_undo_38 ?_
    have e : n ≠ 0 := fun e => c16 (by rw [e]; rfl)
    rw [if_neg e]
    have e1 : mu 1 g - 1 = nI (n - 1) := by rw [hm]; exact pk_sub (a := n) (b := 1) (by omega)
    rw [e1]
    exact ⟨ab_up_k, rfl⟩
  · refine a_bipush (v := -3) B dX8_undo_19 (by decide) ?_
    refine a_ireturn B E dX8_undo_21 ?_
    have e : n = 0 := (nI_eq (a := n) (b := 0) (by omega) (by decide)).mp c16
    rw [if_pos e]
    exact ⟨rfl, rfl⟩
set_option maxHeartbeats 4000000 in
set_option maxRecDepth 100000 in
theorem c_X8_undo_bad {l : Launch} {V : ab_V} {mu : ab_mem} {a : Int32} (hV : ab_OK V ShM) (hbad : ¬ inB a 0 2 = true) : CT l V ShM yX8_undo wsX8_undo rm_X8_undo [.ref (aL V 0), .int a] mu (pI (fun r mu2 => r = -2 ∧ mu = mu2)) := by
  refine ab_enter hV (by decide) rfl (Nat.le_of_ble_eq_true rfl) ?_
  intro X B E
  have B : CX X l rm_X8_undo RX8 cX8_undo wsX8_undo 2 V ShM := B
  show AW X V ShM 2 0 [some (.ref (aL V 0)), some (.int a)] [] mu
  refine a_iload_n B dX8_undo_0 rfl ?_
  refine a_callSi B k_X8_undo_75 (c_X8_isGeneral hV) rfl rfl (Nat.le_of_ble_eq_true rfl) dX8_undo_1 (fun r1 mu1 h1 => ?_)
  obtain ⟨rfl, rfl⟩ := h1
  refine a_if_ne (tgt := 10) B dX8_undo_4 (by decide) (fun c4 => ?_) (fun c4 => ?_)
  · exfalso
    simp_all [bI_0, bI_n0]
  · refine a_bipush (v := -2) B dX8_undo_7 (by decide) ?_
    refine a_ireturn B E dX8_undo_9 ?_
    exact ⟨rfl, rfl⟩
abbrev rm_X8_calm : Room := { frames := 2, cells := 0, slots := 0, locals := 42 }
set_option maxRecDepth 20000 in
theorem us_X8_calm_8 : ∀ w ∈ u_ws RX8 TX8 23, w ∈ wsX8_calm := by decide +kernel
set_option maxRecDepth 20000 in
theorem fl_X8_calm_16 : FL RX8 wsX8_calm 16 8 2 := ⟨RX8, TX8, 23, rfl, by decide, us_X8_calm_8, by decide +kernel⟩
theorem k_X8_calm_71 : KS RX8 wsX8_calm rm_X8_calm 71 yX8_in wsX8_in rm_X8_in 3 := ⟨_, _, _, _, gX8_calm_X8_in, rfl, rfl, rfl, by decide +kernel, by decide⟩
theorem k_X8_calm_75 : KS RX8 wsX8_calm rm_X8_calm 75 yX8_isGeneral wsX8_isGeneral rm_X8_isGeneral 1 := ⟨_, _, _, _, gX8_calm_X8_isGeneral, rfl, rfl, rfl, by decide +kernel, by decide⟩

set_option maxHeartbeats 4000000 in
set_option maxRecDepth 100000 in
theorem c_X8_calm {l : Launch} {V : ab_V} {mu : ab_mem} {g : Nat} {v : Int32} (hV : ab_OK V ShM) (hg : g < 3) (hv : inB v 0 9 = true) : CT l V ShM yX8_calm wsX8_calm rm_X8_calm [.ref (aL V 0), .int (nI g), .int v] mu (pI (fun r mu2 => r = mu 3 g ∧ mu2 = ab_up mu 3 g v)) := by
  refine ab_enter hV (by decide) rfl (Nat.le_of_ble_eq_true rfl) ?_
  intro X B E
  have B : CX X l rm_X8_calm RX8 cX8_calm wsX8_calm 4 V ShM := B
  show AW X V ShM 4 0 [some (.ref (aL V 0)), some (.int (nI g)), some (.int v), none] [] mu
  refine a_iload_n B dX8_calm_0 rfl ?_
  refine a_callSi B k_X8_calm_75 (c_X8_isGeneral hV) rfl rfl (Nat.le_of_ble_eq_true rfl) dX8_calm_1 (fun r1 mu1 h1 => ?_)
  obtain ⟨rfl, rfl⟩ := h1
  refine a_if_eq_f (tgt := 17) B dX8_calm_4 (by decide) (bI_n0.mpr (inB_nI (n := 2) (by omega) (by decide))) ?_
  refine a_iload_n B dX8_calm_7 rfl ?_
  refine a_iconst (v := 0) B dX8_calm_8 (by decide) ?_
  refine a_bipush (v := 9) B dX8_calm_9 (by decide) ?_
  refine a_callSi B k_X8_calm_71 (c_X8_in hV) rfl rfl (Nat.le_of_ble_eq_true rfl) dX8_calm_11 (fun r11 mu11 h11 => ?_)
  obtain ⟨rfl, rfl⟩ := h11
  refine a_if_ne_t (tgt := 20) B dX8_calm_14 (by decide) ((bI_n0.mpr hv)) ?_
  refine a_aload_n B dX8_calm_20 rfl ?_
  refine a_getr B fl_X8_calm_16 (by first | rfl | assumption) rfl dX8_calm_21 ?_
  refine a_iload_n B dX8_calm_24 rfl ?_
  refine a_ialdN B (g) (by first | rfl | assumption) rfl (by omega) (by decide) dX8_calm_25 ?_
  refine a_istore_n B dX8_calm_26 (by decide) ?_
  refine a_aload_n B dX8_calm_27 rfl ?_
  refine a_getr B fl_X8_calm_16 (by first | rfl | assumption) rfl dX8_calm_28 ?_
  refine a_iload_n B dX8_calm_31 rfl ?_
  refine a_iload_n B dX8_calm_32 rfl ?_
  refine a_iastN B (g) (by first | rfl | assumption) rfl (by omega) (by decide)  dX8_calm_33 ?_
  refine a_iload_n B dX8_calm_34 rfl ?_
  refine a_ireturn B E dX8_calm_35 ?_
  exact ⟨rfl, rfl⟩
set_option maxHeartbeats 4000000 in
set_option maxRecDepth 100000 in
theorem c_X8_calm_bad {l : Launch} {V : ab_V} {mu : ab_mem} {a v : Int32} (hV : ab_OK V ShM) (hbad : ¬ (inB a 0 2 = true ∧ inB v 0 9 = true)) : CT l V ShM yX8_calm wsX8_calm rm_X8_calm [.ref (aL V 0), .int a, .int v] mu (pI (fun r mu2 => r = -2 ∧ mu = mu2)) := by
  refine ab_enter hV (by decide) rfl (Nat.le_of_ble_eq_true rfl) ?_
  intro X B E
  have B : CX X l rm_X8_calm RX8 cX8_calm wsX8_calm 4 V ShM := B
  show AW X V ShM 4 0 [some (.ref (aL V 0)), some (.int a), some (.int v), none] [] mu
  refine a_iload_n B dX8_calm_0 rfl ?_
  refine a_callSi B k_X8_calm_75 (c_X8_isGeneral hV) rfl rfl (Nat.le_of_ble_eq_true rfl) dX8_calm_1 (fun r1 mu1 h1 => ?_)
  obtain ⟨rfl, rfl⟩ := h1
  refine a_if_eq (tgt := 17) B dX8_calm_4 (by decide) (fun c4 => ?_) (fun c4 => ?_)
  · refine a_bipush (v := -2) B dX8_calm_17 (by decide) ?_
    refine a_ireturn B E dX8_calm_19 ?_
    exact ⟨rfl, rfl⟩
  · refine a_iload_n B dX8_calm_7 rfl ?_
    refine a_iconst (v := 0) B dX8_calm_8 (by decide) ?_
    refine a_bipush (v := 9) B dX8_calm_9 (by decide) ?_
    refine a_callSi B k_X8_calm_71 (c_X8_in hV) rfl rfl (Nat.le_of_ble_eq_true rfl) dX8_calm_11 (fun r11 mu11 h11 => ?_)
    obtain ⟨rfl, rfl⟩ := h11
    refine a_if_ne (tgt := 20) B dX8_calm_14 (by decide) (fun c14 => ?_) (fun c14 => ?_)
    · exfalso
      simp_all [bI_0, bI_n0]
    · refine a_bipush (v := -2) B dX8_calm_17 (by decide) ?_
      refine a_ireturn B E dX8_calm_19 ?_
      exact ⟨rfl, rfl⟩
abbrev rm_X8_does : Room := { frames := 2, cells := 0, slots := 0, locals := 42 }
set_option maxRecDepth 20000 in
theorem us_X8_does_8 : ∀ w ∈ u_ws RX8 TX8 23, w ∈ wsX8_does := by decide +kernel
set_option maxRecDepth 20000 in
theorem fl_X8_does_19 : FL RX8 wsX8_does 19 8 3 := ⟨RX8, TX8, 23, rfl, by decide, us_X8_does_8, by decide +kernel⟩
theorem k_X8_does_71 : KS RX8 wsX8_does rm_X8_does 71 yX8_in wsX8_in rm_X8_in 3 := ⟨_, _, _, _, gX8_does_X8_in, rfl, rfl, rfl, by decide +kernel, by decide⟩
theorem k_X8_does_86 : KS RX8 wsX8_does rm_X8_does 86 yX8_isDish wsX8_isDish rm_X8_isDish 1 := ⟨_, _, _, _, gX8_does_X8_isDish, rfl, rfl, rfl, by decide +kernel, by decide⟩

set_option maxHeartbeats 4000000 in
set_option maxRecDepth 100000 in
theorem c_X8_does {l : Launch} {V : ab_V} {mu : ab_mem} {g : Nat} {v : Int32} (hV : ab_OK V ShM) (hg : g < 7) (hv : inB v (-9) 9 = true) : CT l V ShM yX8_does wsX8_does rm_X8_does [.ref (aL V 0), .int (nI g), .int v] mu (pI (fun r mu2 => r = mu 4 g ∧ mu2 = ab_up mu 4 g v)) := by
  refine ab_enter hV (by decide) rfl (Nat.le_of_ble_eq_true rfl) ?_
  intro X B E
  have B : CX X l rm_X8_does RX8 cX8_does wsX8_does 4 V ShM := B
  show AW X V ShM 4 0 [some (.ref (aL V 0)), some (.int (nI g)), some (.int v), none] [] mu
  refine a_iload_n B dX8_does_0 rfl ?_
  refine a_callSi B k_X8_does_86 (c_X8_isDish hV) rfl rfl (Nat.le_of_ble_eq_true rfl) dX8_does_1 (fun r1 mu1 h1 => ?_)
  obtain ⟨rfl, rfl⟩ := h1
  refine a_if_eq_f (tgt := 18) B dX8_does_4 (by decide) (bI_n0.mpr (inB_nI (n := 6) (by omega) (by decide))) ?_
  refine a_iload_n B dX8_does_7 rfl ?_
  refine a_bipush (v := -9) B dX8_does_8 (by decide) ?_
  refine a_bipush (v := 9) B dX8_does_10 (by decide) ?_
  refine a_callSi B k_X8_does_71 (c_X8_in hV) rfl rfl (Nat.le_of_ble_eq_true rfl) dX8_does_12 (fun r12 mu12 h12 => ?_)
  obtain ⟨rfl, rfl⟩ := h12
  refine a_if_ne_t (tgt := 21) B dX8_does_15 (by decide) ((bI_n0.mpr hv)) ?_
  refine a_aload_n B dX8_does_21 rfl ?_
  refine a_getr B fl_X8_does_19 (by first | rfl | assumption) rfl dX8_does_22 ?_
  refine a_iload_n B dX8_does_25 rfl ?_
  refine a_ialdN B (g) (by first | rfl | assumption) rfl (by omega) (by decide) dX8_does_26 ?_
  refine a_istore_n B dX8_does_27 (by decide) ?_
  refine a_aload_n B dX8_does_28 rfl ?_
  refine a_getr B fl_X8_does_19 (by first | rfl | assumption) rfl dX8_does_29 ?_
  refine a_iload_n B dX8_does_32 rfl ?_
  refine a_iload_n B dX8_does_33 rfl ?_
  refine a_iastN B (g) (by first | rfl | assumption) rfl (by omega) (by decide)  dX8_does_34 ?_
  refine a_iload_n B dX8_does_35 rfl ?_
  refine a_ireturn B E dX8_does_36 ?_
  exact ⟨rfl, rfl⟩
set_option maxHeartbeats 4000000 in
set_option maxRecDepth 100000 in
theorem c_X8_does_bad {l : Launch} {V : ab_V} {mu : ab_mem} {a v : Int32} (hV : ab_OK V ShM) (hbad : ¬ (inB a 0 6 = true ∧ inB v (-9) 9 = true)) : CT l V ShM yX8_does wsX8_does rm_X8_does [.ref (aL V 0), .int a, .int v] mu (pI (fun r mu2 => r = -102 ∧ mu = mu2)) := by
  refine ab_enter hV (by decide) rfl (Nat.le_of_ble_eq_true rfl) ?_
  intro X B E
  have B : CX X l rm_X8_does RX8 cX8_does wsX8_does 4 V ShM := B
  show AW X V ShM 4 0 [some (.ref (aL V 0)), some (.int a), some (.int v), none] [] mu
  refine a_iload_n B dX8_does_0 rfl ?_
  refine a_callSi B k_X8_does_86 (c_X8_isDish hV) rfl rfl (Nat.le_of_ble_eq_true rfl) dX8_does_1 (fun r1 mu1 h1 => ?_)
  obtain ⟨rfl, rfl⟩ := h1
  refine a_if_eq (tgt := 18) B dX8_does_4 (by decide) (fun c4 => ?_) (fun c4 => ?_)
  · refine a_bipush (v := -102) B dX8_does_18 (by decide) ?_
    refine a_ireturn B E dX8_does_20 ?_
    exact ⟨rfl, rfl⟩
  · refine a_iload_n B dX8_does_7 rfl ?_
    refine a_bipush (v := -9) B dX8_does_8 (by decide) ?_
    refine a_bipush (v := 9) B dX8_does_10 (by decide) ?_
    refine a_callSi B k_X8_does_71 (c_X8_in hV) rfl rfl (Nat.le_of_ble_eq_true rfl) dX8_does_12 (fun r12 mu12 h12 => ?_)
    obtain ⟨rfl, rfl⟩ := h12
    refine a_if_ne (tgt := 21) B dX8_does_15 (by decide) (fun c15 => ?_) (fun c15 => ?_)
    · exfalso
      simp_all [bI_0, bI_n0]
    · refine a_bipush (v := -102) B dX8_does_18 (by decide) ?_
      refine a_ireturn B E dX8_does_20 ?_
      exact ⟨rfl, rfl⟩
abbrev rm_X8_price : Room := { frames := 2, cells := 0, slots := 0, locals := 42 }
set_option maxRecDepth 20000 in
theorem us_X8_price_8 : ∀ w ∈ u_ws RX8 TX8 23, w ∈ wsX8_price := by decide +kernel
set_option maxRecDepth 20000 in
theorem fl_X8_price_22 : FL RX8 wsX8_price 22 8 4 := ⟨RX8, TX8, 23, rfl, by decide, us_X8_price_8, by decide +kernel⟩
theorem k_X8_price_71 : KS RX8 wsX8_price rm_X8_price 71 yX8_in wsX8_in rm_X8_in 3 := ⟨_, _, _, _, gX8_price_X8_in, rfl, rfl, rfl, by decide +kernel, by decide⟩
theorem k_X8_price_86 : KS RX8 wsX8_price rm_X8_price 86 yX8_isDish wsX8_isDish rm_X8_isDish 1 := ⟨_, _, _, _, gX8_price_X8_isDish, rfl, rfl, rfl, by decide +kernel, by decide⟩

set_option maxHeartbeats 4000000 in
set_option maxRecDepth 100000 in
theorem c_X8_price {l : Launch} {V : ab_V} {mu : ab_mem} {g : Nat} {v : Int32} (hV : ab_OK V ShM) (hg : g < 7) (hv : inB v 0 99 = true) : CT l V ShM yX8_price wsX8_price rm_X8_price [.ref (aL V 0), .int (nI g), .int v] mu (pI (fun r mu2 => r = mu 5 g ∧ mu2 = ab_up mu 5 g v)) := by
  refine ab_enter hV (by decide) rfl (Nat.le_of_ble_eq_true rfl) ?_
  intro X B E
  have B : CX X l rm_X8_price RX8 cX8_price wsX8_price 4 V ShM := B
  show AW X V ShM 4 0 [some (.ref (aL V 0)), some (.int (nI g)), some (.int v), none] [] mu
  refine a_iload_n B dX8_price_0 rfl ?_
  refine a_callSi B k_X8_price_86 (c_X8_isDish hV) rfl rfl (Nat.le_of_ble_eq_true rfl) dX8_price_1 (fun r1 mu1 h1 => ?_)
  obtain ⟨rfl, rfl⟩ := h1
  refine a_if_eq_f (tgt := 17) B dX8_price_4 (by decide) (bI_n0.mpr (inB_nI (n := 6) (by omega) (by decide))) ?_
  refine a_iload_n B dX8_price_7 rfl ?_
  refine a_iconst (v := 0) B dX8_price_8 (by decide) ?_
  refine a_bipush (v := 99) B dX8_price_9 (by decide) ?_
  refine a_callSi B k_X8_price_71 (c_X8_in hV) rfl rfl (Nat.le_of_ble_eq_true rfl) dX8_price_11 (fun r11 mu11 h11 => ?_)
  obtain ⟨rfl, rfl⟩ := h11
  refine a_if_ne_t (tgt := 20) B dX8_price_14 (by decide) ((bI_n0.mpr hv)) ?_
  refine a_aload_n B dX8_price_20 rfl ?_
  refine a_getr B fl_X8_price_22 (by first | rfl | assumption) rfl dX8_price_21 ?_
  refine a_iload_n B dX8_price_24 rfl ?_
  refine a_ialdN B (g) (by first | rfl | assumption) rfl (by omega) (by decide) dX8_price_25 ?_
  refine a_istore_n B dX8_price_26 (by decide) ?_
  refine a_aload_n B dX8_price_27 rfl ?_
  refine a_getr B fl_X8_price_22 (by first | rfl | assumption) rfl dX8_price_28 ?_
  refine a_iload_n B dX8_price_31 rfl ?_
  refine a_iload_n B dX8_price_32 rfl ?_
  refine a_iastN B (g) (by first | rfl | assumption) rfl (by omega) (by decide)  dX8_price_33 ?_
  refine a_iload_n B dX8_price_34 rfl ?_
  refine a_ireturn B E dX8_price_35 ?_
  exact ⟨rfl, rfl⟩
set_option maxHeartbeats 4000000 in
set_option maxRecDepth 100000 in
theorem c_X8_price_bad {l : Launch} {V : ab_V} {mu : ab_mem} {a v : Int32} (hV : ab_OK V ShM) (hbad : ¬ (inB a 0 6 = true ∧ inB v 0 99 = true)) : CT l V ShM yX8_price wsX8_price rm_X8_price [.ref (aL V 0), .int a, .int v] mu (pI (fun r mu2 => r = -2 ∧ mu = mu2)) := by
  refine ab_enter hV (by decide) rfl (Nat.le_of_ble_eq_true rfl) ?_
  intro X B E
  have B : CX X l rm_X8_price RX8 cX8_price wsX8_price 4 V ShM := B
  show AW X V ShM 4 0 [some (.ref (aL V 0)), some (.int a), some (.int v), none] [] mu
  refine a_iload_n B dX8_price_0 rfl ?_
  refine a_callSi B k_X8_price_86 (c_X8_isDish hV) rfl rfl (Nat.le_of_ble_eq_true rfl) dX8_price_1 (fun r1 mu1 h1 => ?_)
  obtain ⟨rfl, rfl⟩ := h1
  refine a_if_eq (tgt := 17) B dX8_price_4 (by decide) (fun c4 => ?_) (fun c4 => ?_)
  · refine a_bipush (v := -2) B dX8_price_17 (by decide) ?_
    refine a_ireturn B E dX8_price_19 ?_
    exact ⟨rfl, rfl⟩
  · refine a_iload_n B dX8_price_7 rfl ?_
    refine a_iconst (v := 0) B dX8_price_8 (by decide) ?_
    refine a_bipush (v := 99) B dX8_price_9 (by decide) ?_
    refine a_callSi B k_X8_price_71 (c_X8_in hV) rfl rfl (Nat.le_of_ble_eq_true rfl) dX8_price_11 (fun r11 mu11 h11 => ?_)
    obtain ⟨rfl, rfl⟩ := h11
    refine a_if_ne (tgt := 20) B dX8_price_14 (by decide) (fun c14 => ?_) (fun c14 => ?_)
    · exfalso
      simp_all [bI_0, bI_n0]
    · refine a_bipush (v := -2) B dX8_price_17 (by decide) ?_
      refine a_ireturn B E dX8_price_19 ?_
      exact ⟨rfl, rfl⟩
abbrev rm_X8_meets : Room := { frames := 0, cells := 0, slots := 0, locals := 0 }
set_option maxRecDepth 20000 in
theorem us_X8_meets_8 : ∀ w ∈ u_ws RX8 TX8 23, w ∈ wsX8_meets := by decide +kernel
set_option maxRecDepth 20000 in
theorem fp_X8_meets_207 : FP RX8 wsX8_meets 207 8 22 .int := ⟨RX8, TX8, 23, tyX8, rfl, by decide, us_X8_meets_8, by decide +kernel, tyX8_ok, nmX8, rfl, rfl⟩

set_option maxHeartbeats 4000000 in
set_option maxRecDepth 100000 in
theorem c_X8_meets {l : Launch} {V : ab_V} {mu : ab_mem} {a : Int32} (hV : ab_OK V ShM)  : CT l V ShM yX8_meets wsX8_meets rm_X8_meets [.ref (aL V 0), .int a] mu (pI (fun r mu2 => r = -10 - a ∧ mu2 = ab_up mu 0 22 a)) := by
  refine ab_enter hV (by decide) rfl (Nat.le_of_ble_eq_true rfl) ?_
  intro X B E
  have B : CX X l rm_X8_meets RX8 cX8_meets wsX8_meets 2 V ShM := B
  show AW X V ShM 2 0 [some (.ref (aL V 0)), some (.int a)] [] mu
  refine a_aload_n B dX8_meets_0 rfl ?_
  refine a_iload_n B dX8_meets_1 rfl ?_
  refine a_put B fp_X8_meets_207 (by first | rfl | assumption) rfl rfl rfl dX8_meets_2 ?_
  refine a_bipush (v := -10) B dX8_meets_5 (by decide) ?_
  refine a_iload_n B dX8_meets_7 rfl ?_
  refine a_isub B dX8_meets_8 ?_
  refine a_ireturn B E dX8_meets_9 ?_
  exact ⟨rfl, rfl⟩
def nxt (e : Nat → Int32) (v d : Int32) : Int32 := if v + e d.toNatClampNeg < 0 then 0 else if 9 < v + e d.toNatClampNeg then 9 else v + e d.toNatClampNeg
def hicB (mk v d : Int32) : Bool := decide (mk ≤ v) && !decide (d = 5)
abbrev rm_X8_next : Room := { frames := 0, cells := 0, slots := 0, locals := 0 }
set_option maxRecDepth 20000 in
theorem us_X8_next_8 : ∀ w ∈ u_ws RX8 TX8 23, w ∈ wsX8_next := by decide +kernel
set_option maxRecDepth 20000 in
theorem fl_X8_next_19 : FL RX8 wsX8_next 19 8 3 := ⟨RX8, TX8, 23, rfl, by decide, us_X8_next_8, by decide +kernel⟩

set_option maxHeartbeats 4000000 in
set_option maxRecDepth 100000 in
theorem c_X8_next {l : Launch} {V : ab_V} {mu : ab_mem} {v d : Int32} (hV : ab_OK V ShM) (hd : vp_in d 7) : CT l V ShM yX8_next wsX8_next rm_X8_next [.ref (aL V 0), .int v, .int d] mu (pI (fun r mu2 => r = nxt (mu 4) v d ∧ mu = mu2)) := by
  refine ab_enter hV (by decide) rfl (Nat.le_of_ble_eq_true rfl) ?_
  intro X B E
  have B : CX X l rm_X8_next RX8 cX8_next wsX8_next 4 V ShM := B
  show AW X V ShM 4 0 [some (.ref (aL V 0)), some (.int v), some (.int d), none] [] mu
  refine a_iload_n B dX8_next_0 rfl ?_
  refine a_aload_n B dX8_next_1 rfl ?_
  refine a_getr B fl_X8_next_19 (by first | rfl | assumption) rfl dX8_next_2 ?_
  refine a_iload_n B dX8_next_5 rfl ?_
  refine a_iald B (by first | rfl | assumption) hd dX8_next_6 ?_
  refine a_iadd B dX8_next_7 ?_
  refine a_istore_n B dX8_next_8 (by decide) ?_
  refine a_iload_n B dX8_next_9 rfl ?_
  refine a_if_ge (tgt := 17) B dX8_next_10 (by decide) (fun c10 => ?_) (fun c10 => ?_)
  · refine a_iload_n B dX8_next_17 rfl ?_
    refine a_bipush (v := 9) B dX8_next_18 (by decide) ?_
    refine a_icmp_le (tgt := 28) B dX8_next_20 (by decide) (fun c20 => ?_) (fun c20 => ?_)
    · refine a_iload_n B dX8_next_28 rfl ?_
      refine a_ireturn B E dX8_next_29 ?_
      exact ⟨by simp only [nxt]; split <;> first | rfl | (split <;> first | rfl | (exfalso; simp_all [fa_lt, fa_le]; done) | (exfalso; simp only [fa_lt, fa_le] at *; omega)) | (exfalso; simp only [fa_lt, fa_le] at *; omega), rfl⟩
    · refine a_bipush (v := 9) B dX8_next_23 (by decide) ?_
      refine a_goto (tgt := 29) B dX8_next_25 (by decide) ?_
      refine a_ireturn B E dX8_next_29 ?_
      exact ⟨by simp only [nxt]; split <;> first | rfl | (split <;> first | rfl | (exfalso; simp_all [fa_lt, fa_le]; done) | (exfalso; simp only [fa_lt, fa_le] at *; omega)) | (exfalso; simp only [fa_lt, fa_le] at *; omega), rfl⟩
  · refine a_iconst (v := 0) B dX8_next_13 (by decide) ?_
    refine a_goto (tgt := 29) B dX8_next_14 (by decide) ?_
    refine a_ireturn B E dX8_next_29 ?_
    exact ⟨by simp only [nxt]; split <;> first | rfl | (split <;> first | rfl | (exfalso; simp_all [fa_lt, fa_le]; done) | (exfalso; simp only [fa_lt, fa_le] at *; omega)) | (exfalso; simp only [fa_lt, fa_le] at *; omega), rfl⟩
abbrev rm_X8_doesHiccup : Room := { frames := 0, cells := 0, slots := 0, locals := 0 }
set_option maxRecDepth 20000 in
theorem us_X8_doesHiccup_8 : ∀ w ∈ u_ws RX8 TX8 23, w ∈ wsX8_doesHiccup := by decide +kernel
set_option maxRecDepth 20000 in
theorem fl_X8_doesHiccup_65 : FL RX8 wsX8_doesHiccup 65 8 5 := ⟨RX8, TX8, 23, rfl, by decide, us_X8_doesHiccup_8, by decide +kernel⟩

set_option maxHeartbeats 4000000 in
set_option maxRecDepth 100000 in
theorem c_X8_doesHiccup {l : Launch} {V : ab_V} {mu : ab_mem} {v d : Int32} (hV : ab_OK V ShM)  : CT l V ShM yX8_doesHiccup wsX8_doesHiccup rm_X8_doesHiccup [.ref (aL V 0), .int v, .int d] mu (pI (fun r mu2 => r = bI (hicB (mu 0 5) v d) ∧ mu = mu2)) := by
  refine ab_enter hV (by decide) rfl (Nat.le_of_ble_eq_true rfl) ?_
  intro X B E
  have B : CX X l rm_X8_doesHiccup RX8 cX8_doesHiccup wsX8_doesHiccup 3 V ShM := B
  show AW X V ShM 3 0 [some (.ref (aL V 0)), some (.int v), some (.int d)] [] mu
  refine a_iload_n B dX8_doesHiccup_0 rfl ?_
  refine a_aload_n B dX8_doesHiccup_1 rfl ?_
  refine a_geti B fl_X8_doesHiccup_65 (by first | rfl | assumption) rfl dX8_doesHiccup_2 ?_
  refine a_icmp_lt (tgt := 17) B dX8_doesHiccup_5 (by decide) (fun c5 => ?_) (fun c5 => ?_)
  · refine a_iconst (v := 0) B dX8_doesHiccup_17 (by decide) ?_
    refine a_zreturn B E dX8_doesHiccup_18 (by first | rfl | exact nar_bI _) ?_
    exact ⟨by first | (simp [bI, hicB, Int32.not_le.mpr c5]; done) | simp_all [bI, hicB, Int32.not_lt, Int32.not_le], rfl⟩
  · refine a_iload_n B dX8_doesHiccup_8 rfl ?_
    refine a_iconst (v := 5) B dX8_doesHiccup_9 (by decide) ?_
    refine a_icmp_eq (tgt := 17) B dX8_doesHiccup_10 (by decide) (fun c10 => ?_) (fun c10 => ?_)
    · refine a_iconst (v := 0) B dX8_doesHiccup_17 (by decide) ?_
      refine a_zreturn B E dX8_doesHiccup_18 (by first | rfl | exact nar_bI _) ?_
      exact ⟨by first | (simp [bI, hicB, Int32.not_le.mpr c5]; done) | simp_all [bI, hicB, Int32.not_lt, Int32.not_le], rfl⟩
    · refine a_iconst (v := 1) B dX8_doesHiccup_13 (by decide) ?_
      refine a_goto (tgt := 18) B dX8_doesHiccup_14 (by decide) ?_
      refine a_zreturn B E dX8_doesHiccup_18 (by first | rfl | exact nar_bI _) ?_
      exact ⟨by first | (simp [bI, hicB, Int32.not_le.mpr c5]; done) | simp_all [bI, hicB, Int32.not_lt, Int32.not_le], rfl⟩
def onesF (x : Int32) : Nat → Int32
  | 0 => 0
  | n + 1 => onesF x n + ((x >>> (nI n &&& 31)) &&& 1)

abbrev rm_X8_ones : Room := { frames := 0, cells := 0, slots := 0, locals := 0 }

set_option maxHeartbeats 4000000 in
set_option maxRecDepth 100000 in
theorem c_X8_ones {l : Launch} {V : ab_V} {mu : ab_mem} {x : Int32} (hV : ab_OK V ShM)  : CT l V ShM yX8_ones wsX8_ones rm_X8_ones [.int x] mu (pI (fun r mu2 => r = onesF x 24 ∧ mu = mu2)) := by
  refine ab_enter hV (by decide) rfl (Nat.le_of_ble_eq_true rfl) ?_
  intro X B E
  have B : CX X l rm_X8_ones RX8 cX8_ones wsX8_ones 3 V ShM := B
  show AW X V ShM 3 0 [some (.int x), none, none] [] mu
  have loop : ∀ (m j : Nat), j + m = 24 → AW X V ShM 3 4 [some (.int x), some (.int (onesF x j)), some (.int (nI j))] [] mu := by
    intro m
    induction m with
    | zero =>
      intro j hj
      have e : j = 24 := by omega
      subst e
      refine a_iload_n B dX8_ones_4 rfl ?_
      refine a_bipush (v := 24) B dX8_ones_5 (by decide) ?_
      refine a_icmp_ge_t (tgt := 24) B dX8_ones_7 (by decide) ((by decide)) ?_
      refine a_iload_n B dX8_ones_24 rfl ?_
      refine a_ireturn B E dX8_ones_25 ?_
      exact ⟨rfl, rfl⟩
    | succ m ih =>
      intro j hj
      refine a_iload_n B dX8_ones_4 rfl ?_
      refine a_bipush (v := 24) B dX8_ones_5 (by decide) ?_
      refine a_icmp_ge_f (tgt := 24) B dX8_ones_7 (by decide) ((nI_ge (a := j) (b := 24) (by omega) (by decide))) ?_
      refine a_iload_n B dX8_ones_10 rfl ?_
      refine a_iload_n B dX8_ones_11 rfl ?_
      refine a_iload_n B dX8_ones_12 rfl ?_
      refine a_ishr B dX8_ones_13 ?_
      refine a_iconst (v := 1) B dX8_ones_14 (by decide) ?_
      refine a_iand B dX8_ones_15 ?_
      refine a_iadd B dX8_ones_16 ?_
      refine a_istore_n B dX8_ones_17 (by decide) ?_
      refine a_iinc (v := 1) B dX8_ones_18 rfl (by decide) (by decide) ?_
      refine a_goto (tgt := 4) B dX8_ones_21 (by decide) ?_
      rw [nI_1]
      exact ih (j + 1) (by omega)
  refine a_iconst (v := 0) B dX8_ones_0 (by decide) ?_
  refine a_istore_n B dX8_ones_1 (by decide) ?_
  refine a_iconst (v := 0) B dX8_ones_2 (by decide) ?_
  refine a_istore_n B dX8_ones_3 (by decide) ?_
  exact loop 24 0 rfl
