abbrev rm_X8_dishOf : Room := { frames := 5, cells := 0, slots := 0, locals := 112 }
set_option maxRecDepth 20000 in
theorem us_X8_dishOf_8 : ∀ w ∈ u_ws RX8 TX8 23, w ∈ wsX8_dishOf := by decide +kernel
set_option maxRecDepth 20000 in
theorem fl_X8_dishOf_25 : FL RX8 wsX8_dishOf 25 8 8 := ⟨RX8, TX8, 23, rfl, by decide, us_X8_dishOf_8, by decide +kernel⟩
theorem k_X8_dishOf_119 : KV RX8 wsX8_dishOf rm_X8_dishOf 119 RX8 yX8_laysAll wsX8_laysAll rm_X8_laysAll 0 := ⟨_, _, _, _, gX8_dishOf_X8_laysAll, rfl, rfl, rfl, by decide +kernel, by decide⟩

set_option maxHeartbeats 4000000 in
set_option maxRecDepth 100000 in
theorem c_X8_dishOf {l : Launch} {V : ab_V} {mu : ab_mem} {g h : Nat} (hV : ab_OK V ShM) (hi : IM mu) (hg : g < 3) (hh : h < 24) : CT l V ShM yX8_dishOf wsX8_dishOf rm_X8_dishOf [.ref (aL V 0), .int (nI g), .int (nI h)] mu (pI (fun r mu2 => r = dM mu g 0 99 h ∧ pM mu2 = pM mu)) := by
  refine ab_enter hV (by decide) rfl (Nat.le_of_ble_eq_true rfl) ?_
  intro X B E
  have B : CX X l rm_X8_dishOf RX8 cX8_dishOf wsX8_dishOf 3 V ShM := B
  show AW X V ShM 3 0 [some (.ref (aL V 0)), some (.int (nI g)), some (.int (nI h))] [] mu
  refine a_aload_n B dX8_dishOf_0 rfl ?_
  refine a_callVv B k_X8_dishOf_119 (c_X8_laysAll hV hi) (by first | rfl | assumption) rfl rfl rfl (Nat.le_of_ble_eq_true rfl) dX8_dishOf_1 (fun mu1 h1 => ?_)
  refine a_aload_n B dX8_dishOf_4 rfl ?_
  refine a_getr B fl_X8_dishOf_25 (by first | rfl | assumption) rfl dX8_dishOf_5 ?_
  refine a_bipush (v := 24) B dX8_dishOf_8 (by decide) ?_
  refine a_iload_n B dX8_dishOf_10 rfl ?_
  refine a_imul B dX8_dishOf_11 ?_
  refine a_iload_n B dX8_dishOf_12 rfl ?_
  refine a_iadd B dX8_dishOf_13 ?_
  refine a_ialdN B (24 * g + h) (by first | rfl | assumption) (ix24 g h) (by omega) (by decide) dX8_dishOf_14 ?_
  refine a_ireturn B E dX8_dishOf_15 ?_
  exact ⟨(h1.2 g hg).1 h hh, h1.1⟩
abbrev rm_X8_levelOf : Room := { frames := 5, cells := 0, slots := 0, locals := 112 }
set_option maxRecDepth 20000 in
theorem us_X8_levelOf_8 : ∀ w ∈ u_ws RX8 TX8 23, w ∈ wsX8_levelOf := by decide +kernel
set_option maxRecDepth 20000 in
theorem fl_X8_levelOf_28 : FL RX8 wsX8_levelOf 28 8 9 := ⟨RX8, TX8, 23, rfl, by decide, us_X8_levelOf_8, by decide +kernel⟩
theorem k_X8_levelOf_119 : KV RX8 wsX8_levelOf rm_X8_levelOf 119 RX8 yX8_laysAll wsX8_laysAll rm_X8_laysAll 0 := ⟨_, _, _, _, gX8_levelOf_X8_laysAll, rfl, rfl, rfl, by decide +kernel, by decide⟩

set_option maxHeartbeats 4000000 in
set_option maxRecDepth 100000 in
theorem c_X8_levelOf {l : Launch} {V : ab_V} {mu : ab_mem} {g h : Nat} (hV : ab_OK V ShM) (hi : IM mu) (hg : g < 3) (hh : h < 24) : CT l V ShM yX8_levelOf wsX8_levelOf rm_X8_levelOf [.ref (aL V 0), .int (nI g), .int (nI h)] mu (pI (fun r mu2 => r = lM mu g 0 99 (h + 1) ∧ pM mu2 = pM mu)) := by
  refine ab_enter hV (by decide) rfl (Nat.le_of_ble_eq_true rfl) ?_
  intro X B E
  have B : CX X l rm_X8_levelOf RX8 cX8_levelOf wsX8_levelOf 3 V ShM := B
  show AW X V ShM 3 0 [some (.ref (aL V 0)), some (.int (nI g)), some (.int (nI h))] [] mu
  refine a_aload_n B dX8_levelOf_0 rfl ?_
  refine a_callVv B k_X8_levelOf_119 (c_X8_laysAll hV hi) (by first | rfl | assumption) rfl rfl rfl (Nat.le_of_ble_eq_true rfl) dX8_levelOf_1 (fun mu1 h1 => ?_)
  refine a_aload_n B dX8_levelOf_4 rfl ?_
  refine a_getr B fl_X8_levelOf_28 (by first | rfl | assumption) rfl dX8_levelOf_5 ?_
  refine a_bipush (v := 24) B dX8_levelOf_8 (by decide) ?_
  refine a_iload_n B dX8_levelOf_10 rfl ?_
  refine a_imul B dX8_levelOf_11 ?_
  refine a_iload_n B dX8_levelOf_12 rfl ?_
  refine a_iadd B dX8_levelOf_13 ?_
  refine a_ialdN B (24 * g + h) (by first | rfl | assumption) (ix24 g h) (by omega) (by decide) dX8_levelOf_14 ?_
  refine a_ireturn B E dX8_levelOf_15 ?_
  exact ⟨(h1.2 g hg).2.1 h hh, h1.1⟩
abbrev rm_X8_hiccupsOf : Room := { frames := 5, cells := 0, slots := 0, locals := 112 }
set_option maxRecDepth 20000 in
theorem us_X8_hiccupsOf_8 : ∀ w ∈ u_ws RX8 TX8 23, w ∈ wsX8_hiccupsOf := by decide +kernel
set_option maxRecDepth 20000 in
theorem fl_X8_hiccupsOf_31 : FL RX8 wsX8_hiccupsOf 31 8 10 := ⟨RX8, TX8, 23, rfl, by decide, us_X8_hiccupsOf_8, by decide +kernel⟩
theorem k_X8_hiccupsOf_119 : KV RX8 wsX8_hiccupsOf rm_X8_hiccupsOf 119 RX8 yX8_laysAll wsX8_laysAll rm_X8_laysAll 0 := ⟨_, _, _, _, gX8_hiccupsOf_X8_laysAll, rfl, rfl, rfl, by decide +kernel, by decide⟩

set_option maxHeartbeats 4000000 in
set_option maxRecDepth 100000 in
theorem c_X8_hiccupsOf {l : Launch} {V : ab_V} {mu : ab_mem} {g : Nat} (hV : ab_OK V ShM) (hi : IM mu) (hg : g < 3) : CT l V ShM yX8_hiccupsOf wsX8_hiccupsOf rm_X8_hiccupsOf [.ref (aL V 0), .int (nI g)] mu (pI (fun r mu2 => r = bM mu g 0 99 24 ∧ pM mu2 = pM mu)) := by
  refine ab_enter hV (by decide) rfl (Nat.le_of_ble_eq_true rfl) ?_
  intro X B E
  have B : CX X l rm_X8_hiccupsOf RX8 cX8_hiccupsOf wsX8_hiccupsOf 2 V ShM := B
  show AW X V ShM 2 0 [some (.ref (aL V 0)), some (.int (nI g))] [] mu
  refine a_aload_n B dX8_hiccupsOf_0 rfl ?_
  refine a_callVv B k_X8_hiccupsOf_119 (c_X8_laysAll hV hi) (by first | rfl | assumption) rfl rfl rfl (Nat.le_of_ble_eq_true rfl) dX8_hiccupsOf_1 (fun mu1 h1 => ?_)
  refine a_aload_n B dX8_hiccupsOf_4 rfl ?_
  refine a_getr B fl_X8_hiccupsOf_31 (by first | rfl | assumption) rfl dX8_hiccupsOf_5 ?_
  refine a_iload_n B dX8_hiccupsOf_8 rfl ?_
  refine a_ialdN B (g) (by first | rfl | assumption) rfl (by omega) (by decide) dX8_hiccupsOf_9 ?_
  refine a_ireturn B E dX8_hiccupsOf_10 ?_
  exact ⟨(h1.2 g hg).2.2, h1.1⟩
abbrev rm_X8_dish : Room := { frames := 6, cells := 0, slots := 0, locals := 134 }
theorem k_X8_dish_75 : KS RX8 wsX8_dish rm_X8_dish 75 yX8_isGeneral wsX8_isGeneral rm_X8_isGeneral 1 := ⟨_, _, _, _, gX8_dish_X8_isGeneral, rfl, rfl, rfl, by decide +kernel, by decide⟩
theorem k_X8_dish_122 : KS RX8 wsX8_dish rm_X8_dish 122 yX8_isHour wsX8_isHour rm_X8_isHour 1 := ⟨_, _, _, _, gX8_dish_X8_isHour, rfl, rfl, rfl, by decide +kernel, by decide⟩
theorem k_X8_dish_125 : KV RX8 wsX8_dish rm_X8_dish 125 RX8 yX8_dishOf wsX8_dishOf rm_X8_dishOf 2 := ⟨_, _, _, _, gX8_dish_X8_dishOf, rfl, rfl, rfl, by decide +kernel, by decide⟩

set_option maxHeartbeats 4000000 in
set_option maxRecDepth 100000 in
theorem c_X8_dish {l : Launch} {V : ab_V} {mu : ab_mem} {g h : Nat} (hV : ab_OK V ShM) (hi : IM mu) (hg : g < 3) (hh : h < 24) : CT l V ShM yX8_dish wsX8_dish rm_X8_dish [.ref (aL V 0), .int (nI g), .int (nI h)] mu (pI (fun r mu2 => r = dM mu g 0 99 h ∧ pM mu2 = pM mu)) := by
  refine ab_enter hV (by decide) rfl (Nat.le_of_ble_eq_true rfl) ?_
  intro X B E
  have B : CX X l rm_X8_dish RX8 cX8_dish wsX8_dish 3 V ShM := B
  show AW X V ShM 3 0 [some (.ref (aL V 0)), some (.int (nI g)), some (.int (nI h))] [] mu
  refine a_iload_n B dX8_dish_0 rfl ?_
  refine a_callSi B k_X8_dish_75 (c_X8_isGeneral hV) rfl rfl (Nat.le_of_ble_eq_true rfl) dX8_dish_1 (fun r1 mu1 h1 => ?_)
  obtain ⟨rfl, rfl⟩ := h1
  refine a_if_eq_f (tgt := 23) B dX8_dish_4 (by decide) (bI_n0.mpr (inB_nI (n := 2) (by omega) (by decide))) ?_
  refine a_iload_n B dX8_dish_7 rfl ?_
  refine a_callSi B k_X8_dish_122 (c_X8_isHour hV) rfl rfl (Nat.le_of_ble_eq_true rfl) dX8_dish_8 (fun r8 mu8 h8 => ?_)
  obtain ⟨rfl, rfl⟩ := h8
  refine a_if_eq_f (tgt := 23) B dX8_dish_11 (by decide) (bI_n0.mpr (inB_nI (n := 23) (by omega) (by decide))) ?_
  refine a_aload_n B dX8_dish_14 rfl ?_
  refine a_iload_n B dX8_dish_15 rfl ?_
  refine a_iload_n B dX8_dish_16 rfl ?_
  refine a_callVi B k_X8_dish_125 (c_X8_dishOf hV hi hg hh) (by first | rfl | assumption) rfl rfl rfl (Nat.le_of_ble_eq_true rfl) dX8_dish_17 (fun r17 mu17 h17 => ?_)
  refine a_goto (tgt := 25) B dX8_dish_20 (by decide) ?_
  refine a_ireturn B E dX8_dish_25 ?_
  exact h17
set_option maxHeartbeats 4000000 in
set_option maxRecDepth 100000 in
theorem c_X8_dish_bad {l : Launch} {V : ab_V} {mu : ab_mem} {a b : Int32} (hV : ab_OK V ShM) (hbad : ¬ (inB a 0 2 = true ∧ inB b 0 23 = true)) : CT l V ShM yX8_dish wsX8_dish rm_X8_dish [.ref (aL V 0), .int a, .int b] mu (pI (fun r mu2 => r = -2 ∧ mu = mu2)) := by
  refine ab_enter hV (by decide) rfl (Nat.le_of_ble_eq_true rfl) ?_
  intro X B E
  have B : CX X l rm_X8_dish RX8 cX8_dish wsX8_dish 3 V ShM := B
  show AW X V ShM 3 0 [some (.ref (aL V 0)), some (.int a), some (.int b)] [] mu
  refine a_iload_n B dX8_dish_0 rfl ?_
  refine a_callSi B k_X8_dish_75 (c_X8_isGeneral hV) rfl rfl (Nat.le_of_ble_eq_true rfl) dX8_dish_1 (fun r1 mu1 h1 => ?_)
  obtain ⟨rfl, rfl⟩ := h1
  refine a_if_eq (tgt := 23) B dX8_dish_4 (by decide) (fun c4 => ?_) (fun c4 => ?_)
  · refine a_bipush (v := -2) B dX8_dish_23 (by decide) ?_
    refine a_ireturn B E dX8_dish_25 ?_
    exact ⟨rfl, rfl⟩
  · refine a_iload_n B dX8_dish_7 rfl ?_
    refine a_callSi B k_X8_dish_122 (c_X8_isHour hV) rfl rfl (Nat.le_of_ble_eq_true rfl) dX8_dish_8 (fun r8 mu8 h8 => ?_)
    obtain ⟨rfl, rfl⟩ := h8
    refine a_if_eq (tgt := 23) B dX8_dish_11 (by decide) (fun c11 => ?_) (fun c11 => ?_)
    · refine a_bipush (v := -2) B dX8_dish_23 (by decide) ?_
      refine a_ireturn B E dX8_dish_25 ?_
      exact ⟨rfl, rfl⟩
    · exfalso
      simp_all [bI_0, bI_n0]
abbrev rm_X8_level : Room := { frames := 6, cells := 0, slots := 0, locals := 134 }
theorem k_X8_level_75 : KS RX8 wsX8_level rm_X8_level 75 yX8_isGeneral wsX8_isGeneral rm_X8_isGeneral 1 := ⟨_, _, _, _, gX8_level_X8_isGeneral, rfl, rfl, rfl, by decide +kernel, by decide⟩
theorem k_X8_level_122 : KS RX8 wsX8_level rm_X8_level 122 yX8_isHour wsX8_isHour rm_X8_isHour 1 := ⟨_, _, _, _, gX8_level_X8_isHour, rfl, rfl, rfl, by decide +kernel, by decide⟩
theorem k_X8_level_128 : KV RX8 wsX8_level rm_X8_level 128 RX8 yX8_levelOf wsX8_levelOf rm_X8_levelOf 2 := ⟨_, _, _, _, gX8_level_X8_levelOf, rfl, rfl, rfl, by decide +kernel, by decide⟩

set_option maxHeartbeats 4000000 in
set_option maxRecDepth 100000 in
theorem c_X8_level {l : Launch} {V : ab_V} {mu : ab_mem} {g h : Nat} (hV : ab_OK V ShM) (hi : IM mu) (hg : g < 3) (hh : h < 24) : CT l V ShM yX8_level wsX8_level rm_X8_level [.ref (aL V 0), .int (nI g), .int (nI h)] mu (pI (fun r mu2 => r = lM mu g 0 99 (h + 1) ∧ pM mu2 = pM mu)) := by
  refine ab_enter hV (by decide) rfl (Nat.le_of_ble_eq_true rfl) ?_
  intro X B E
  have B : CX X l rm_X8_level RX8 cX8_level wsX8_level 3 V ShM := B
  show AW X V ShM 3 0 [some (.ref (aL V 0)), some (.int (nI g)), some (.int (nI h))] [] mu
  refine a_iload_n B dX8_level_0 rfl ?_
  refine a_callSi B k_X8_level_75 (c_X8_isGeneral hV) rfl rfl (Nat.le_of_ble_eq_true rfl) dX8_level_1 (fun r1 mu1 h1 => ?_)
  obtain ⟨rfl, rfl⟩ := h1
  refine a_if_eq_f (tgt := 23) B dX8_level_4 (by decide) (bI_n0.mpr (inB_nI (n := 2) (by omega) (by decide))) ?_
  refine a_iload_n B dX8_level_7 rfl ?_
  refine a_callSi B k_X8_level_122 (c_X8_isHour hV) rfl rfl (Nat.le_of_ble_eq_true rfl) dX8_level_8 (fun r8 mu8 h8 => ?_)
  obtain ⟨rfl, rfl⟩ := h8
  refine a_if_eq_f (tgt := 23) B dX8_level_11 (by decide) (bI_n0.mpr (inB_nI (n := 23) (by omega) (by decide))) ?_
  refine a_aload_n B dX8_level_14 rfl ?_
  refine a_iload_n B dX8_level_15 rfl ?_
  refine a_iload_n B dX8_level_16 rfl ?_
  refine a_callVi B k_X8_level_128 (c_X8_levelOf hV hi hg hh) (by first | rfl | assumption) rfl rfl rfl (Nat.le_of_ble_eq_true rfl) dX8_level_17 (fun r17 mu17 h17 => ?_)
  refine a_goto (tgt := 25) B dX8_level_20 (by decide) ?_
  refine a_ireturn B E dX8_level_25 ?_
  exact h17
set_option maxHeartbeats 4000000 in
set_option maxRecDepth 100000 in
theorem c_X8_level_bad {l : Launch} {V : ab_V} {mu : ab_mem} {a b : Int32} (hV : ab_OK V ShM) (hbad : ¬ (inB a 0 2 = true ∧ inB b 0 23 = true)) : CT l V ShM yX8_level wsX8_level rm_X8_level [.ref (aL V 0), .int a, .int b] mu (pI (fun r mu2 => r = -2 ∧ mu = mu2)) := by
  refine ab_enter hV (by decide) rfl (Nat.le_of_ble_eq_true rfl) ?_
  intro X B E
  have B : CX X l rm_X8_level RX8 cX8_level wsX8_level 3 V ShM := B
  show AW X V ShM 3 0 [some (.ref (aL V 0)), some (.int a), some (.int b)] [] mu
  refine a_iload_n B dX8_level_0 rfl ?_
  refine a_callSi B k_X8_level_75 (c_X8_isGeneral hV) rfl rfl (Nat.le_of_ble_eq_true rfl) dX8_level_1 (fun r1 mu1 h1 => ?_)
  obtain ⟨rfl, rfl⟩ := h1
  refine a_if_eq (tgt := 23) B dX8_level_4 (by decide) (fun c4 => ?_) (fun c4 => ?_)
  · refine a_bipush (v := -2) B dX8_level_23 (by decide) ?_
    refine a_ireturn B E dX8_level_25 ?_
    exact ⟨rfl, rfl⟩
  · refine a_iload_n B dX8_level_7 rfl ?_
    refine a_callSi B k_X8_level_122 (c_X8_isHour hV) rfl rfl (Nat.le_of_ble_eq_true rfl) dX8_level_8 (fun r8 mu8 h8 => ?_)
    obtain ⟨rfl, rfl⟩ := h8
    refine a_if_eq (tgt := 23) B dX8_level_11 (by decide) (fun c11 => ?_) (fun c11 => ?_)
    · refine a_bipush (v := -2) B dX8_level_23 (by decide) ?_
      refine a_ireturn B E dX8_level_25 ?_
      exact ⟨rfl, rfl⟩
    · exfalso
      simp_all [bI_0, bI_n0]
abbrev rm_X8_hiccups : Room := { frames := 6, cells := 0, slots := 0, locals := 133 }
theorem k_X8_hiccups_75 : KS RX8 wsX8_hiccups rm_X8_hiccups 75 yX8_isGeneral wsX8_isGeneral rm_X8_isGeneral 1 := ⟨_, _, _, _, gX8_hiccups_X8_isGeneral, rfl, rfl, rfl, by decide +kernel, by decide⟩
theorem k_X8_hiccups_131 : KV RX8 wsX8_hiccups rm_X8_hiccups 131 RX8 yX8_hiccupsOf wsX8_hiccupsOf rm_X8_hiccupsOf 1 := ⟨_, _, _, _, gX8_hiccups_X8_hiccupsOf, rfl, rfl, rfl, by decide +kernel, by decide⟩

set_option maxHeartbeats 4000000 in
set_option maxRecDepth 100000 in
theorem c_X8_hiccups {l : Launch} {V : ab_V} {mu : ab_mem} {g : Nat} (hV : ab_OK V ShM) (hi : IM mu) (hg : g < 3) : CT l V ShM yX8_hiccups wsX8_hiccups rm_X8_hiccups [.ref (aL V 0), .int (nI g)] mu (pI (fun r mu2 => r = bM mu g 0 99 24 ∧ pM mu2 = pM mu)) := by
  refine ab_enter hV (by decide) rfl (Nat.le_of_ble_eq_true rfl) ?_
  intro X B E
  have B : CX X l rm_X8_hiccups RX8 cX8_hiccups wsX8_hiccups 2 V ShM := B
  show AW X V ShM 2 0 [some (.ref (aL V 0)), some (.int (nI g))] [] mu
  refine a_iload_n B dX8_hiccups_0 rfl ?_
  refine a_callSi B k_X8_hiccups_75 (c_X8_isGeneral hV) rfl rfl (Nat.le_of_ble_eq_true rfl) dX8_hiccups_1 (fun r1 mu1 h1 => ?_)
  obtain ⟨rfl, rfl⟩ := h1
  refine a_if_eq_f (tgt := 15) B dX8_hiccups_4 (by decide) (bI_n0.mpr (inB_nI (n := 2) (by omega) (by decide))) ?_
  refine a_aload_n B dX8_hiccups_7 rfl ?_
  refine a_iload_n B dX8_hiccups_8 rfl ?_
  refine a_callVi B k_X8_hiccups_131 (c_X8_hiccupsOf hV hi hg) (by first | rfl | assumption) rfl rfl rfl (Nat.le_of_ble_eq_true rfl) dX8_hiccups_9 (fun r9 mu9 h9 => ?_)
  refine a_goto (tgt := 17) B dX8_hiccups_12 (by decide) ?_
  refine a_ireturn B E dX8_hiccups_17 ?_
  exact h9
set_option maxHeartbeats 4000000 in
set_option maxRecDepth 100000 in
theorem c_X8_hiccups_bad {l : Launch} {V : ab_V} {mu : ab_mem} {a : Int32} (hV : ab_OK V ShM) (hbad : ¬ inB a 0 2 = true) : CT l V ShM yX8_hiccups wsX8_hiccups rm_X8_hiccups [.ref (aL V 0), .int a] mu (pI (fun r mu2 => r = -2 ∧ mu = mu2)) := by
  refine ab_enter hV (by decide) rfl (Nat.le_of_ble_eq_true rfl) ?_
  intro X B E
  have B : CX X l rm_X8_hiccups RX8 cX8_hiccups wsX8_hiccups 2 V ShM := B
  show AW X V ShM 2 0 [some (.ref (aL V 0)), some (.int a)] [] mu
  refine a_iload_n B dX8_hiccups_0 rfl ?_
  refine a_callSi B k_X8_hiccups_75 (c_X8_isGeneral hV) rfl rfl (Nat.le_of_ble_eq_true rfl) dX8_hiccups_1 (fun r1 mu1 h1 => ?_)
  obtain ⟨rfl, rfl⟩ := h1
  refine a_if_eq (tgt := 15) B dX8_hiccups_4 (by decide) (fun c4 => ?_) (fun c4 => ?_)
  · refine a_bipush (v := -2) B dX8_hiccups_15 (by decide) ?_
    refine a_ireturn B E dX8_hiccups_17 ?_
    exact ⟨rfl, rfl⟩
  · exfalso
    simp_all [bI_0, bI_n0]
def brk (law a b : Int32) : Int32 := if law = 0 then a &&& b else if law = 1 then a ||| b else ((a &&& b ||| a &&& (b <<< ((1 : Int32) &&& 31))) ||| b &&& (a <<< ((1 : Int32) &&& 31))) &&& 16777215
def bkM (mu : ab_mem) (law : Int32) : Int32 := brk law (bM mu 0 0 99 24) (bM mu 1 0 99 24)
def jdF (x : Int32) (i : Nat) : Nat → Int32
  | 0 => -1
  | n + 1 => if bitB x (nI i) then nI i else jdF x (i + 1) n
abbrev rm_X8_brokenBy : Room := { frames := 5, cells := 0, slots := 0, locals := 112 }
set_option maxRecDepth 20000 in
theorem us_X8_brokenBy_8 : ∀ w ∈ u_ws RX8 TX8 23, w ∈ wsX8_brokenBy := by decide +kernel
set_option maxRecDepth 20000 in
theorem fl_X8_brokenBy_31 : FL RX8 wsX8_brokenBy 31 8 10 := ⟨RX8, TX8, 23, rfl, by decide, us_X8_brokenBy_8, by decide +kernel⟩
theorem k_X8_brokenBy_119 : KV RX8 wsX8_brokenBy rm_X8_brokenBy 119 RX8 yX8_laysAll wsX8_laysAll rm_X8_laysAll 0 := ⟨_, _, _, _, gX8_brokenBy_X8_laysAll, rfl, rfl, rfl, by decide +kernel, by decide⟩

set_option maxHeartbeats 4000000 in
set_option maxRecDepth 100000 in
theorem c_X8_brokenBy {l : Launch} {V : ab_V} {mu : ab_mem} {w : Int32} (hV : ab_OK V ShM) (hi : IM mu)  : CT l V ShM yX8_brokenBy wsX8_brokenBy rm_X8_brokenBy [.ref (aL V 0), .int w] mu (pI (fun r mu2 => r = bkM mu w ∧ pM mu2 = pM mu)) := by
  refine ab_enter hV (by decide) rfl (Nat.le_of_ble_eq_true rfl) ?_
  intro X B E
  have B : CX X l rm_X8_brokenBy RX8 cX8_brokenBy wsX8_brokenBy 5 V ShM := B
  show AW X V ShM 5 0 [some (.ref (aL V 0)), some (.int w), none, none, none] [] mu
  refine a_aload_n B dX8_brokenBy_0 rfl ?_
  refine a_callVv B k_X8_brokenBy_119 (c_X8_laysAll hV hi) (by first | rfl | assumption) rfl rfl rfl (Nat.le_of_ble_eq_true rfl) dX8_brokenBy_1 (fun mu1 h1 => ?_)
  refine a_aload_n B dX8_brokenBy_4 rfl ?_
  refine a_getr B fl_X8_brokenBy_31 (by first | rfl | assumption) rfl dX8_brokenBy_5 ?_
  refine a_iconst (v := 0) B dX8_brokenBy_8 (by decide) ?_
  refine a_ialdN B (0) (by first | rfl | assumption) rfl (by omega) (by decide) dX8_brokenBy_9 ?_
  refine a_istore_n B dX8_brokenBy_10 (by decide) ?_
  refine a_aload_n B dX8_brokenBy_11 rfl ?_
  refine a_getr B fl_X8_brokenBy_31 (by first | rfl | assumption) rfl dX8_brokenBy_12 ?_
  refine a_iconst (v := 1) B dX8_brokenBy_15 (by decide) ?_
  refine a_ialdN B (1) (by first | rfl | assumption) rfl (by omega) (by decide) dX8_brokenBy_16 ?_
  refine a_istore_n B dX8_brokenBy_17 (by decide) ?_
  refine a_ldc (v := 16777215) B (by decide +kernel) dX8_brokenBy_18 ?_
  refine a_istore B dX8_brokenBy_20 (by decide) ?_
  refine a_iload_n B dX8_brokenBy_22 rfl ?_
  refine a_if_ne (tgt := 32) B dX8_brokenBy_23 (by decide) (fun c23 => ?_) (fun c23 => ?_)
  · refine a_iload_n B dX8_brokenBy_32 rfl ?_
    refine a_iconst (v := 1) B dX8_brokenBy_33 (by decide) ?_
    refine a_icmp_ne (tgt := 43) B dX8_brokenBy_34 (by decide) (fun c34 => ?_) (fun c34 => ?_)
    · refine a_iload_n B dX8_brokenBy_43 rfl ?_
      refine a_iload_n B dX8_brokenBy_44 rfl ?_
      refine a_iand B dX8_brokenBy_45 ?_
      refine a_iload_n B dX8_brokenBy_46 rfl ?_
      refine a_iload_n B dX8_brokenBy_47 rfl ?_
      refine a_iconst (v := 1) B dX8_brokenBy_48 (by decide) ?_
      refine a_ishl B dX8_brokenBy_49 ?_
      refine a_iand B dX8_brokenBy_50 ?_
      refine a_ior B dX8_brokenBy_51 ?_
      refine a_iload_n B dX8_brokenBy_52 rfl ?_
      refine a_iload_n B dX8_brokenBy_53 rfl ?_
      refine a_iconst (v := 1) B dX8_brokenBy_54 (by decide) ?_
      refine a_ishl B dX8_brokenBy_55 ?_
      refine a_iand B dX8_brokenBy_56 ?_
      refine a_ior B dX8_brokenBy_57 ?_
      refine a_iload B dX8_brokenBy_58 rfl ?_
      refine a_iand B dX8_brokenBy_60 ?_
      refine a_ireturn B E dX8_brokenBy_61 ?_
      refine ⟨?_, h1.1⟩
      rw [(h1.2 0 (by decide)).2.2, (h1.2 1 (by decide)).2.2, bkM, brk]
      first | rw [if_pos c23] | rw [if_neg c23, if_pos c34] | rw [if_neg c23, if_neg c34]
    · refine a_iload_n B dX8_brokenBy_37 rfl ?_
      refine a_iload_n B dX8_brokenBy_38 rfl ?_
      refine a_ior B dX8_brokenBy_39 ?_
      refine a_goto (tgt := 61) B dX8_brokenBy_40 (by decide) ?_
      refine a_ireturn B E dX8_brokenBy_61 ?_
      refine ⟨?_, h1.1⟩
      rw [(h1.2 0 (by decide)).2.2, (h1.2 1 (by decide)).2.2, bkM, brk]
      first | rw [if_pos c23] | rw [if_neg c23, if_pos c34] | rw [if_neg c23, if_neg c34]
  · refine a_iload_n B dX8_brokenBy_26 rfl ?_
    refine a_iload_n B dX8_brokenBy_27 rfl ?_
    refine a_iand B dX8_brokenBy_28 ?_
    refine a_goto (tgt := 61) B dX8_brokenBy_29 (by decide) ?_
    refine a_ireturn B E dX8_brokenBy_61 ?_
    refine ⟨?_, h1.1⟩
    rw [(h1.2 0 (by decide)).2.2, (h1.2 1 (by decide)).2.2, bkM, brk]
    first | rw [if_pos c23] | rw [if_neg c23, if_pos c34] | rw [if_neg c23, if_neg c34]
abbrev rm_X8_broken : Room := { frames := 6, cells := 0, slots := 0, locals := 136 }
theorem k_X8_broken_71 : KS RX8 wsX8_broken rm_X8_broken 71 yX8_in wsX8_in rm_X8_in 3 := ⟨_, _, _, _, gX8_broken_X8_in, rfl, rfl, rfl, by decide +kernel, by decide⟩
theorem k_X8_broken_135 : KV RX8 wsX8_broken rm_X8_broken 135 RX8 yX8_brokenBy wsX8_brokenBy rm_X8_brokenBy 1 := ⟨_, _, _, _, gX8_broken_X8_brokenBy, rfl, rfl, rfl, by decide +kernel, by decide⟩

set_option maxHeartbeats 4000000 in
set_option maxRecDepth 100000 in
theorem c_X8_broken {l : Launch} {V : ab_V} {mu : ab_mem} {w : Int32} (hV : ab_OK V ShM) (hi : IM mu) (hw : inB w 0 2 = true) : CT l V ShM yX8_broken wsX8_broken rm_X8_broken [.ref (aL V 0), .int w] mu (pI (fun r mu2 => r = bkM mu w ∧ pM mu2 = pM mu)) := by
  refine ab_enter hV (by decide) rfl (Nat.le_of_ble_eq_true rfl) ?_
  intro X B E
  have B : CX X l rm_X8_broken RX8 cX8_broken wsX8_broken 2 V ShM := B
  show AW X V ShM 2 0 [some (.ref (aL V 0)), some (.int w)] [] mu
  refine a_iload_n B dX8_broken_0 rfl ?_
  refine a_iconst (v := 0) B dX8_broken_1 (by decide) ?_
  refine a_iconst (v := 2) B dX8_broken_2 (by decide) ?_
  refine a_callSi B k_X8_broken_71 (c_X8_in hV) rfl rfl (Nat.le_of_ble_eq_true rfl) dX8_broken_3 (fun r3 mu3 h3 => ?_)
  obtain ⟨rfl, rfl⟩ := h3
  refine a_if_eq_f (tgt := 17) B dX8_broken_6 (by decide) (bI_n0.mpr hw) ?_
  refine a_aload_n B dX8_broken_9 rfl ?_
  refine a_iload_n B dX8_broken_10 rfl ?_
  refine a_callVi B k_X8_broken_135 (c_X8_brokenBy hV hi) (by first | rfl | assumption) rfl rfl rfl (Nat.le_of_ble_eq_true rfl) dX8_broken_11 (fun r11 mu11 h11 => ?_)
  refine a_goto (tgt := 19) B dX8_broken_14 (by decide) ?_
  refine a_ireturn B E dX8_broken_19 ?_
  exact h11
set_option maxHeartbeats 4000000 in
set_option maxRecDepth 100000 in
theorem c_X8_broken_bad {l : Launch} {V : ab_V} {mu : ab_mem} {w : Int32} (hV : ab_OK V ShM) (hbad : ¬ inB w 0 2 = true) : CT l V ShM yX8_broken wsX8_broken rm_X8_broken [.ref (aL V 0), .int w] mu (pI (fun r mu2 => r = -2 ∧ mu = mu2)) := by
  refine ab_enter hV (by decide) rfl (Nat.le_of_ble_eq_true rfl) ?_
  intro X B E
  have B : CX X l rm_X8_broken RX8 cX8_broken wsX8_broken 2 V ShM := B
  show AW X V ShM 2 0 [some (.ref (aL V 0)), some (.int w)] [] mu
  refine a_iload_n B dX8_broken_0 rfl ?_
  refine a_iconst (v := 0) B dX8_broken_1 (by decide) ?_
  refine a_iconst (v := 2) B dX8_broken_2 (by decide) ?_
  refine a_callSi B k_X8_broken_71 (c_X8_in hV) rfl rfl (Nat.le_of_ble_eq_true rfl) dX8_broken_3 (fun r3 mu3 h3 => ?_)
  obtain ⟨rfl, rfl⟩ := h3
  refine a_if_eq (tgt := 17) B dX8_broken_6 (by decide) (fun c6 => ?_) (fun c6 => ?_)
  · refine a_bipush (v := -2) B dX8_broken_17 (by decide) ?_
    refine a_ireturn B E dX8_broken_19 ?_
    exact ⟨rfl, rfl⟩
  · exfalso
    simp_all [bI_0, bI_n0]
abbrev rm_X8_judgedNow : Room := { frames := 6, cells := 0, slots := 0, locals := 136 }
set_option maxRecDepth 20000 in
theorem us_X8_judgedNow_8 : ∀ w ∈ u_ws RX8 TX8 23, w ∈ wsX8_judgedNow := by decide +kernel
set_option maxRecDepth 20000 in
theorem fl_X8_judgedNow_89 : FL RX8 wsX8_judgedNow 89 8 6 := ⟨RX8, TX8, 23, rfl, by decide, us_X8_judgedNow_8, by decide +kernel⟩
theorem k_X8_judgedNow_135 : KV RX8 wsX8_judgedNow rm_X8_judgedNow 135 RX8 yX8_brokenBy wsX8_brokenBy rm_X8_brokenBy 1 := ⟨_, _, _, _, gX8_judgedNow_X8_brokenBy, rfl, rfl, rfl, by decide +kernel, by decide⟩
theorem k_X8_judgedNow_138 : KS RX8 wsX8_judgedNow rm_X8_judgedNow 138 yX8_isIn wsX8_isIn rm_X8_isIn 2 := ⟨_, _, _, _, gX8_judgedNow_X8_isIn, rfl, rfl, rfl, by decide +kernel, by decide⟩

set_option maxHeartbeats 4000000 in
set_option maxRecDepth 100000 in
theorem c_X8_judgedNow {l : Launch} {V : ab_V} {mu : ab_mem}  (hV : ab_OK V ShM) (hi : IM mu)  : CT l V ShM yX8_judgedNow wsX8_judgedNow rm_X8_judgedNow [.ref (aL V 0)] mu (pI (fun r mu2 => r = jdF (bkM mu (mu 0 6)) 0 24 ∧ pM mu2 = pM mu)) := by
  refine ab_enter hV (by decide) rfl (Nat.le_of_ble_eq_true rfl) ?_
  intro X B E
  have B : CX X l rm_X8_judgedNow RX8 cX8_judgedNow wsX8_judgedNow 3 V ShM := B
  show AW X V ShM 3 0 [some (.ref (aL V 0)), none, none] [] mu
  have loop : ∀ (mu1 : ab_mem), pM mu1 = pM mu → ∀ (m j : Nat), j + m = 24 → jdF (bkM mu (mu 0 6)) j m = jdF (bkM mu (mu 0 6)) 0 24 → AW X V ShM 3 11 [some (.ref (aL V 0)), some (.int (bkM mu (mu 0 6))), some (.int (nI j))] [] mu1 := by
    intro mu1 hp m
    induction m with
    | zero =>
      intro j hj hf
      refine a_iload_n B dX8_judgedNow_11 rfl ?_
      refine a_bipush (v := 24) B dX8_judgedNow_12 (by decide) ?_
      refine a_icmp_ge_t (tgt := 33) B dX8_judgedNow_14 (by decide) (nI_le (a := 24) (b := j) (by omega) (by omega)) ?_
      refine a_iconst (v := -1) B dX8_judgedNow_33 (by decide) ?_
      refine a_ireturn B E dX8_judgedNow_34 ?_
      exact ⟨hf, hp⟩
    | succ m ih =>
      intro j hj hf
      refine a_iload_n B dX8_judgedNow_11 rfl ?_
      refine a_bipush (v := 24) B dX8_judgedNow_12 (by decide) ?_
      refine a_icmp_ge_f (tgt := 33) B dX8_judgedNow_14 (by decide) (nI_ge (a := j) (b := 24) (by omega) (by decide)) ?_
      refine a_iload_n B dX8_judgedNow_17 rfl ?_
      refine a_iload_n B dX8_judgedNow_18 rfl ?_
      refine a_callSi B k_X8_judgedNow_138 (c_X8_isIn hV) rfl rfl (Nat.le_of_ble_eq_true rfl) dX8_judgedNow_19 (fun r19 mu19 h19 => ?_)
      obtain ⟨rfl, rfl⟩ := h19
      refine a_if_eq (tgt := 27) B dX8_judgedNow_22 (by decide) (fun c22 => ?_) (fun c22 => ?_)
      · refine a_iinc (v := 1) B dX8_judgedNow_27 rfl (by decide) (by decide) ?_
        refine a_goto (tgt := 11) B dX8_judgedNow_30 (by decide) ?_
        rw [nI_1]
        refine ih (j + 1) (by omega) ?_
        rw [← hf, jdF, if_neg (by rw [bI_0.mp c22]; decide)]
      · refine a_iload_n B dX8_judgedNow_25 rfl ?_
        refine a_ireturn B E dX8_judgedNow_26 ?_
        refine ⟨?_, hp⟩
        rw [← hf, jdF, if_pos (bI_n0.mp c22)]
  refine a_aload_n B dX8_judgedNow_0 rfl ?_
  refine a_aload_n B dX8_judgedNow_1 rfl ?_
  refine a_geti B fl_X8_judgedNow_89 (by first | rfl | assumption) rfl dX8_judgedNow_2 ?_
  refine a_callVi B k_X8_judgedNow_135 (c_X8_brokenBy hV hi) (by first | rfl | assumption) rfl rfl rfl (Nat.le_of_ble_eq_true rfl) dX8_judgedNow_5 (fun r5 mu5 h5 => ?_)
  obtain ⟨rfl, hp⟩ := h5
  have loop := loop mu5 hp
  refine a_istore_n B dX8_judgedNow_8 (by decide) ?_
  refine a_iconst (v := 0) B dX8_judgedNow_9 (by decide) ?_
  refine a_istore_n B dX8_judgedNow_10 (by decide) ?_
  exact loop 24 0 rfl rfl
abbrev rm_X8_judged : Room := { frames := 7, cells := 0, slots := 0, locals := 158 }
theorem k_X8_judged_141 : KV RX8 wsX8_judged rm_X8_judged 141 RX8 yX8_judgedNow wsX8_judgedNow rm_X8_judgedNow 0 := ⟨_, _, _, _, gX8_judged_X8_judgedNow, rfl, rfl, rfl, by decide +kernel, by decide⟩

set_option maxHeartbeats 4000000 in
set_option maxRecDepth 100000 in
theorem c_X8_judged {l : Launch} {V : ab_V} {mu : ab_mem}  (hV : ab_OK V ShM) (hi : IM mu)  : CT l V ShM yX8_judged wsX8_judged rm_X8_judged [.ref (aL V 0)] mu (pI (fun r mu2 => r = jdF (bkM mu (mu 0 6)) 0 24 ∧ pM mu2 = pM mu)) := by
  refine ab_enter hV (by decide) rfl (Nat.le_of_ble_eq_true rfl) ?_
  intro X B E
  have B : CX X l rm_X8_judged RX8 cX8_judged wsX8_judged 1 V ShM := B
  show AW X V ShM 1 0 [some (.ref (aL V 0))] [] mu
  refine a_aload_n B dX8_judged_0 rfl ?_
  refine a_callVi B k_X8_judged_141 (c_X8_judgedNow hV hi) (by first | rfl | assumption) rfl rfl rfl (Nat.le_of_ble_eq_true rfl) dX8_judged_1 (fun r1 mu1 h1 => ?_)
  refine a_ireturn B E dX8_judged_4 ?_
  exact h1
def rlF (x : Int32) (i : Nat) : Nat → Nat
  | 0 => 0
  | n + 1 => if bitB x (nI i) then 0 else rlF x (i + 1) n + 1
theorem rlF_le (x : Int32) : ∀ (n i : Nat), rlF x i n ≤ n := by
  intro n
  induction n with
  | zero => intro i; exact Nat.le_refl _
  | succ n ih =>
    intro i
    rw [rlF]
    split
    · omega
    · have := ih (i + 1); omega
def arM (x : Int32) : Nat → Int32 × Nat
  | 0 => (-1, 0)
  | j + 1 => if (arM x j).2 < rlF x j (24 - j) then (nI j, rlF x j (24 - j)) else arM x j
theorem arM_le (x : Int32) : ∀ j, (arM x j).2 ≤ 24 := by
  intro j
  induction j with
  | zero => exact Nat.zero_le _
  | succ j ih =>
    rw [arM]
    split
    · have := rlF_le x (24 - j) j; show rlF x j (24 - j) ≤ 24; omega
    · exact ih
abbrev rm_X8_armisticeOf : Room := { frames := 6, cells := 0, slots := 0, locals := 136 }
set_option maxRecDepth 20000 in
theorem us_X8_armisticeOf_8 : ∀ w ∈ u_ws RX8 TX8 23, w ∈ wsX8_armisticeOf := by decide +kernel
set_option maxRecDepth 20000 in
theorem fl_X8_armisticeOf_89 : FL RX8 wsX8_armisticeOf 89 8 6 := ⟨RX8, TX8, 23, rfl, by decide, us_X8_armisticeOf_8, by decide +kernel⟩
theorem k_X8_armisticeOf_135 : KV RX8 wsX8_armisticeOf rm_X8_armisticeOf 135 RX8 yX8_brokenBy wsX8_brokenBy rm_X8_brokenBy 1 := ⟨_, _, _, _, gX8_armisticeOf_X8_brokenBy, rfl, rfl, rfl, by decide +kernel, by decide⟩
theorem k_X8_armisticeOf_138 : KS RX8 wsX8_armisticeOf rm_X8_armisticeOf 138 yX8_isIn wsX8_isIn rm_X8_isIn 2 := ⟨_, _, _, _, gX8_armisticeOf_X8_isIn, rfl, rfl, rfl, by decide +kernel, by decide⟩

set_option maxHeartbeats 4000000 in
set_option maxRecDepth 100000 in
theorem c_X8_armisticeOf {l : Launch} {V : ab_V} {mu : ab_mem} {w : Int32} (hV : ab_OK V ShM) (hi : IM mu)  : CT l V ShM yX8_armisticeOf wsX8_armisticeOf rm_X8_armisticeOf [.ref (aL V 0), .int w] mu (pI (fun r mu2 => r = (if w = 0 then (arM (bkM mu (mu 0 6)) 24).1 else nI (arM (bkM mu (mu 0 6)) 24).2) ∧ pM mu2 = pM mu)) := by
  refine ab_enter hV (by decide) rfl (Nat.le_of_ble_eq_true rfl) ?_
  intro X B E
  have B : CX X l rm_X8_armisticeOf RX8 cX8_armisticeOf wsX8_armisticeOf 7 V ShM := B
  show AW X V ShM 7 0 [some (.ref (aL V 0)), some (.int w), none, none, none, none, none] [] mu
  generalize hx : bkM mu (mu 0 6) = x at E
  have loop : ∀ (mu1 : ab_mem), pM mu1 = pM mu → ∀ (m j : Nat), j + m = 24 → AW X V ShM 7 17 [some (.ref (aL V 0)), some (.int w), some (.int x), some (.int (arM x j).1), some (.int (nI (arM x j).2)), some (.int (nI j)), none] [] mu1 := by
    intro mu1 hp
    have fin : AW X V ShM 7 91 [some (.ref (aL V 0)), some (.int w), some (.int x), some (.int (arM x 24).1), some (.int (nI (arM x 24).2)), some (.int (nI 24)), none] [] mu1 := by
      refine a_iload_n B dX8_armisticeOf_91 rfl ?_
      refine a_if_ne (tgt := 99) B dX8_armisticeOf_92 (by decide) (fun c92 => ?_) (fun c92 => ?_)
      · refine a_iload B dX8_armisticeOf_99 rfl ?_
        refine a_ireturn B E dX8_armisticeOf_101 ?_
        refine ⟨?_, hp⟩
        first | rw [if_pos c92] | rw [if_neg c92]
      · refine a_iload_n B dX8_armisticeOf_95 rfl ?_
        refine a_goto (tgt := 101) B dX8_armisticeOf_96 (by decide) ?_
        refine a_ireturn B E dX8_armisticeOf_101 ?_
        refine ⟨?_, hp⟩
        first | rw [if_pos c92] | rw [if_neg c92]
    intro m
    induction m with
    | zero =>
      intro j hj
      have e : j = 24 := by omega
      subst e
      refine a_iload B dX8_armisticeOf_17 rfl ?_
      refine a_bipush (v := 24) B dX8_armisticeOf_19 (by decide) ?_
      refine a_icmp_ge_t (tgt := 91) B dX8_armisticeOf_21 (by decide) (by decide) ?_
      exact fin
    | succ m ih =>
      intro j hj
      have hle := arM_le x j
      have hre := rlF_le x (24 - j) j
      have lt_of_nle : ¬ nI (rlF x j (24 - j)) ≤ nI (arM x j).2 → (arM x j).2 < rlF x j (24 - j) := fun q => Nat.lt_of_not_le fun z => q (nI_le z (by omega))
      have nlt_of_le : nI (rlF x j (24 - j)) ≤ nI (arM x j).2 → ¬ (arM x j).2 < rlF x j (24 - j) := fun q z => absurd q (nI_ge z (by omega))
      have t55 : AW X V ShM 7 55 [some (.ref (aL V 0)), some (.int w), some (.int x), some (.int (arM x j).1), some (.int (nI (arM x j).2)), some (.int (nI j)), some (.int (nI (rlF x j (24 - j))))] [] mu1 := by
        refine a_iload B dX8_armisticeOf_55 rfl ?_
        refine a_iload B dX8_armisticeOf_57 rfl ?_
        refine a_icmp_le (tgt := 67) B dX8_armisticeOf_59 (by decide) (fun c59 => ?_) (fun c59 => ?_)
        · refine a_iload_n B dX8_armisticeOf_67 rfl ?_
          refine a_istore_n B dX8_armisticeOf_68 (by decide) ?_
          refine a_iload B dX8_armisticeOf_69 rfl ?_
          refine a_iload B dX8_armisticeOf_71 rfl ?_
          refine a_icmp_le (tgt := 81) B dX8_armisticeOf_73 (by decide) (fun c73 => ?_) (fun c73 => ?_)
          · refine a_iload B dX8_armisticeOf_81 rfl ?_
            refine a_istore B dX8_armisticeOf_83 (by decide) ?_
            refine a_iinc (v := 1) B dX8_armisticeOf_85 rfl (by decide) (by decide) ?_
            refine a_goto (tgt := 17) B dX8_armisticeOf_88 (by decide) ?_
            refine a_fg 6 ?_
            rw [nI_1]
            have e := ih (j + 1) (by omega)
            rw [arM] at e
            first
              | (rw [if_pos (lt_of_nle c59)] at e; exact e)
              | (rw [if_neg (nlt_of_le c59)] at e; exact e)
              | exact absurd c59 c73
              | exact absurd c73 c59
          · refine a_iload B dX8_armisticeOf_76 rfl ?_
            refine a_goto (tgt := 83) B dX8_armisticeOf_78 (by decide) ?_
            refine a_istore B dX8_armisticeOf_83 (by decide) ?_
            refine a_iinc (v := 1) B dX8_armisticeOf_85 rfl (by decide) (by decide) ?_
            refine a_goto (tgt := 17) B dX8_armisticeOf_88 (by decide) ?_
            refine a_fg 6 ?_
            rw [nI_1]
            have e := ih (j + 1) (by omega)
            rw [arM] at e
            first
              | (rw [if_pos (lt_of_nle c59)] at e; exact e)
              | (rw [if_neg (nlt_of_le c59)] at e; exact e)
              | exact absurd c59 c73
              | exact absurd c73 c59
        · refine a_iload B dX8_armisticeOf_62 rfl ?_
          refine a_goto (tgt := 68) B dX8_armisticeOf_64 (by decide) ?_
          refine a_istore_n B dX8_armisticeOf_68 (by decide) ?_
          refine a_iload B dX8_armisticeOf_69 rfl ?_
          refine a_iload B dX8_armisticeOf_71 rfl ?_
          refine a_icmp_le (tgt := 81) B dX8_armisticeOf_73 (by decide) (fun c73 => ?_) (fun c73 => ?_)
          · refine a_iload B dX8_armisticeOf_81 rfl ?_
            refine a_istore B dX8_armisticeOf_83 (by decide) ?_
            refine a_iinc (v := 1) B dX8_armisticeOf_85 rfl (by decide) (by decide) ?_
            refine a_goto (tgt := 17) B dX8_armisticeOf_88 (by decide) ?_
            refine a_fg 6 ?_
            rw [nI_1]
            have e := ih (j + 1) (by omega)
            rw [arM] at e
            first
              | (rw [if_pos (lt_of_nle c59)] at e; exact e)
              | (rw [if_neg (nlt_of_le c59)] at e; exact e)
              | exact absurd c59 c73
              | exact absurd c73 c59
          · refine a_iload B dX8_armisticeOf_76 rfl ?_
            refine a_goto (tgt := 83) B dX8_armisticeOf_78 (by decide) ?_
            refine a_istore B dX8_armisticeOf_83 (by decide) ?_
            refine a_iinc (v := 1) B dX8_armisticeOf_85 rfl (by decide) (by decide) ?_
            refine a_goto (tgt := 17) B dX8_armisticeOf_88 (by decide) ?_
            refine a_fg 6 ?_
            rw [nI_1]
            have e := ih (j + 1) (by omega)
            rw [arM] at e
            first
              | (rw [if_pos (lt_of_nle c59)] at e; exact e)
              | (rw [if_neg (nlt_of_le c59)] at e; exact e)
              | exact absurd c59 c73
              | exact absurd c73 c59
      have inn : ∀ (m2 k : Nat), j + k + m2 = 24 → k + rlF x (j + k) m2 = rlF x j (24 - j) → AW X V ShM 7 27 [some (.ref (aL V 0)), some (.int w), some (.int x), some (.int (arM x j).1), some (.int (nI (arM x j).2)), some (.int (nI j)), some (.int (nI k))] [] mu1 := by
        intro m2
        induction m2 with
        | zero =>
          intro k hk hf
          refine a_iload B dX8_armisticeOf_27 rfl ?_
          refine a_iload B dX8_armisticeOf_29 rfl ?_
          refine a_iadd B dX8_armisticeOf_31 ?_
          refine a_bipush (v := 24) B dX8_armisticeOf_32 (by decide) ?_
          refine a_icmp_ge_t (tgt := 55) B dX8_armisticeOf_34 (by decide) (by rw [nI_add]; exact nI_le (a := 24) (b := j + k) (by omega) (by omega)) ?_
          have e : k = rlF x j (24 - j) := by rw [← hf]; rfl
          rw [e]
          exact t55
        | succ m2 ih2 =>
          intro k hk hf
          refine a_iload B dX8_armisticeOf_27 rfl ?_
          refine a_iload B dX8_armisticeOf_29 rfl ?_
          refine a_iadd B dX8_armisticeOf_31 ?_
          refine a_bipush (v := 24) B dX8_armisticeOf_32 (by decide) ?_
          refine a_icmp_ge_f (tgt := 55) B dX8_armisticeOf_34 (by decide) (by rw [nI_add]; exact nI_ge (a := j + k) (b := 24) (by omega) (by decide)) ?_
          refine a_iload_n B dX8_armisticeOf_37 rfl ?_
          refine a_iload B dX8_armisticeOf_38 rfl ?_
          refine a_iload B dX8_armisticeOf_40 rfl ?_
          refine a_iadd B dX8_armisticeOf_42 ?_
          refine a_callSi B k_X8_armisticeOf_138 (c_X8_isIn hV) rfl rfl (Nat.le_of_ble_eq_true rfl) dX8_armisticeOf_43 (fun r43 mu43 h43 => ?_)
          obtain ⟨rfl, rfl⟩ := h43
          rw [nI_add]
          refine a_if_ne (tgt := 55) B dX8_armisticeOf_46 (by decide) (fun c46 => ?_) (fun c46 => ?_)
          · have e : k = rlF x j (24 - j) := by rw [← hf, rlF, if_pos (bI_n0.mp c46)]; rfl
            rw [e]
            exact t55
          · refine a_iinc (v := 1) B dX8_armisticeOf_49 rfl (by decide) (by decide) ?_
            refine a_goto (tgt := 27) B dX8_armisticeOf_52 (by decide) ?_
            rw [nI_1]
            refine ih2 (k + 1) (by omega) ?_
            rw [← hf, rlF, if_neg (by rw [bI_0.mp c46]; decide), show j + (k + 1) = j + k + 1 by omega]
            omega
      refine a_iload B dX8_armisticeOf_17 rfl ?_
      refine a_bipush (v := 24) B dX8_armisticeOf_19 (by decide) ?_
      refine a_icmp_ge_f (tgt := 91) B dX8_armisticeOf_21 (by decide) (nI_ge (a := j) (b := 24) (by omega) (by decide)) ?_
      refine a_iconst (v := 0) B dX8_armisticeOf_24 (by decide) ?_
      refine a_istore B dX8_armisticeOf_25 (by decide) ?_
      exact inn (24 - j) 0 (by omega) (by rw [Nat.zero_add, Nat.add_zero])
  refine a_aload_n B dX8_armisticeOf_0 rfl ?_
  refine a_aload_n B dX8_armisticeOf_1 rfl ?_
  refine a_geti B fl_X8_armisticeOf_89 (by first | rfl | assumption) rfl dX8_armisticeOf_2 ?_
  refine a_callVi B k_X8_armisticeOf_135 (c_X8_brokenBy hV hi) (by first | rfl | assumption) rfl rfl rfl (Nat.le_of_ble_eq_true rfl) dX8_armisticeOf_5 (fun r5 mu5 h5 => ?_)
  obtain ⟨rfl, hp⟩ := h5
  rw [hx]
  have loop := loop mu5 hp
  refine a_istore_n B dX8_armisticeOf_8 (by decide) ?_
  refine a_iconst (v := -1) B dX8_armisticeOf_9 (by decide) ?_
  refine a_istore_n B dX8_armisticeOf_10 (by decide) ?_
  refine a_iconst (v := 0) B dX8_armisticeOf_11 (by decide) ?_
  refine a_istore B dX8_armisticeOf_12 (by decide) ?_
  refine a_iconst (v := 0) B dX8_armisticeOf_14 (by decide) ?_
  refine a_istore B dX8_armisticeOf_15 (by decide) ?_
  exact loop 24 0 rfl
abbrev rm_X8_armistice : Room := { frames := 7, cells := 0, slots := 0, locals := 162 }
theorem k_X8_armistice_71 : KS RX8 wsX8_armistice rm_X8_armistice 71 yX8_in wsX8_in rm_X8_in 3 := ⟨_, _, _, _, gX8_armistice_X8_in, rfl, rfl, rfl, by decide +kernel, by decide⟩
theorem k_X8_armistice_145 : KV RX8 wsX8_armistice rm_X8_armistice 145 RX8 yX8_armisticeOf wsX8_armisticeOf rm_X8_armisticeOf 1 := ⟨_, _, _, _, gX8_armistice_X8_armisticeOf, rfl, rfl, rfl, by decide +kernel, by decide⟩

set_option maxHeartbeats 4000000 in
set_option maxRecDepth 100000 in
theorem c_X8_armistice {l : Launch} {V : ab_V} {mu : ab_mem} {w : Int32} (hV : ab_OK V ShM) (hi : IM mu) (hw : inB w 0 1 = true) : CT l V ShM yX8_armistice wsX8_armistice rm_X8_armistice [.ref (aL V 0), .int w] mu (pI (fun r mu2 => r = (if w = 0 then (arM (bkM mu (mu 0 6)) 24).1 else nI (arM (bkM mu (mu 0 6)) 24).2) ∧ pM mu2 = pM mu)) := by
  refine ab_enter hV (by decide) rfl (Nat.le_of_ble_eq_true rfl) ?_
  intro X B E
  have B : CX X l rm_X8_armistice RX8 cX8_armistice wsX8_armistice 2 V ShM := B
  show AW X V ShM 2 0 [some (.ref (aL V 0)), some (.int w)] [] mu
  refine a_iload_n B dX8_armistice_0 rfl ?_
  refine a_iconst (v := 0) B dX8_armistice_1 (by decide) ?_
  refine a_iconst (v := 1) B dX8_armistice_2 (by decide) ?_
  refine a_callSi B k_X8_armistice_71 (c_X8_in hV) rfl rfl (Nat.le_of_ble_eq_true rfl) dX8_armistice_3 (fun r3 mu3 h3 => ?_)
  obtain ⟨rfl, rfl⟩ := h3
  refine a_if_eq_f (tgt := 17) B dX8_armistice_6 (by decide) (bI_n0.mpr hw) ?_
  refine a_aload_n B dX8_armistice_9 rfl ?_
  refine a_iload_n B dX8_armistice_10 rfl ?_
  refine a_callVi B k_X8_armistice_145 (c_X8_armisticeOf hV hi) (by first | rfl | assumption) rfl rfl rfl (Nat.le_of_ble_eq_true rfl) dX8_armistice_11 (fun r11 mu11 h11 => ?_)
  refine a_goto (tgt := 19) B dX8_armistice_14 (by decide) ?_
  refine a_ireturn B E dX8_armistice_19 ?_
  exact h11
set_option maxHeartbeats 4000000 in
set_option maxRecDepth 100000 in
theorem c_X8_armistice_bad {l : Launch} {V : ab_V} {mu : ab_mem} {w : Int32} (hV : ab_OK V ShM) (hbad : ¬ inB w 0 1 = true) : CT l V ShM yX8_armistice wsX8_armistice rm_X8_armistice [.ref (aL V 0), .int w] mu (pI (fun r mu2 => r = -2 ∧ mu = mu2)) := by
  refine ab_enter hV (by decide) rfl (Nat.le_of_ble_eq_true rfl) ?_
  intro X B E
  have B : CX X l rm_X8_armistice RX8 cX8_armistice wsX8_armistice 2 V ShM := B
  show AW X V ShM 2 0 [some (.ref (aL V 0)), some (.int w)] [] mu
  refine a_iload_n B dX8_armistice_0 rfl ?_
  refine a_iconst (v := 0) B dX8_armistice_1 (by decide) ?_
  refine a_iconst (v := 1) B dX8_armistice_2 (by decide) ?_
  refine a_callSi B k_X8_armistice_71 (c_X8_in hV) rfl rfl (Nat.le_of_ble_eq_true rfl) dX8_armistice_3 (fun r3 mu3 h3 => ?_)
  obtain ⟨rfl, rfl⟩ := h3
  refine a_if_eq (tgt := 17) B dX8_armistice_6 (by decide) (fun c6 => ?_) (fun c6 => ?_)
  · refine a_bipush (v := -2) B dX8_armistice_17 (by decide) ?_
    refine a_ireturn B E dX8_armistice_19 ?_
    exact ⟨rfl, rfl⟩
  · exfalso
    simp_all [bI_0, bI_n0]
def ldF (mk : Int32) (l : Nat → Int32) : Nat → Int32
  | 0 => if mk ≤ l 0 then -1 else 0
  | h + 1 => if mk ≤ l (h + 1) then ldF mk l h else nI (h + 1)
abbrev rm_X8_ledOf : Room := { frames := 5, cells := 0, slots := 0, locals := 112 }
set_option maxRecDepth 20000 in
theorem us_X8_ledOf_8 : ∀ w ∈ u_ws RX8 TX8 23, w ∈ wsX8_ledOf := by decide +kernel
set_option maxRecDepth 20000 in
theorem fl_X8_ledOf_16 : FL RX8 wsX8_ledOf 16 8 2 := ⟨RX8, TX8, 23, rfl, by decide, us_X8_ledOf_8, by decide +kernel⟩
set_option maxRecDepth 20000 in
theorem fl_X8_ledOf_28 : FL RX8 wsX8_ledOf 28 8 9 := ⟨RX8, TX8, 23, rfl, by decide, us_X8_ledOf_8, by decide +kernel⟩
set_option maxRecDepth 20000 in
theorem fl_X8_ledOf_31 : FL RX8 wsX8_ledOf 31 8 10 := ⟨RX8, TX8, 23, rfl, by decide, us_X8_ledOf_8, by decide +kernel⟩
set_option maxRecDepth 20000 in
theorem fl_X8_ledOf_65 : FL RX8 wsX8_ledOf 65 8 5 := ⟨RX8, TX8, 23, rfl, by decide, us_X8_ledOf_8, by decide +kernel⟩
theorem k_X8_ledOf_119 : KV RX8 wsX8_ledOf rm_X8_ledOf 119 RX8 yX8_laysAll wsX8_laysAll rm_X8_laysAll 0 := ⟨_, _, _, _, gX8_ledOf_X8_laysAll, rfl, rfl, rfl, by decide +kernel, by decide⟩
theorem k_X8_ledOf_138 : KS RX8 wsX8_ledOf rm_X8_ledOf 138 yX8_isIn wsX8_isIn rm_X8_isIn 2 := ⟨_, _, _, _, gX8_ledOf_X8_isIn, rfl, rfl, rfl, by decide +kernel, by decide⟩

set_option maxHeartbeats 4000000 in
set_option maxRecDepth 100000 in
theorem c_X8_ledOf {l : Launch} {V : ab_V} {mu : ab_mem} {g hr : Nat} (hV : ab_OK V ShM) (hi : IM mu) (hg : g < 3) (hh : hr < 24) : CT l V ShM yX8_ledOf wsX8_ledOf rm_X8_ledOf [.ref (aL V 0), .int (nI g), .int (nI hr)] mu (pI (fun r mu2 => r = (if bitB (bM mu g 0 99 24) (nI hr) then ldF (mu 0 5) (lM mu g 0 99) hr else -3) ∧ pM mu2 = pM mu)) := by
  refine ab_enter hV (by decide) rfl (Nat.le_of_ble_eq_true rfl) ?_
  intro X B E
  have B : CX X l rm_X8_ledOf RX8 cX8_ledOf wsX8_ledOf 4 V ShM := B
  show AW X V ShM 4 0 [some (.ref (aL V 0)), some (.int (nI g)), some (.int (nI hr)), none] [] mu
  refine a_aload_n B dX8_ledOf_0 rfl ?_
  refine a_callVv B k_X8_ledOf_119 (c_X8_laysAll hV hi) (by first | rfl | assumption) rfl rfl rfl (Nat.le_of_ble_eq_true rfl) dX8_ledOf_1 (fun mu1 h1 => ?_)
  refine a_aload_n B dX8_ledOf_4 rfl ?_
  refine a_getr B fl_X8_ledOf_31 (by first | rfl | assumption) rfl dX8_ledOf_5 ?_
  refine a_iload_n B dX8_ledOf_8 rfl ?_
  refine a_ialdN B (g) (by first | rfl | assumption) rfl (by omega) (by decide) dX8_ledOf_9 ?_
  refine a_iload_n B dX8_ledOf_10 rfl ?_
  refine a_callSi B k_X8_ledOf_138 (c_X8_isIn hV) rfl rfl (Nat.le_of_ble_eq_true rfl) dX8_ledOf_11 (fun r11 mu11 h11 => ?_)
  obtain ⟨rfl, rfl⟩ := h11
  rw [(h1.2 g hg).2.2]
  refine a_if_ne (tgt := 20) B dX8_ledOf_14 (by decide) (fun c14 => ?_) (fun c14 => ?_)
  · refine a_iload_n B dX8_ledOf_20 rfl ?_
    refine a_istore_n B dX8_ledOf_21 (by decide) ?_
    rw [if_pos (bI_n0.mp c14)] at E
    have loop : ∀ (h : Nat), h ≤ hr → ldF (mu 0 5) (lM mu g 0 99) h = ldF (mu 0 5) (lM mu g 0 99) hr → AW X V ShM 4 22 [some (.ref (aL V 0)), some (.int (nI g)), some (.int (nI hr)), some (.int (nI h))] [] mu1 := by
      intro h
      induction h with
      | zero =>
        intro hh hf
        refine a_iload_n B dX8_ledOf_22 rfl ?_
        refine a_if_le_t (tgt := 52) B dX8_ledOf_23 (by decide) (by decide) ?_
        refine a_iload_n B dX8_ledOf_52 rfl ?_
        refine a_if_ne_f (tgt := 73) B dX8_ledOf_53 (by decide) (rfl) ?_
        refine a_aload_n B dX8_ledOf_56 rfl ?_
        refine a_getr B fl_X8_ledOf_16 (by first | rfl | assumption) rfl dX8_ledOf_57 ?_
        refine a_iload_n B dX8_ledOf_60 rfl ?_
        refine a_ialdN B (g) (by first | rfl | assumption) rfl (by omega) (by decide) dX8_ledOf_61 ?_
        refine a_aload_n B dX8_ledOf_62 rfl ?_
        refine a_geti B fl_X8_ledOf_65 (by first | rfl | assumption) rfl dX8_ledOf_63 ?_
        refine a_icmp_lt (tgt := 73) B dX8_ledOf_66 (by decide) (fun c66 => ?_) (fun c66 => ?_)
        · refine a_iload_n B dX8_ledOf_73 rfl ?_
          refine a_ireturn B E dX8_ledOf_74 ?_
          refine ⟨?_, h1.1⟩
          rw [← hf, ldF]
          rw [pM_at h1.1 0 rfl, pM_at h1.1 3 rfl] at c66
          show _ = if mu 0 5 ≤ mu 3 g then (-1 : Int32) else 0
          first | (rw [if_neg (Int32.not_le.mpr c66)]; done) | (rw [if_neg (Int32.not_le.mpr c66)]; rfl) | (rw [if_pos (Int32.not_lt.mp c66)])
        · refine a_iconst (v := -1) B dX8_ledOf_69 (by decide) ?_
          refine a_goto (tgt := 74) B dX8_ledOf_70 (by decide) ?_
          refine a_ireturn B E dX8_ledOf_74 ?_
          refine ⟨?_, h1.1⟩
          rw [← hf, ldF]
          rw [pM_at h1.1 0 rfl, pM_at h1.1 3 rfl] at c66
          show _ = if mu 0 5 ≤ mu 3 g then (-1 : Int32) else 0
          first | (rw [if_neg (Int32.not_le.mpr c66)]; done) | (rw [if_neg (Int32.not_le.mpr c66)]; rfl) | (rw [if_pos (Int32.not_lt.mp c66)])
      | succ h ih =>
        intro hh hf
        refine a_iload_n B dX8_ledOf_22 rfl ?_
        refine a_if_le_f (tgt := 52) B dX8_ledOf_23 (by decide) (nI_nle (n := h + 1) (by omega) (by omega)) ?_
        refine a_aload_n B dX8_ledOf_26 rfl ?_
        refine a_getr B fl_X8_ledOf_28 (by first | rfl | assumption) rfl dX8_ledOf_27 ?_
        refine a_bipush (v := 24) B dX8_ledOf_30 (by decide) ?_
        refine a_iload_n B dX8_ledOf_32 rfl ?_
        refine a_imul B dX8_ledOf_33 ?_
        refine a_iload_n B dX8_ledOf_34 rfl ?_
        refine a_iadd B dX8_ledOf_35 ?_
        refine a_iconst (v := 1) B dX8_ledOf_36 (by decide) ?_
        refine a_isub B dX8_ledOf_37 ?_
        rw [ix24, show nI (24 * g + (h + 1)) - 1 = nI (24 * g + h) from nI_pred _]
        refine a_ialdN B (24 * g + h) (by first | rfl | assumption) rfl (by omega) (by decide) dX8_ledOf_38 ?_
        refine a_aload_n B dX8_ledOf_39 rfl ?_
        refine a_geti B fl_X8_ledOf_65 (by first | rfl | assumption) rfl dX8_ledOf_40 ?_
        refine a_icmp_lt (tgt := 52) B dX8_ledOf_43 (by decide) (fun c43 => ?_) (fun c43 => ?_)
        · refine a_iload_n B dX8_ledOf_52 rfl ?_
          refine a_if_ne_t (tgt := 73) B dX8_ledOf_53 (by decide) (nI_ne0 (n := h + 1) (by omega) (by omega)) ?_
          refine a_iload_n B dX8_ledOf_73 rfl ?_
          refine a_ireturn B E dX8_ledOf_74 ?_
          refine ⟨?_, h1.1⟩
          rw [(h1.2 g hg).2.1 h (by omega), pM_at h1.1 0 rfl] at c43
          rw [← hf, ldF, if_neg (Int32.not_le.mpr c43)]
        · refine a_iinc (v := -1) B dX8_ledOf_46 rfl (by decide) (by decide) ?_
          refine a_goto (tgt := 22) B dX8_ledOf_49 (by decide) ?_
          rw [show nI (h + 1) + -1 = nI h from pk_m1 h]
          refine ih (by omega) ?_
          rw [(h1.2 g hg).2.1 h (by omega), pM_at h1.1 0 rfl] at c43
          rw [← hf, ldF, if_pos (Int32.not_lt.mp c43)]
    exact loop hr (Nat.le_refl _) rfl
  · refine a_bipush (v := -3) B dX8_ledOf_17 (by decide) ?_
    refine a_ireturn B E dX8_ledOf_19 ?_
    rw [if_neg (by rw [bI_0.mp c14]; decide)]
    exact ⟨rfl, h1.1⟩
abbrev rm_X8_led : Room := { frames := 6, cells := 0, slots := 0, locals := 135 }
theorem k_X8_led_75 : KS RX8 wsX8_led rm_X8_led 75 yX8_isGeneral wsX8_isGeneral rm_X8_isGeneral 1 := ⟨_, _, _, _, gX8_led_X8_isGeneral, rfl, rfl, rfl, by decide +kernel, by decide⟩
theorem k_X8_led_122 : KS RX8 wsX8_led rm_X8_led 122 yX8_isHour wsX8_isHour rm_X8_isHour 1 := ⟨_, _, _, _, gX8_led_X8_isHour, rfl, rfl, rfl, by decide +kernel, by decide⟩
theorem k_X8_led_148 : KV RX8 wsX8_led rm_X8_led 148 RX8 yX8_ledOf wsX8_ledOf rm_X8_ledOf 2 := ⟨_, _, _, _, gX8_led_X8_ledOf, rfl, rfl, rfl, by decide +kernel, by decide⟩

set_option maxHeartbeats 4000000 in
set_option maxRecDepth 100000 in
theorem c_X8_led {l : Launch} {V : ab_V} {mu : ab_mem} {g h : Nat} (hV : ab_OK V ShM) (hi : IM mu) (hg : g < 3) (hh : h < 24) : CT l V ShM yX8_led wsX8_led rm_X8_led [.ref (aL V 0), .int (nI g), .int (nI h)] mu (pI (fun r mu2 => r = (if bitB (bM mu g 0 99 24) (nI h) then ldF (mu 0 5) (lM mu g 0 99) h else -3) ∧ pM mu2 = pM mu)) := by
  refine ab_enter hV (by decide) rfl (Nat.le_of_ble_eq_true rfl) ?_
  intro X B E
  have B : CX X l rm_X8_led RX8 cX8_led wsX8_led 3 V ShM := B
  show AW X V ShM 3 0 [some (.ref (aL V 0)), some (.int (nI g)), some (.int (nI h))] [] mu
  refine a_iload_n B dX8_led_0 rfl ?_
  refine a_callSi B k_X8_led_75 (c_X8_isGeneral hV) rfl rfl (Nat.le_of_ble_eq_true rfl) dX8_led_1 (fun r1 mu1 h1 => ?_)
  obtain ⟨rfl, rfl⟩ := h1
  refine a_if_eq_f (tgt := 23) B dX8_led_4 (by decide) (bI_n0.mpr (inB_nI (n := 2) (by omega) (by decide))) ?_
  refine a_iload_n B dX8_led_7 rfl ?_
  refine a_callSi B k_X8_led_122 (c_X8_isHour hV) rfl rfl (Nat.le_of_ble_eq_true rfl) dX8_led_8 (fun r8 mu8 h8 => ?_)
  obtain ⟨rfl, rfl⟩ := h8
  refine a_if_eq_f (tgt := 23) B dX8_led_11 (by decide) (bI_n0.mpr (inB_nI (n := 23) (by omega) (by decide))) ?_
  refine a_aload_n B dX8_led_14 rfl ?_
  refine a_iload_n B dX8_led_15 rfl ?_
  refine a_iload_n B dX8_led_16 rfl ?_
  refine a_callVi B k_X8_led_148 (c_X8_ledOf hV hi hg hh) (by first | rfl | assumption) rfl rfl rfl (Nat.le_of_ble_eq_true rfl) dX8_led_17 (fun r17 mu17 h17 => ?_)
  refine a_goto (tgt := 25) B dX8_led_20 (by decide) ?_
  refine a_ireturn B E dX8_led_25 ?_
  exact h17
set_option maxHeartbeats 4000000 in
set_option maxRecDepth 100000 in
theorem c_X8_led_bad {l : Launch} {V : ab_V} {mu : ab_mem} {a b : Int32} (hV : ab_OK V ShM) (hbad : ¬ (inB a 0 2 = true ∧ inB b 0 23 = true)) : CT l V ShM yX8_led wsX8_led rm_X8_led [.ref (aL V 0), .int a, .int b] mu (pI (fun r mu2 => r = -2 ∧ mu = mu2)) := by
  refine ab_enter hV (by decide) rfl (Nat.le_of_ble_eq_true rfl) ?_
  intro X B E
  have B : CX X l rm_X8_led RX8 cX8_led wsX8_led 3 V ShM := B
  show AW X V ShM 3 0 [some (.ref (aL V 0)), some (.int a), some (.int b)] [] mu
  refine a_iload_n B dX8_led_0 rfl ?_
  refine a_callSi B k_X8_led_75 (c_X8_isGeneral hV) rfl rfl (Nat.le_of_ble_eq_true rfl) dX8_led_1 (fun r1 mu1 h1 => ?_)
  obtain ⟨rfl, rfl⟩ := h1
  refine a_if_eq (tgt := 23) B dX8_led_4 (by decide) (fun c4 => ?_) (fun c4 => ?_)
  · refine a_bipush (v := -2) B dX8_led_23 (by decide) ?_
    refine a_ireturn B E dX8_led_25 ?_
    exact ⟨rfl, rfl⟩
  · refine a_iload_n B dX8_led_7 rfl ?_
    refine a_callSi B k_X8_led_122 (c_X8_isHour hV) rfl rfl (Nat.le_of_ble_eq_true rfl) dX8_led_8 (fun r8 mu8 h8 => ?_)
    obtain ⟨rfl, rfl⟩ := h8
    refine a_if_eq (tgt := 23) B dX8_led_11 (by decide) (fun c11 => ?_) (fun c11 => ?_)
    · refine a_bipush (v := -2) B dX8_led_23 (by decide) ?_
      refine a_ireturn B E dX8_led_25 ?_
      exact ⟨rfl, rfl⟩
    · exfalso
      simp_all [bI_0, bI_n0]
