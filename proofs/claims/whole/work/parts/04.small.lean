abbrev rm_X8_in : Room := { frames := 0, cells := 0, slots := 0, locals := 0 }

set_option maxHeartbeats 4000000 in
set_option maxRecDepth 100000 in
theorem c_X8_in {l : Launch} {V : ab_V} {mu : ab_mem} {a b c : Int32} (hV : ab_OK V ShM)  : CT l V ShM yX8_in wsX8_in rm_X8_in [.int a, .int b, .int c] mu (pI (fun r mu2 => r = bI (inB a b c) ∧ mu = mu2)) := by
  refine ab_enter hV (by decide) rfl (Nat.le_of_ble_eq_true rfl) ?_
  intro X B E
  have B : CX X l rm_X8_in RX8 cX8_in wsX8_in 3 V ShM := B
  show AW X V ShM 3 0 [some (.int a), some (.int b), some (.int c)] [] mu
  refine a_iload_n B dX8_in_0 rfl ?_
  refine a_iload_n B dX8_in_1 rfl ?_
  refine a_icmp_lt (tgt := 14) B dX8_in_2 (by decide) (fun c2 => ?_) (fun c2 => ?_)
  · refine a_iconst (v := 0) B dX8_in_14 (by decide) ?_
    refine a_zreturn B E dX8_in_15 (by first | rfl | exact nar_bI _) ?_
    exact ⟨by first | (simp [bI, inB, Int32.not_le.mpr c2]; done) | simp_all [bI, inB, bitB, Int32.not_lt, Int32.not_le], rfl⟩
  · refine a_iload_n B dX8_in_5 rfl ?_
    refine a_iload_n B dX8_in_6 rfl ?_
    refine a_icmp_gt (tgt := 14) B dX8_in_7 (by decide) (fun c7 => ?_) (fun c7 => ?_)
    · refine a_iconst (v := 0) B dX8_in_14 (by decide) ?_
      refine a_zreturn B E dX8_in_15 (by first | rfl | exact nar_bI _) ?_
      exact ⟨by first | (simp [bI, inB, Int32.not_le.mpr c2]; done) | simp_all [bI, inB, bitB, Int32.not_lt, Int32.not_le], rfl⟩
    · refine a_iconst (v := 1) B dX8_in_10 (by decide) ?_
      refine a_goto (tgt := 15) B dX8_in_11 (by decide) ?_
      refine a_zreturn B E dX8_in_15 (by first | rfl | exact nar_bI _) ?_
      exact ⟨by first | (simp [bI, inB, Int32.not_le.mpr c2]; done) | simp_all [bI, inB, bitB, Int32.not_lt, Int32.not_le], rfl⟩
abbrev rm_X7_within : Room := { frames := 0, cells := 0, slots := 0, locals := 0 }

set_option maxHeartbeats 4000000 in
set_option maxRecDepth 100000 in
theorem c_X7_within {l : Launch} {V : ab_V} {mu : ab_mem} {a b c : Int32} (hV : OKX V)  : CT l V ShX yX7_within wsX7_within rm_X7_within [.int a, .int b, .int c] mu (pI (fun r mu2 => r = bI (inB a b c) ∧ mu = mu2)) := by
  refine ab_enter hV.1 (by decide) rfl (Nat.le_of_ble_eq_true rfl) ?_
  intro X B E
  have B : CX X l rm_X7_within RX7 cX7_within wsX7_within 3 V ShX := B
  show AW X V ShX 3 0 [some (.int a), some (.int b), some (.int c)] [] mu
  refine a_iload_n B dX7_within_0 rfl ?_
  refine a_iload_n B dX7_within_1 rfl ?_
  refine a_icmp_lt (tgt := 14) B dX7_within_2 (by decide) (fun c2 => ?_) (fun c2 => ?_)
  · refine a_iconst (v := 0) B dX7_within_14 (by decide) ?_
    refine a_zreturn B E dX7_within_15 (by first | rfl | exact nar_bI _) ?_
    exact ⟨by first | (simp [bI, inB, Int32.not_le.mpr c2]; done) | simp_all [bI, inB, bitB, Int32.not_lt, Int32.not_le], rfl⟩
  · refine a_iload_n B dX7_within_5 rfl ?_
    refine a_iload_n B dX7_within_6 rfl ?_
    refine a_icmp_gt (tgt := 14) B dX7_within_7 (by decide) (fun c7 => ?_) (fun c7 => ?_)
    · refine a_iconst (v := 0) B dX7_within_14 (by decide) ?_
      refine a_zreturn B E dX7_within_15 (by first | rfl | exact nar_bI _) ?_
      exact ⟨by first | (simp [bI, inB, Int32.not_le.mpr c2]; done) | simp_all [bI, inB, bitB, Int32.not_lt, Int32.not_le], rfl⟩
    · refine a_iconst (v := 1) B dX7_within_10 (by decide) ?_
      refine a_goto (tgt := 15) B dX7_within_11 (by decide) ?_
      refine a_zreturn B E dX7_within_15 (by first | rfl | exact nar_bI _) ?_
      exact ⟨by first | (simp [bI, inB, Int32.not_le.mpr c2]; done) | simp_all [bI, inB, bitB, Int32.not_lt, Int32.not_le], rfl⟩
abbrev rm_X8_isIn : Room := { frames := 0, cells := 0, slots := 0, locals := 0 }

set_option maxHeartbeats 4000000 in
set_option maxRecDepth 100000 in
theorem c_X8_isIn {l : Launch} {V : ab_V} {mu : ab_mem} {a b : Int32} (hV : ab_OK V ShM)  : CT l V ShM yX8_isIn wsX8_isIn rm_X8_isIn [.int a, .int b] mu (pI (fun r mu2 => r = bI (bitB a b) ∧ mu = mu2)) := by
  refine ab_enter hV (by decide) rfl (Nat.le_of_ble_eq_true rfl) ?_
  intro X B E
  have B : CX X l rm_X8_isIn RX8 cX8_isIn wsX8_isIn 2 V ShM := B
  show AW X V ShM 2 0 [some (.int a), some (.int b)] [] mu
  refine a_iload_n B dX8_isIn_0 rfl ?_
  refine a_iload_n B dX8_isIn_1 rfl ?_
  refine a_ishr B dX8_isIn_2 ?_
  refine a_iconst (v := 1) B dX8_isIn_3 (by decide) ?_
  refine a_iand B dX8_isIn_4 ?_
  refine a_iconst (v := 1) B dX8_isIn_5 (by decide) ?_
  refine a_icmp_ne (tgt := 13) B dX8_isIn_6 (by decide) (fun c6 => ?_) (fun c6 => ?_)
  · refine a_iconst (v := 0) B dX8_isIn_13 (by decide) ?_
    refine a_zreturn B E dX8_isIn_14 (by first | rfl | exact nar_bI _) ?_
    exact ⟨by first | (simp [bI, inB, Int32.not_le.mpr c2]; done) | simp_all [bI, inB, bitB, Int32.not_lt, Int32.not_le], rfl⟩
  · refine a_iconst (v := 1) B dX8_isIn_9 (by decide) ?_
    refine a_goto (tgt := 14) B dX8_isIn_10 (by decide) ?_
    refine a_zreturn B E dX8_isIn_14 (by first | rfl | exact nar_bI _) ?_
    exact ⟨by first | (simp [bI, inB, Int32.not_le.mpr c2]; done) | simp_all [bI, inB, bitB, Int32.not_lt, Int32.not_le], rfl⟩
abbrev rm_X7_hasHour : Room := { frames := 0, cells := 0, slots := 0, locals := 0 }

set_option maxHeartbeats 4000000 in
set_option maxRecDepth 100000 in
theorem c_X7_hasHour {l : Launch} {V : ab_V} {mu : ab_mem} {a b : Int32} (hV : OKX V)  : CT l V ShX yX7_hasHour wsX7_hasHour rm_X7_hasHour [.int a, .int b] mu (pI (fun r mu2 => r = bI (bitB a b) ∧ mu = mu2)) := by
  refine ab_enter hV.1 (by decide) rfl (Nat.le_of_ble_eq_true rfl) ?_
  intro X B E
  have B : CX X l rm_X7_hasHour RX7 cX7_hasHour wsX7_hasHour 2 V ShX := B
  show AW X V ShX 2 0 [some (.int a), some (.int b)] [] mu
  refine a_iload_n B dX7_hasHour_0 rfl ?_
  refine a_iload_n B dX7_hasHour_1 rfl ?_
  refine a_ishr B dX7_hasHour_2 ?_
  refine a_iconst (v := 1) B dX7_hasHour_3 (by decide) ?_
  refine a_iand B dX7_hasHour_4 ?_
  refine a_iconst (v := 1) B dX7_hasHour_5 (by decide) ?_
  refine a_icmp_ne (tgt := 13) B dX7_hasHour_6 (by decide) (fun c6 => ?_) (fun c6 => ?_)
  · refine a_iconst (v := 0) B dX7_hasHour_13 (by decide) ?_
    refine a_zreturn B E dX7_hasHour_14 (by first | rfl | exact nar_bI _) ?_
    exact ⟨by first | (simp [bI, inB, Int32.not_le.mpr c2]; done) | simp_all [bI, inB, bitB, Int32.not_lt, Int32.not_le], rfl⟩
  · refine a_iconst (v := 1) B dX7_hasHour_9 (by decide) ?_
    refine a_goto (tgt := 14) B dX7_hasHour_10 (by decide) ?_
    refine a_zreturn B E dX7_hasHour_14 (by first | rfl | exact nar_bI _) ?_
    exact ⟨by first | (simp [bI, inB, Int32.not_le.mpr c2]; done) | simp_all [bI, inB, bitB, Int32.not_lt, Int32.not_le], rfl⟩
abbrev rm_X8_isGeneral : Room := { frames := 1, cells := 0, slots := 0, locals := 22 }
theorem k_X8_isGeneral_71 : KS RX8 wsX8_isGeneral rm_X8_isGeneral 71 yX8_in wsX8_in rm_X8_in 3 := ⟨_, _, _, _, gX8_isGeneral_X8_in, rfl, rfl, rfl, by decide +kernel, by decide⟩

set_option maxHeartbeats 4000000 in
set_option maxRecDepth 100000 in
theorem c_X8_isGeneral {l : Launch} {V : ab_V} {mu : ab_mem} {a : Int32} (hV : ab_OK V ShM)  : CT l V ShM yX8_isGeneral wsX8_isGeneral rm_X8_isGeneral [.int a] mu (pI (fun r mu2 => r = bI (inB a 0 2) ∧ mu = mu2)) := by
  refine ab_enter hV (by decide) rfl (Nat.le_of_ble_eq_true rfl) ?_
  intro X B E
  have B : CX X l rm_X8_isGeneral RX8 cX8_isGeneral wsX8_isGeneral 1 V ShM := B
  show AW X V ShM 1 0 [some (.int a)] [] mu
  refine a_iload_n B dX8_isGeneral_0 rfl ?_
  refine a_iconst (v := 0) B dX8_isGeneral_1 (by decide) ?_
  refine a_iconst (v := 2) B dX8_isGeneral_2 (by decide) ?_
  refine a_callSi B k_X8_isGeneral_71 (c_X8_in hV) rfl rfl (Nat.le_of_ble_eq_true rfl) dX8_isGeneral_3 (fun r3 mu3 h3 => ?_)
  obtain ⟨rfl, rfl⟩ := h3
  refine a_zreturn B E dX8_isGeneral_6 (by first | rfl | exact nar_bI _) ?_
  exact ⟨rfl, rfl⟩
abbrev rm_X8_isHour : Room := { frames := 1, cells := 0, slots := 0, locals := 22 }
theorem k_X8_isHour_71 : KS RX8 wsX8_isHour rm_X8_isHour 71 yX8_in wsX8_in rm_X8_in 3 := ⟨_, _, _, _, gX8_isHour_X8_in, rfl, rfl, rfl, by decide +kernel, by decide⟩

set_option maxHeartbeats 4000000 in
set_option maxRecDepth 100000 in
theorem c_X8_isHour {l : Launch} {V : ab_V} {mu : ab_mem} {a : Int32} (hV : ab_OK V ShM)  : CT l V ShM yX8_isHour wsX8_isHour rm_X8_isHour [.int a] mu (pI (fun r mu2 => r = bI (inB a 0 23) ∧ mu = mu2)) := by
  refine ab_enter hV (by decide) rfl (Nat.le_of_ble_eq_true rfl) ?_
  intro X B E
  have B : CX X l rm_X8_isHour RX8 cX8_isHour wsX8_isHour 1 V ShM := B
  show AW X V ShM 1 0 [some (.int a)] [] mu
  refine a_iload_n B dX8_isHour_0 rfl ?_
  refine a_iconst (v := 0) B dX8_isHour_1 (by decide) ?_
  refine a_bipush (v := 23) B dX8_isHour_2 (by decide) ?_
  refine a_callSi B k_X8_isHour_71 (c_X8_in hV) rfl rfl (Nat.le_of_ble_eq_true rfl) dX8_isHour_4 (fun r4 mu4 h4 => ?_)
  obtain ⟨rfl, rfl⟩ := h4
  refine a_zreturn B E dX8_isHour_7 (by first | rfl | exact nar_bI _) ?_
  exact ⟨rfl, rfl⟩
abbrev rm_X8_isDish : Room := { frames := 1, cells := 0, slots := 0, locals := 22 }
theorem k_X8_isDish_71 : KS RX8 wsX8_isDish rm_X8_isDish 71 yX8_in wsX8_in rm_X8_in 3 := ⟨_, _, _, _, gX8_isDish_X8_in, rfl, rfl, rfl, by decide +kernel, by decide⟩

set_option maxHeartbeats 4000000 in
set_option maxRecDepth 100000 in
theorem c_X8_isDish {l : Launch} {V : ab_V} {mu : ab_mem} {a : Int32} (hV : ab_OK V ShM)  : CT l V ShM yX8_isDish wsX8_isDish rm_X8_isDish [.int a] mu (pI (fun r mu2 => r = bI (inB a 0 6) ∧ mu = mu2)) := by
  refine ab_enter hV (by decide) rfl (Nat.le_of_ble_eq_true rfl) ?_
  intro X B E
  have B : CX X l rm_X8_isDish RX8 cX8_isDish wsX8_isDish 1 V ShM := B
  show AW X V ShM 1 0 [some (.int a)] [] mu
  refine a_iload_n B dX8_isDish_0 rfl ?_
  refine a_iconst (v := 0) B dX8_isDish_1 (by decide) ?_
  refine a_bipush (v := 6) B dX8_isDish_2 (by decide) ?_
  refine a_callSi B k_X8_isDish_71 (c_X8_in hV) rfl rfl (Nat.le_of_ble_eq_true rfl) dX8_isDish_4 (fun r4 mu4 h4 => ?_)
  obtain ⟨rfl, rfl⟩ := h4
  refine a_zreturn B E dX8_isDish_7 (by first | rfl | exact nar_bI _) ?_
  exact ⟨rfl, rfl⟩
abbrev rm_X8_isSheet : Room := { frames := 1, cells := 0, slots := 0, locals := 22 }
theorem k_X8_isSheet_71 : KS RX8 wsX8_isSheet rm_X8_isSheet 71 yX8_in wsX8_in rm_X8_in 3 := ⟨_, _, _, _, gX8_isSheet_X8_in, rfl, rfl, rfl, by decide +kernel, by decide⟩

set_option maxHeartbeats 4000000 in
set_option maxRecDepth 100000 in
theorem c_X8_isSheet {l : Launch} {V : ab_V} {mu : ab_mem} {a : Int32} (hV : ab_OK V ShM)  : CT l V ShM yX8_isSheet wsX8_isSheet rm_X8_isSheet [.int a] mu (pI (fun r mu2 => r = bI (inB a 0 3) ∧ mu = mu2)) := by
  refine ab_enter hV (by decide) rfl (Nat.le_of_ble_eq_true rfl) ?_
  intro X B E
  have B : CX X l rm_X8_isSheet RX8 cX8_isSheet wsX8_isSheet 1 V ShM := B
  show AW X V ShM 1 0 [some (.int a)] [] mu
  refine a_iload_n B dX8_isSheet_0 rfl ?_
  refine a_iconst (v := 0) B dX8_isSheet_1 (by decide) ?_
  refine a_iconst (v := 3) B dX8_isSheet_2 (by decide) ?_
  refine a_callSi B k_X8_isSheet_71 (c_X8_in hV) rfl rfl (Nat.le_of_ble_eq_true rfl) dX8_isSheet_3 (fun r3 mu3 h3 => ?_)
  obtain ⟨rfl, rfl⟩ := h3
  refine a_zreturn B E dX8_isSheet_6 (by first | rfl | exact nar_bI _) ?_
  exact ⟨rfl, rfl⟩
abbrev rm_X7_isGeneral : Room := { frames := 1, cells := 0, slots := 0, locals := 22 }
theorem k_X7_isGeneral_70 : KS RX7 wsX7_isGeneral rm_X7_isGeneral 70 yX7_within wsX7_within rm_X7_within 3 := ⟨_, _, _, _, gX7_isGeneral_X7_within, rfl, rfl, rfl, by decide +kernel, by decide⟩

set_option maxHeartbeats 4000000 in
set_option maxRecDepth 100000 in
theorem c_X7_isGeneral {l : Launch} {V : ab_V} {mu : ab_mem} {a : Int32} (hV : OKX V)  : CT l V ShX yX7_isGeneral wsX7_isGeneral rm_X7_isGeneral [.int a] mu (pI (fun r mu2 => r = bI (inB a 0 2) ∧ mu = mu2)) := by
  refine ab_enter hV.1 (by decide) rfl (Nat.le_of_ble_eq_true rfl) ?_
  intro X B E
  have B : CX X l rm_X7_isGeneral RX7 cX7_isGeneral wsX7_isGeneral 1 V ShX := B
  show AW X V ShX 1 0 [some (.int a)] [] mu
  refine a_iload_n B dX7_isGeneral_0 rfl ?_
  refine a_iconst (v := 0) B dX7_isGeneral_1 (by decide) ?_
  refine a_iconst (v := 2) B dX7_isGeneral_2 (by decide) ?_
  refine a_callSi B k_X7_isGeneral_70 (c_X7_within hV) rfl rfl (Nat.le_of_ble_eq_true rfl) dX7_isGeneral_3 (fun r3 mu3 h3 => ?_)
  obtain ⟨rfl, rfl⟩ := h3
  refine a_zreturn B E dX7_isGeneral_6 (by first | rfl | exact nar_bI _) ?_
  exact ⟨rfl, rfl⟩
abbrev rm_X7_isSide : Room := { frames := 1, cells := 0, slots := 0, locals := 22 }
theorem k_X7_isSide_70 : KS RX7 wsX7_isSide rm_X7_isSide 70 yX7_within wsX7_within rm_X7_within 3 := ⟨_, _, _, _, gX7_isSide_X7_within, rfl, rfl, rfl, by decide +kernel, by decide⟩

set_option maxHeartbeats 4000000 in
set_option maxRecDepth 100000 in
theorem c_X7_isSide {l : Launch} {V : ab_V} {mu : ab_mem} {a : Int32} (hV : OKX V)  : CT l V ShX yX7_isSide wsX7_isSide rm_X7_isSide [.int a] mu (pI (fun r mu2 => r = bI (inB a 0 1) ∧ mu = mu2)) := by
  refine ab_enter hV.1 (by decide) rfl (Nat.le_of_ble_eq_true rfl) ?_
  intro X B E
  have B : CX X l rm_X7_isSide RX7 cX7_isSide wsX7_isSide 1 V ShX := B
  show AW X V ShX 1 0 [some (.int a)] [] mu
  refine a_iload_n B dX7_isSide_0 rfl ?_
  refine a_iconst (v := 0) B dX7_isSide_1 (by decide) ?_
  refine a_iconst (v := 1) B dX7_isSide_2 (by decide) ?_
  refine a_callSi B k_X7_isSide_70 (c_X7_within hV) rfl rfl (Nat.le_of_ble_eq_true rfl) dX7_isSide_3 (fun r3 mu3 h3 => ?_)
  obtain ⟨rfl, rfl⟩ := h3
  refine a_zreturn B E dX7_isSide_6 (by first | rfl | exact nar_bI _) ?_
  exact ⟨rfl, rfl⟩
abbrev rm_X7_isHour : Room := { frames := 1, cells := 0, slots := 0, locals := 22 }
theorem k_X7_isHour_70 : KS RX7 wsX7_isHour rm_X7_isHour 70 yX7_within wsX7_within rm_X7_within 3 := ⟨_, _, _, _, gX7_isHour_X7_within, rfl, rfl, rfl, by decide +kernel, by decide⟩

set_option maxHeartbeats 4000000 in
set_option maxRecDepth 100000 in
theorem c_X7_isHour {l : Launch} {V : ab_V} {mu : ab_mem} {a : Int32} (hV : OKX V)  : CT l V ShX yX7_isHour wsX7_isHour rm_X7_isHour [.int a] mu (pI (fun r mu2 => r = bI (inB a 0 23) ∧ mu = mu2)) := by
  refine ab_enter hV.1 (by decide) rfl (Nat.le_of_ble_eq_true rfl) ?_
  intro X B E
  have B : CX X l rm_X7_isHour RX7 cX7_isHour wsX7_isHour 1 V ShX := B
  show AW X V ShX 1 0 [some (.int a)] [] mu
  refine a_iload_n B dX7_isHour_0 rfl ?_
  refine a_iconst (v := 0) B dX7_isHour_1 (by decide) ?_
  refine a_bipush (v := 23) B dX7_isHour_2 (by decide) ?_
  refine a_callSi B k_X7_isHour_70 (c_X7_within hV) rfl rfl (Nat.le_of_ble_eq_true rfl) dX7_isHour_4 (fun r4 mu4 h4 => ?_)
  obtain ⟨rfl, rfl⟩ := h4
  refine a_zreturn B E dX7_isHour_7 (by first | rfl | exact nar_bI _) ?_
  exact ⟨rfl, rfl⟩
abbrev rm_X7_isDish : Room := { frames := 1, cells := 0, slots := 0, locals := 22 }
theorem k_X7_isDish_70 : KS RX7 wsX7_isDish rm_X7_isDish 70 yX7_within wsX7_within rm_X7_within 3 := ⟨_, _, _, _, gX7_isDish_X7_within, rfl, rfl, rfl, by decide +kernel, by decide⟩

set_option maxHeartbeats 4000000 in
set_option maxRecDepth 100000 in
theorem c_X7_isDish {l : Launch} {V : ab_V} {mu : ab_mem} {a : Int32} (hV : OKX V)  : CT l V ShX yX7_isDish wsX7_isDish rm_X7_isDish [.int a] mu (pI (fun r mu2 => r = bI (inB a 0 6) ∧ mu = mu2)) := by
  refine ab_enter hV.1 (by decide) rfl (Nat.le_of_ble_eq_true rfl) ?_
  intro X B E
  have B : CX X l rm_X7_isDish RX7 cX7_isDish wsX7_isDish 1 V ShX := B
  show AW X V ShX 1 0 [some (.int a)] [] mu
  refine a_iload_n B dX7_isDish_0 rfl ?_
  refine a_iconst (v := 0) B dX7_isDish_1 (by decide) ?_
  refine a_bipush (v := 6) B dX7_isDish_2 (by decide) ?_
  refine a_callSi B k_X7_isDish_70 (c_X7_within hV) rfl rfl (Nat.le_of_ble_eq_true rfl) dX7_isDish_4 (fun r4 mu4 h4 => ?_)
  obtain ⟨rfl, rfl⟩ := h4
  refine a_zreturn B E dX7_isDish_7 (by first | rfl | exact nar_bI _) ?_
  exact ⟨rfl, rfl⟩
abbrev rm_X7_isSheet : Room := { frames := 1, cells := 0, slots := 0, locals := 22 }
theorem k_X7_isSheet_70 : KS RX7 wsX7_isSheet rm_X7_isSheet 70 yX7_within wsX7_within rm_X7_within 3 := ⟨_, _, _, _, gX7_isSheet_X7_within, rfl, rfl, rfl, by decide +kernel, by decide⟩

set_option maxHeartbeats 4000000 in
set_option maxRecDepth 100000 in
theorem c_X7_isSheet {l : Launch} {V : ab_V} {mu : ab_mem} {a : Int32} (hV : OKX V)  : CT l V ShX yX7_isSheet wsX7_isSheet rm_X7_isSheet [.int a] mu (pI (fun r mu2 => r = bI (inB a 0 3) ∧ mu = mu2)) := by
  refine ab_enter hV.1 (by decide) rfl (Nat.le_of_ble_eq_true rfl) ?_
  intro X B E
  have B : CX X l rm_X7_isSheet RX7 cX7_isSheet wsX7_isSheet 1 V ShX := B
  show AW X V ShX 1 0 [some (.int a)] [] mu
  refine a_iload_n B dX7_isSheet_0 rfl ?_
  refine a_iconst (v := 0) B dX7_isSheet_1 (by decide) ?_
  refine a_iconst (v := 3) B dX7_isSheet_2 (by decide) ?_
  refine a_callSi B k_X7_isSheet_70 (c_X7_within hV) rfl rfl (Nat.le_of_ble_eq_true rfl) dX7_isSheet_3 (fun r3 mu3 h3 => ?_)
  obtain ⟨rfl, rfl⟩ := h3
  refine a_zreturn B E dX7_isSheet_6 (by first | rfl | exact nar_bI _) ?_
  exact ⟨rfl, rfl⟩
abbrev rm_X7_isForm : Room := { frames := 1, cells := 0, slots := 0, locals := 22 }
theorem k_X7_isForm_70 : KS RX7 wsX7_isForm rm_X7_isForm 70 yX7_within wsX7_within rm_X7_within 3 := ⟨_, _, _, _, gX7_isForm_X7_within, rfl, rfl, rfl, by decide +kernel, by decide⟩

set_option maxHeartbeats 4000000 in
set_option maxRecDepth 100000 in
theorem c_X7_isForm {l : Launch} {V : ab_V} {mu : ab_mem} {a : Int32} (hV : OKX V)  : CT l V ShX yX7_isForm wsX7_isForm rm_X7_isForm [.int a] mu (pI (fun r mu2 => r = bI (inB a 0 2) ∧ mu = mu2)) := by
  refine ab_enter hV.1 (by decide) rfl (Nat.le_of_ble_eq_true rfl) ?_
  intro X B E
  have B : CX X l rm_X7_isForm RX7 cX7_isForm wsX7_isForm 1 V ShX := B
  show AW X V ShX 1 0 [some (.int a)] [] mu
  refine a_iload_n B dX7_isForm_0 rfl ?_
  refine a_iconst (v := 0) B dX7_isForm_1 (by decide) ?_
  refine a_iconst (v := 2) B dX7_isForm_2 (by decide) ?_
  refine a_callSi B k_X7_isForm_70 (c_X7_within hV) rfl rfl (Nat.le_of_ble_eq_true rfl) dX7_isForm_3 (fun r3 mu3 h3 => ?_)
  obtain ⟨rfl, rfl⟩ := h3
  refine a_zreturn B E dX7_isForm_6 (by first | rfl | exact nar_bI _) ?_
  exact ⟨rfl, rfl⟩
