theorem ab_up_self {mu : ab_mem} {q k : Nat} : ab_up mu q k (mu q k) = mu := by
  funext a b
  by_cases h : a = q
  · subst h
    simp only [ab_up, if_pos, upd]
    split
    · rename_i e; rw [e]
    · rfl
  · simp [ab_up, h]
theorem ab_up_row {mu : ab_mem} {q k : Nat} {f : Nat → Int32} {x : Int32} : ab_up (ab_row mu q f) q k x = ab_row mu q (upd f k x) := by
  funext a
  by_cases h : a = q
  · simp [ab_up, ab_row, h]
  · simp [ab_up, ab_row, h]
theorem ab_row_self {mu : ab_mem} {q : Nat} : ab_row mu q (mu q) = mu := by
  funext a
  by_cases h : a = q
  · simp [ab_row, h]
  · simp [ab_row, h]
theorem ab_row_s {mu : ab_mem} {q : Nat} {f : Nat → Int32} : ab_row mu q f q = f := by simp [ab_row]
theorem ab_row_o {mu : ab_mem} {q a : Nat} {f : Nat → Int32} (h : a ≠ q) : ab_row mu q f a = mu a := by simp [ab_row, h]
abbrev rm_X8_set : Room := { frames := 1, cells := 0, slots := 0, locals := 22 }
set_option maxRecDepth 20000 in
theorem us_X8_set_8 : ∀ w ∈ u_ws RX8 TX8 23, w ∈ wsX8_set := by decide +kernel
set_option maxRecDepth 20000 in
theorem fl_X8_set_65 : FL RX8 wsX8_set 65 8 5 := ⟨RX8, TX8, 23, rfl, by decide, us_X8_set_8, by decide +kernel⟩
set_option maxRecDepth 20000 in
theorem fl_X8_set_89 : FL RX8 wsX8_set 89 8 6 := ⟨RX8, TX8, 23, rfl, by decide, us_X8_set_8, by decide +kernel⟩
set_option maxRecDepth 20000 in
theorem fl_X8_set_92 : FL RX8 wsX8_set 92 8 7 := ⟨RX8, TX8, 23, rfl, by decide, us_X8_set_8, by decide +kernel⟩
set_option maxRecDepth 20000 in
theorem fp_X8_set_65 : FP RX8 wsX8_set 65 8 5 .int := ⟨RX8, TX8, 23, tyX8, rfl, by decide, us_X8_set_8, by decide +kernel, tyX8_ok, nmX8, rfl, rfl⟩
set_option maxRecDepth 20000 in
theorem fp_X8_set_89 : FP RX8 wsX8_set 89 8 6 .int := ⟨RX8, TX8, 23, tyX8, rfl, by decide, us_X8_set_8, by decide +kernel, tyX8_ok, nmX8, rfl, rfl⟩
set_option maxRecDepth 20000 in
theorem fp_X8_set_92 : FP RX8 wsX8_set 92 8 7 .int := ⟨RX8, TX8, 23, tyX8, rfl, by decide, us_X8_set_8, by decide +kernel, tyX8_ok, nmX8, rfl, rfl⟩
theorem k_X8_set_71 : KS RX8 wsX8_set rm_X8_set 71 yX8_in wsX8_in rm_X8_in 3 := ⟨_, _, _, _, gX8_set_X8_in, rfl, rfl, rfl, by decide +kernel, by decide⟩

set_option maxHeartbeats 4000000 in
set_option maxRecDepth 100000 in
theorem c_X8_set_0 {l : Launch} {V : ab_V} {mu : ab_mem} {v : Int32} (hV : ab_OK V ShM) (hv : inB v 1 10 = true) : CT l V ShM yX8_set wsX8_set rm_X8_set [.ref (aL V 0), .int 0, .int v] mu (pI (fun r mu2 => r = mu 0 5 ∧ mu2 = ab_up mu 0 5 v)) := by
  refine ab_enter hV (by decide) rfl (Nat.le_of_ble_eq_true rfl) ?_
  intro X B E
  have B : CX X l rm_X8_set RX8 cX8_set wsX8_set 4 V ShM := B
  show AW X V ShM 4 0 [some (.ref (aL V 0)), some (.int 0), some (.int v), none] [] mu
  refine a_iload_n B dX8_set_0 rfl ?_
  refine a_iconst (v := 0) B dX8_set_1 (by decide) ?_
  refine a_iconst (v := 2) B dX8_set_2 (by decide) ?_
  refine a_callSi B k_X8_set_71 (c_X8_in hV) rfl rfl (Nat.le_of_ble_eq_true rfl) dX8_set_3 (fun r3 mu3 h3 => ?_)
  obtain ⟨rfl, rfl⟩ := h3
  refine a_if_eq_f (tgt := 57) B dX8_set_6 (by decide) (by decide) ?_
  refine a_iload_n B dX8_set_9 rfl ?_
  refine a_iload_n B dX8_set_10 rfl ?_
  refine a_if_ne_f (tgt := 18) B dX8_set_11 (by decide) (rfl) ?_
  refine a_iconst (v := 1) B dX8_set_14 (by decide) ?_
  refine a_goto (tgt := 19) B dX8_set_15 (by decide) ?_
  refine a_iload_n B dX8_set_19 rfl ?_
  refine a_if_ne_f (tgt := 28) B dX8_set_20 (by decide) (rfl) ?_
  refine a_bipush (v := 10) B dX8_set_23 (by decide) ?_
  refine a_goto (tgt := 39) B dX8_set_25 (by decide) ?_
  refine a_callSi B k_X8_set_71 (c_X8_in hV) rfl rfl (Nat.le_of_ble_eq_true rfl) dX8_set_39 (fun r39 mu39 h39 => ?_)
  obtain ⟨rfl, rfl⟩ := h39
  refine a_if_eq_f (tgt := 57) B dX8_set_42 (by decide) (bI_n0.mpr hv) ?_
  refine a_iload_n B dX8_set_45 rfl ?_
  refine a_iconst (v := 2) B dX8_set_46 (by decide) ?_
  refine a_icmp_ne_t (tgt := 60) B dX8_set_47 (by decide) (by decide) ?_
  refine a_iload_n B dX8_set_60 rfl ?_
  refine a_if_ne_f (tgt := 71) B dX8_set_61 (by decide) (rfl) ?_
  refine a_aload_n B dX8_set_64 rfl ?_
  refine a_geti B fl_X8_set_65 (by first | rfl | assumption) rfl dX8_set_65 ?_
  refine a_goto (tgt := 87) B dX8_set_68 (by decide) ?_
  refine a_istore_n B dX8_set_87 (by decide) ?_
  refine a_aload_n B dX8_set_88 rfl ?_
  refine a_iload_n B dX8_set_89 rfl ?_
  refine a_if_ne_f (tgt := 97) B dX8_set_90 (by decide) (rfl) ?_
  refine a_iload_n B dX8_set_93 rfl ?_
  refine a_goto (tgt := 101) B dX8_set_94 (by decide) ?_
  refine a_put B fp_X8_set_65 (by first | rfl | assumption) rfl rfl rfl dX8_set_101 ?_
  refine a_aload_n B dX8_set_104 rfl ?_
  refine a_iload_n B dX8_set_105 rfl ?_
  refine a_iconst (v := 1) B dX8_set_106 (by decide) ?_
  refine a_icmp_ne_t (tgt := 114) B dX8_set_107 (by decide) (by decide) ?_
  refine a_aload_n B dX8_set_114 rfl ?_
  refine a_geti B fl_X8_set_89 (by first | rfl | assumption) rfl dX8_set_115 ?_
  refine a_put B fp_X8_set_89 (by first | rfl | assumption) rfl rfl rfl dX8_set_118 ?_
  refine a_aload_n B dX8_set_121 rfl ?_
  refine a_iload_n B dX8_set_122 rfl ?_
  refine a_iconst (v := 2) B dX8_set_123 (by decide) ?_
  refine a_icmp_ne_t (tgt := 131) B dX8_set_124 (by decide) (by decide) ?_
  refine a_aload_n B dX8_set_131 rfl ?_
  refine a_geti B fl_X8_set_92 (by first | rfl | assumption) rfl dX8_set_132 ?_
  refine a_put B fp_X8_set_92 (by first | rfl | assumption) rfl rfl rfl dX8_set_135 ?_
  refine a_iload_n B dX8_set_138 rfl ?_
  refine a_ireturn B E dX8_set_139 ?_
  refine ⟨rfl, ?_⟩
  rw [ab_up_self, ab_up_self]
set_option maxHeartbeats 4000000 in
set_option maxRecDepth 100000 in
theorem c_X8_set_1 {l : Launch} {V : ab_V} {mu : ab_mem} {v : Int32} (hV : ab_OK V ShM) (hv : inB v 0 2 = true) : CT l V ShM yX8_set wsX8_set rm_X8_set [.ref (aL V 0), .int 1, .int v] mu (pI (fun r mu2 => r = mu 0 6 ∧ mu2 = ab_up mu 0 6 v)) := by
  refine ab_enter hV (by decide) rfl (Nat.le_of_ble_eq_true rfl) ?_
  intro X B E
  have B : CX X l rm_X8_set RX8 cX8_set wsX8_set 4 V ShM := B
  show AW X V ShM 4 0 [some (.ref (aL V 0)), some (.int 1), some (.int v), none] [] mu
  refine a_iload_n B dX8_set_0 rfl ?_
  refine a_iconst (v := 0) B dX8_set_1 (by decide) ?_
  refine a_iconst (v := 2) B dX8_set_2 (by decide) ?_
  refine a_callSi B k_X8_set_71 (c_X8_in hV) rfl rfl (Nat.le_of_ble_eq_true rfl) dX8_set_3 (fun r3 mu3 h3 => ?_)
  obtain ⟨rfl, rfl⟩ := h3
  refine a_if_eq_f (tgt := 57) B dX8_set_6 (by decide) (by decide) ?_
  refine a_iload_n B dX8_set_9 rfl ?_
  refine a_iload_n B dX8_set_10 rfl ?_
  refine a_if_ne_t (tgt := 18) B dX8_set_11 (by decide) (by decide) ?_
  refine a_iconst (v := 0) B dX8_set_18 (by decide) ?_
  refine a_iload_n B dX8_set_19 rfl ?_
  refine a_if_ne_t (tgt := 28) B dX8_set_20 (by decide) (by decide) ?_
  refine a_iload_n B dX8_set_28 rfl ?_
  refine a_iconst (v := 1) B dX8_set_29 (by decide) ?_
  refine a_icmp_ne_f (tgt := 37) B dX8_set_30 (by decide) (rfl) ?_
  refine a_iconst (v := 2) B dX8_set_33 (by decide) ?_
  refine a_goto (tgt := 39) B dX8_set_34 (by decide) ?_
  refine a_callSi B k_X8_set_71 (c_X8_in hV) rfl rfl (Nat.le_of_ble_eq_true rfl) dX8_set_39 (fun r39 mu39 h39 => ?_)
  obtain ⟨rfl, rfl⟩ := h39
  refine a_if_eq_f (tgt := 57) B dX8_set_42 (by decide) (bI_n0.mpr hv) ?_
  refine a_iload_n B dX8_set_45 rfl ?_
  refine a_iconst (v := 2) B dX8_set_46 (by decide) ?_
  refine a_icmp_ne_t (tgt := 60) B dX8_set_47 (by decide) (by decide) ?_
  refine a_iload_n B dX8_set_60 rfl ?_
  refine a_if_ne_t (tgt := 71) B dX8_set_61 (by decide) (by decide) ?_
  refine a_iload_n B dX8_set_71 rfl ?_
  refine a_iconst (v := 1) B dX8_set_72 (by decide) ?_
  refine a_icmp_ne_f (tgt := 83) B dX8_set_73 (by decide) (rfl) ?_
  refine a_aload_n B dX8_set_76 rfl ?_
  refine a_geti B fl_X8_set_89 (by first | rfl | assumption) rfl dX8_set_77 ?_
  refine a_goto (tgt := 87) B dX8_set_80 (by decide) ?_
  refine a_istore_n B dX8_set_87 (by decide) ?_
  refine a_aload_n B dX8_set_88 rfl ?_
  refine a_iload_n B dX8_set_89 rfl ?_
  refine a_if_ne_t (tgt := 97) B dX8_set_90 (by decide) (by decide) ?_
  refine a_aload_n B dX8_set_97 rfl ?_
  refine a_geti B fl_X8_set_65 (by first | rfl | assumption) rfl dX8_set_98 ?_
  refine a_put B fp_X8_set_65 (by first | rfl | assumption) rfl rfl rfl dX8_set_101 ?_
  refine a_aload_n B dX8_set_104 rfl ?_
  refine a_iload_n B dX8_set_105 rfl ?_
  refine a_iconst (v := 1) B dX8_set_106 (by decide) ?_
  refine a_icmp_ne_f (tgt := 114) B dX8_set_107 (by decide) (rfl) ?_
  refine a_iload_n B dX8_set_110 rfl ?_
  refine a_goto (tgt := 118) B dX8_set_111 (by decide) ?_
  refine a_put B fp_X8_set_89 (by first | rfl | assumption) rfl rfl rfl dX8_set_118 ?_
  refine a_aload_n B dX8_set_121 rfl ?_
  refine a_iload_n B dX8_set_122 rfl ?_
  refine a_iconst (v := 2) B dX8_set_123 (by decide) ?_
  refine a_icmp_ne_t (tgt := 131) B dX8_set_124 (by decide) (by decide) ?_
  refine a_aload_n B dX8_set_131 rfl ?_
  refine a_geti B fl_X8_set_92 (by first | rfl | assumption) rfl dX8_set_132 ?_
  refine a_put B fp_X8_set_92 (by first | rfl | assumption) rfl rfl rfl dX8_set_135 ?_
  refine a_iload_n B dX8_set_138 rfl ?_
  refine a_ireturn B E dX8_set_139 ?_
  refine ⟨rfl, ?_⟩
  rw [ab_up_self, ab_up_self]
set_option maxHeartbeats 4000000 in
set_option maxRecDepth 100000 in
theorem c_X8_set_2 {l : Launch} {V : ab_V} {mu : ab_mem} {v : Int32} (hV : ab_OK V ShM) (hv : inB v 0 126 = true) (ho : ¬ v - v / 2 * 2 = 1) : CT l V ShM yX8_set wsX8_set rm_X8_set [.ref (aL V 0), .int 2, .int v] mu (pI (fun r mu2 => r = mu 0 7 ∧ mu2 = ab_up mu 0 7 v)) := by
  refine ab_enter hV (by decide) rfl (Nat.le_of_ble_eq_true rfl) ?_
  intro X B E
  have B : CX X l rm_X8_set RX8 cX8_set wsX8_set 4 V ShM := B
  show AW X V ShM 4 0 [some (.ref (aL V 0)), some (.int 2), some (.int v), none] [] mu
  refine a_iload_n B dX8_set_0 rfl ?_
  refine a_iconst (v := 0) B dX8_set_1 (by decide) ?_
  refine a_iconst (v := 2) B dX8_set_2 (by decide) ?_
  refine a_callSi B k_X8_set_71 (c_X8_in hV) rfl rfl (Nat.le_of_ble_eq_true rfl) dX8_set_3 (fun r3 mu3 h3 => ?_)
  obtain ⟨rfl, rfl⟩ := h3
  refine a_if_eq_f (tgt := 57) B dX8_set_6 (by decide) (by decide) ?_
  refine a_iload_n B dX8_set_9 rfl ?_
  refine a_iload_n B dX8_set_10 rfl ?_
  refine a_if_ne_t (tgt := 18) B dX8_set_11 (by decide) (by decide) ?_
  refine a_iconst (v := 0) B dX8_set_18 (by decide) ?_
  refine a_iload_n B dX8_set_19 rfl ?_
  refine a_if_ne_t (tgt := 28) B dX8_set_20 (by decide) (by decide) ?_
  refine a_iload_n B dX8_set_28 rfl ?_
  refine a_iconst (v := 1) B dX8_set_29 (by decide) ?_
  refine a_icmp_ne_t (tgt := 37) B dX8_set_30 (by decide) (by decide) ?_
  refine a_bipush (v := 126) B dX8_set_37 (by decide) ?_
  refine a_callSi B k_X8_set_71 (c_X8_in hV) rfl rfl (Nat.le_of_ble_eq_true rfl) dX8_set_39 (fun r39 mu39 h39 => ?_)
  obtain ⟨rfl, rfl⟩ := h39
  refine a_if_eq_f (tgt := 57) B dX8_set_42 (by decide) (bI_n0.mpr hv) ?_
  refine a_iload_n B dX8_set_45 rfl ?_
  refine a_iconst (v := 2) B dX8_set_46 (by decide) ?_
  refine a_icmp_ne_f (tgt := 60) B dX8_set_47 (by decide) (rfl) ?_
  refine a_iload_n B dX8_set_50 rfl ?_
  refine a_iconst (v := 2) B dX8_set_51 (by decide) ?_
  refine a_irem B dX8_set_52 (by decide) ?_
  refine a_iconst (v := 1) B dX8_set_53 (by decide) ?_
  refine a_icmp_ne_t (tgt := 60) B dX8_set_54 (by decide) (ho) ?_
  refine a_iload_n B dX8_set_60 rfl ?_
  refine a_if_ne_t (tgt := 71) B dX8_set_61 (by decide) (by decide) ?_
  refine a_iload_n B dX8_set_71 rfl ?_
  refine a_iconst (v := 1) B dX8_set_72 (by decide) ?_
  refine a_icmp_ne_t (tgt := 83) B dX8_set_73 (by decide) (by decide) ?_
  refine a_aload_n B dX8_set_83 rfl ?_
  refine a_geti B fl_X8_set_92 (by first | rfl | assumption) rfl dX8_set_84 ?_
  refine a_istore_n B dX8_set_87 (by decide) ?_
  refine a_aload_n B dX8_set_88 rfl ?_
  refine a_iload_n B dX8_set_89 rfl ?_
  refine a_if_ne_t (tgt := 97) B dX8_set_90 (by decide) (by decide) ?_
  refine a_aload_n B dX8_set_97 rfl ?_
  refine a_geti B fl_X8_set_65 (by first | rfl | assumption) rfl dX8_set_98 ?_
  refine a_put B fp_X8_set_65 (by first | rfl | assumption) rfl rfl rfl dX8_set_101 ?_
  refine a_aload_n B dX8_set_104 rfl ?_
  refine a_iload_n B dX8_set_105 rfl ?_
  refine a_iconst (v := 1) B dX8_set_106 (by decide) ?_
  refine a_icmp_ne_t (tgt := 114) B dX8_set_107 (by decide) (by decide) ?_
  refine a_aload_n B dX8_set_114 rfl ?_
  refine a_geti B fl_X8_set_89 (by first | rfl | assumption) rfl dX8_set_115 ?_
  refine a_put B fp_X8_set_89 (by first | rfl | assumption) rfl rfl rfl dX8_set_118 ?_
  refine a_aload_n B dX8_set_121 rfl ?_
  refine a_iload_n B dX8_set_122 rfl ?_
  refine a_iconst (v := 2) B dX8_set_123 (by decide) ?_
  refine a_icmp_ne_f (tgt := 131) B dX8_set_124 (by decide) (rfl) ?_
  refine a_iload_n B dX8_set_127 rfl ?_
  refine a_goto (tgt := 135) B dX8_set_128 (by decide) ?_
  refine a_put B fp_X8_set_92 (by first | rfl | assumption) rfl rfl rfl dX8_set_135 ?_
  refine a_iload_n B dX8_set_138 rfl ?_
  refine a_ireturn B E dX8_set_139 ?_
  refine ⟨rfl, ?_⟩
  rw [ab_up_self, ab_up_self]
set_option maxHeartbeats 4000000 in
set_option maxRecDepth 100000 in
theorem c_X8_set_b {l : Launch} {V : ab_V} {mu : ab_mem} {a v : Int32} (hV : ab_OK V ShM) (hb : inB a 0 2 = false) : CT l V ShM yX8_set wsX8_set rm_X8_set [.ref (aL V 0), .int a, .int v] mu (pI (fun r mu2 => r = -2 ∧ mu = mu2)) := by
  refine ab_enter hV (by decide) rfl (Nat.le_of_ble_eq_true rfl) ?_
  intro X B E
  have B : CX X l rm_X8_set RX8 cX8_set wsX8_set 4 V ShM := B
  show AW X V ShM 4 0 [some (.ref (aL V 0)), some (.int a), some (.int v), none] [] mu
  refine a_iload_n B dX8_set_0 rfl ?_
  refine a_iconst (v := 0) B dX8_set_1 (by decide) ?_
  refine a_iconst (v := 2) B dX8_set_2 (by decide) ?_
  refine a_callSi B k_X8_set_71 (c_X8_in hV) rfl rfl (Nat.le_of_ble_eq_true rfl) dX8_set_3 (fun r3 mu3 h3 => ?_)
  obtain ⟨rfl, rfl⟩ := h3
  refine a_if_eq_t (tgt := 57) B dX8_set_6 (by decide) (bI_0.mpr hb) ?_
  refine a_bipush (v := -2) B dX8_set_57 (by decide) ?_
  refine a_ireturn B E dX8_set_59 ?_
  exact ⟨rfl, rfl⟩
set_option maxHeartbeats 4000000 in
set_option maxRecDepth 100000 in
theorem c_X8_set_b0 {l : Launch} {V : ab_V} {mu : ab_mem} {v : Int32} (hV : ab_OK V ShM) (hv : inB v 1 10 = false) : CT l V ShM yX8_set wsX8_set rm_X8_set [.ref (aL V 0), .int 0, .int v] mu (pI (fun r mu2 => r = -2 ∧ mu = mu2)) := by
  refine ab_enter hV (by decide) rfl (Nat.le_of_ble_eq_true rfl) ?_
  intro X B E
  have B : CX X l rm_X8_set RX8 cX8_set wsX8_set 4 V ShM := B
  show AW X V ShM 4 0 [some (.ref (aL V 0)), some (.int 0), some (.int v), none] [] mu
  refine a_iload_n B dX8_set_0 rfl ?_
  refine a_iconst (v := 0) B dX8_set_1 (by decide) ?_
  refine a_iconst (v := 2) B dX8_set_2 (by decide) ?_
  refine a_callSi B k_X8_set_71 (c_X8_in hV) rfl rfl (Nat.le_of_ble_eq_true rfl) dX8_set_3 (fun r3 mu3 h3 => ?_)
  obtain ⟨rfl, rfl⟩ := h3
  refine a_if_eq_f (tgt := 57) B dX8_set_6 (by decide) (by decide) ?_
  refine a_iload_n B dX8_set_9 rfl ?_
  refine a_iload_n B dX8_set_10 rfl ?_
  refine a_if_ne_f (tgt := 18) B dX8_set_11 (by decide) (rfl) ?_
  refine a_iconst (v := 1) B dX8_set_14 (by decide) ?_
  refine a_goto (tgt := 19) B dX8_set_15 (by decide) ?_
  refine a_iload_n B dX8_set_19 rfl ?_
  refine a_if_ne_f (tgt := 28) B dX8_set_20 (by decide) (rfl) ?_
  refine a_bipush (v := 10) B dX8_set_23 (by decide) ?_
  refine a_goto (tgt := 39) B dX8_set_25 (by decide) ?_
  refine a_callSi B k_X8_set_71 (c_X8_in hV) rfl rfl (Nat.le_of_ble_eq_true rfl) dX8_set_39 (fun r39 mu39 h39 => ?_)
  obtain ⟨rfl, rfl⟩ := h39
  refine a_if_eq_t (tgt := 57) B dX8_set_42 (by decide) (bI_0.mpr hv) ?_
  refine a_bipush (v := -2) B dX8_set_57 (by decide) ?_
  refine a_ireturn B E dX8_set_59 ?_
  exact ⟨rfl, rfl⟩
set_option maxHeartbeats 4000000 in
set_option maxRecDepth 100000 in
theorem c_X8_set_b1 {l : Launch} {V : ab_V} {mu : ab_mem} {v : Int32} (hV : ab_OK V ShM) (hv : inB v 0 2 = false) : CT l V ShM yX8_set wsX8_set rm_X8_set [.ref (aL V 0), .int 1, .int v] mu (pI (fun r mu2 => r = -2 ∧ mu = mu2)) := by
  refine ab_enter hV (by decide) rfl (Nat.le_of_ble_eq_true rfl) ?_
  intro X B E
  have B : CX X l rm_X8_set RX8 cX8_set wsX8_set 4 V ShM := B
  show AW X V ShM 4 0 [some (.ref (aL V 0)), some (.int 1), some (.int v), none] [] mu
  refine a_iload_n B dX8_set_0 rfl ?_
  refine a_iconst (v := 0) B dX8_set_1 (by decide) ?_
  refine a_iconst (v := 2) B dX8_set_2 (by decide) ?_
  refine a_callSi B k_X8_set_71 (c_X8_in hV) rfl rfl (Nat.le_of_ble_eq_true rfl) dX8_set_3 (fun r3 mu3 h3 => ?_)
  obtain ⟨rfl, rfl⟩ := h3
  refine a_if_eq_f (tgt := 57) B dX8_set_6 (by decide) (by decide) ?_
  refine a_iload_n B dX8_set_9 rfl ?_
  refine a_iload_n B dX8_set_10 rfl ?_
  refine a_if_ne_t (tgt := 18) B dX8_set_11 (by decide) (by decide) ?_
  refine a_iconst (v := 0) B dX8_set_18 (by decide) ?_
  refine a_iload_n B dX8_set_19 rfl ?_
  refine a_if_ne_t (tgt := 28) B dX8_set_20 (by decide) (by decide) ?_
  refine a_iload_n B dX8_set_28 rfl ?_
  refine a_iconst (v := 1) B dX8_set_29 (by decide) ?_
  refine a_icmp_ne_f (tgt := 37) B dX8_set_30 (by decide) (rfl) ?_
  refine a_iconst (v := 2) B dX8_set_33 (by decide) ?_
  refine a_goto (tgt := 39) B dX8_set_34 (by decide) ?_
  refine a_callSi B k_X8_set_71 (c_X8_in hV) rfl rfl (Nat.le_of_ble_eq_true rfl) dX8_set_39 (fun r39 mu39 h39 => ?_)
  obtain ⟨rfl, rfl⟩ := h39
  refine a_if_eq_t (tgt := 57) B dX8_set_42 (by decide) (bI_0.mpr hv) ?_
  refine a_bipush (v := -2) B dX8_set_57 (by decide) ?_
  refine a_ireturn B E dX8_set_59 ?_
  exact ⟨rfl, rfl⟩
set_option maxHeartbeats 4000000 in
set_option maxRecDepth 100000 in
theorem c_X8_set_b2 {l : Launch} {V : ab_V} {mu : ab_mem} {v : Int32} (hV : ab_OK V ShM) (hv : inB v 0 126 = false) : CT l V ShM yX8_set wsX8_set rm_X8_set [.ref (aL V 0), .int 2, .int v] mu (pI (fun r mu2 => r = -2 ∧ mu = mu2)) := by
  refine ab_enter hV (by decide) rfl (Nat.le_of_ble_eq_true rfl) ?_
  intro X B E
  have B : CX X l rm_X8_set RX8 cX8_set wsX8_set 4 V ShM := B
  show AW X V ShM 4 0 [some (.ref (aL V 0)), some (.int 2), some (.int v), none] [] mu
  refine a_iload_n B dX8_set_0 rfl ?_
  refine a_iconst (v := 0) B dX8_set_1 (by decide) ?_
  refine a_iconst (v := 2) B dX8_set_2 (by decide) ?_
  refine a_callSi B k_X8_set_71 (c_X8_in hV) rfl rfl (Nat.le_of_ble_eq_true rfl) dX8_set_3 (fun r3 mu3 h3 => ?_)
  obtain ⟨rfl, rfl⟩ := h3
  refine a_if_eq_f (tgt := 57) B dX8_set_6 (by decide) (by decide) ?_
  refine a_iload_n B dX8_set_9 rfl ?_
  refine a_iload_n B dX8_set_10 rfl ?_
  refine a_if_ne_t (tgt := 18) B dX8_set_11 (by decide) (by decide) ?_
  refine a_iconst (v := 0) B dX8_set_18 (by decide) ?_
  refine a_iload_n B dX8_set_19 rfl ?_
  refine a_if_ne_t (tgt := 28) B dX8_set_20 (by decide) (by decide) ?_
  refine a_iload_n B dX8_set_28 rfl ?_
  refine a_iconst (v := 1) B dX8_set_29 (by decide) ?_
  refine a_icmp_ne_t (tgt := 37) B dX8_set_30 (by decide) (by decide) ?_
  refine a_bipush (v := 126) B dX8_set_37 (by decide) ?_
  refine a_callSi B k_X8_set_71 (c_X8_in hV) rfl rfl (Nat.le_of_ble_eq_true rfl) dX8_set_39 (fun r39 mu39 h39 => ?_)
  obtain ⟨rfl, rfl⟩ := h39
  refine a_if_eq_t (tgt := 57) B dX8_set_42 (by decide) (bI_0.mpr hv) ?_
  refine a_bipush (v := -2) B dX8_set_57 (by decide) ?_
  refine a_ireturn B E dX8_set_59 ?_
  exact ⟨rfl, rfl⟩
set_option maxHeartbeats 4000000 in
set_option maxRecDepth 100000 in
theorem c_X8_set_b3 {l : Launch} {V : ab_V} {mu : ab_mem} {v : Int32} (hV : ab_OK V ShM) (hv : inB v 0 126 = true) (ho : v - v / 2 * 2 = 1) : CT l V ShM yX8_set wsX8_set rm_X8_set [.ref (aL V 0), .int 2, .int v] mu (pI (fun r mu2 => r = -2 ∧ mu = mu2)) := by
  refine ab_enter hV (by decide) rfl (Nat.le_of_ble_eq_true rfl) ?_
  intro X B E
  have B : CX X l rm_X8_set RX8 cX8_set wsX8_set 4 V ShM := B
  show AW X V ShM 4 0 [some (.ref (aL V 0)), some (.int 2), some (.int v), none] [] mu
  refine a_iload_n B dX8_set_0 rfl ?_
  refine a_iconst (v := 0) B dX8_set_1 (by decide) ?_
  refine a_iconst (v := 2) B dX8_set_2 (by decide) ?_
  refine a_callSi B k_X8_set_71 (c_X8_in hV) rfl rfl (Nat.le_of_ble_eq_true rfl) dX8_set_3 (fun r3 mu3 h3 => ?_)
  obtain ⟨rfl, rfl⟩ := h3
  refine a_if_eq_f (tgt := 57) B dX8_set_6 (by decide) (by decide) ?_
  refine a_iload_n B dX8_set_9 rfl ?_
  refine a_iload_n B dX8_set_10 rfl ?_
  refine a_if_ne_t (tgt := 18) B dX8_set_11 (by decide) (by decide) ?_
  refine a_iconst (v := 0) B dX8_set_18 (by decide) ?_
  refine a_iload_n B dX8_set_19 rfl ?_
  refine a_if_ne_t (tgt := 28) B dX8_set_20 (by decide) (by decide) ?_
  refine a_iload_n B dX8_set_28 rfl ?_
  refine a_iconst (v := 1) B dX8_set_29 (by decide) ?_
  refine a_icmp_ne_t (tgt := 37) B dX8_set_30 (by decide) (by decide) ?_
  refine a_bipush (v := 126) B dX8_set_37 (by decide) ?_
  refine a_callSi B k_X8_set_71 (c_X8_in hV) rfl rfl (Nat.le_of_ble_eq_true rfl) dX8_set_39 (fun r39 mu39 h39 => ?_)
  obtain ⟨rfl, rfl⟩ := h39
  refine a_if_eq_f (tgt := 57) B dX8_set_42 (by decide) (bI_n0.mpr hv) ?_
  refine a_iload_n B dX8_set_45 rfl ?_
  refine a_iconst (v := 2) B dX8_set_46 (by decide) ?_
  refine a_icmp_ne_f (tgt := 60) B dX8_set_47 (by decide) (rfl) ?_
  refine a_iload_n B dX8_set_50 rfl ?_
  refine a_iconst (v := 2) B dX8_set_51 (by decide) ?_
  refine a_irem B dX8_set_52 (by decide) ?_
  refine a_iconst (v := 1) B dX8_set_53 (by decide) ?_
  refine a_icmp_ne_f (tgt := 60) B dX8_set_54 (by decide) (ho) ?_
  refine a_bipush (v := -2) B dX8_set_57 (by decide) ?_
  refine a_ireturn B E dX8_set_59 ?_
  exact ⟨rfl, rfl⟩
def rdF (f : Nat → Int32) (i : Nat) : Nat → Nat
  | 0 => 0
  | k + 1 => if inB (f i) 0 6 then rdF f (i + 1) k + 1 else 0
theorem rdF_le (f : Nat → Int32) : ∀ k i, rdF f i k ≤ k := by
  intro k
  induction k with
  | zero => intro i; exact Nat.le_refl _
  | succ k ih =>
    intro i
    rw [rdF]
    split
    · have := ih (i + 1); omega
    · omega
def rdM (mu : ab_mem) (s g n : Nat) : ab_mem := ab_row mu 2 (fb_put (mu 2) (fun k => byteOf (mu 17 (48 * s + k))) (24 * g) n)
theorem rdM_0 {mu : ab_mem} {s g : Nat} : rdM mu s g 0 = mu := by rw [rdM, fb_put_0, ab_row_self]
theorem rdM_s {mu : ab_mem} {s g n : Nat} : ab_up (rdM mu s g n) 2 (24 * g + n) (byteOf (mu 17 (48 * s + n))) = rdM mu s g (n + 1) := by
  rw [rdM, ab_up_row, fb_put_succ (mu 2) (fun k => byteOf (mu 17 (48 * s + k)))]
  rfl
theorem rdM_o {mu : ab_mem} {s g n a : Nat} (h : a ≠ 2) : rdM mu s g n a = mu a := ab_row_o h
abbrev rm_X8_read : Room := { frames := 2, cells := 0, slots := 0, locals := 42 }
set_option maxRecDepth 20000 in
theorem us_X8_read_8 : ∀ w ∈ u_ws RX8 TX8 23, w ∈ wsX8_read := by decide +kernel
set_option maxRecDepth 20000 in
theorem fl_X8_read_7 : FL RX8 wsX8_read 7 8 0 := ⟨RX8, TX8, 23, rfl, by decide, us_X8_read_8, by decide +kernel⟩
set_option maxRecDepth 20000 in
theorem fl_X8_read_13 : FL RX8 wsX8_read 13 8 1 := ⟨RX8, TX8, 23, rfl, by decide, us_X8_read_8, by decide +kernel⟩
set_option maxRecDepth 20000 in
theorem fl_X8_read_50 : FL RX8 wsX8_read 50 8 17 := ⟨RX8, TX8, 23, rfl, by decide, us_X8_read_8, by decide +kernel⟩
set_option maxRecDepth 20000 in
theorem fl_X8_read_56 : FL RX8 wsX8_read 56 8 19 := ⟨RX8, TX8, 23, rfl, by decide, us_X8_read_8, by decide +kernel⟩
set_option maxRecDepth 20000 in
theorem fl_X8_read_59 : FL RX8 wsX8_read 59 8 20 := ⟨RX8, TX8, 23, rfl, by decide, us_X8_read_8, by decide +kernel⟩
theorem k_X8_read_75 : KS RX8 wsX8_read rm_X8_read 75 yX8_isGeneral wsX8_isGeneral rm_X8_isGeneral 1 := ⟨_, _, _, _, gX8_read_X8_isGeneral, rfl, rfl, rfl, by decide +kernel, by decide⟩
theorem k_X8_read_86 : KS RX8 wsX8_read rm_X8_read 86 yX8_isDish wsX8_isDish rm_X8_isDish 1 := ⟨_, _, _, _, gX8_read_X8_isDish, rfl, rfl, rfl, by decide +kernel, by decide⟩
theorem k_X8_read_95 : KS RX8 wsX8_read rm_X8_read 95 yX8_isSheet wsX8_isSheet rm_X8_isSheet 1 := ⟨_, _, _, _, gX8_read_X8_isSheet, rfl, rfl, rfl, by decide +kernel, by decide⟩
theorem k_X8_read_98 : KV RX8 wsX8_read rm_X8_read 98 RX8 yX8_meets wsX8_meets rm_X8_meets 1 := ⟨_, _, _, _, gX8_read_X8_meets, rfl, rfl, rfl, by decide +kernel, by decide⟩
theorem k_X8_read_101 : KS RX8 wsX8_read rm_X8_read 101 yX8_byteOf wsX8_byteOf rm_X8_byteOf 1 := ⟨_, _, _, _, gX8_read_X8_byteOf, rfl, rfl, rfl, by decide +kernel, by decide⟩

set_option maxHeartbeats 4000000 in
set_option maxRecDepth 100000 in
theorem c_X8_read {l : Launch} {V : ab_V} {mu : ab_mem} {s g z : Nat} (hV : ab_OK V ShM) (hs : s < 4) (hg : g < 3) (hz48 : z ≤ 48) (hz : mu 16 s = nI z) (hth : mu 14 s = 1) : CT l V ShM yX8_read wsX8_read rm_X8_read [.ref (aL V 0), .int (nI s), .int (nI g)] mu (pI (fun r mu2 => r = nI (rdF (fun k => mu 17 (48 * s + k)) 0 (min z 24)) ∧ mu2 = ab_up (rdM mu s g (rdF (fun k => mu 17 (48 * s + k)) 0 (min z 24))) 1 g (nI (rdF (fun k => mu 17 (48 * s + k)) 0 (min z 24))))) := by
  refine ab_enter hV (by decide) rfl (Nat.le_of_ble_eq_true rfl) ?_
  intro X B E
  have B : CX X l rm_X8_read RX8 cX8_read wsX8_read 4 V ShM := B
  show AW X V ShM 4 0 [some (.ref (aL V 0)), some (.int (nI s)), some (.int (nI g)), none] [] mu
  obtain ⟨R, hR⟩ : ∃ R, (rdF (fun k => mu 17 (48 * s + k)) 0 (min z 24)) = R := ⟨_, rfl⟩
  rw [hR] at E
  have k98 : AW X V ShM 4 98 [some (.ref (aL V 0)), some (.int (nI s)), some (.int (nI g)), some (.int (nI R))] [] (rdM mu s g R) := by
      refine a_aload_n B dX8_read_98 rfl ?_
      refine a_getr B fl_X8_read_7 (by first | rfl | assumption) rfl dX8_read_99 ?_
      refine a_iload_n B dX8_read_102 rfl ?_
      refine a_iload_n B dX8_read_103 rfl ?_
      refine a_iastN B (g) (by first | rfl | assumption) rfl (by omega) (by decide)  dX8_read_104 ?_
      refine a_iload_n B dX8_read_105 rfl ?_
      refine a_ireturn B E dX8_read_106 ?_
      exact ⟨rfl, rfl⟩
  have loop : ∀ (m j : Nat), j + m = min z 24 → j + rdF (fun k => mu 17 (48 * s + k)) j m = R → AW X V ShM 4 34 [some (.ref (aL V 0)), some (.int (nI s)), some (.int (nI g)), some (.int (nI j))] [] (rdM mu s g j) := by
    intro m
    induction m with
    | zero =>
      intro j hj hf
      refine a_iload_n B dX8_read_34 rfl ?_
      refine a_aload_n B dX8_read_35 rfl ?_
      refine a_getr B fl_X8_read_56 (by first | rfl | assumption) rfl dX8_read_36 ?_
      refine a_iload_n B dX8_read_39 rfl ?_
      refine a_ialdN B (s) (by first | rfl | assumption) rfl (by omega) (by decide) dX8_read_40 ?_
      rw [rdM_o (by decide), hz]
      refine a_icmp_ge (tgt := 98) B dX8_read_41 (by decide) (fun c41 => ?_) (fun c41 => ?_)
      · rw [show j = R from hf]
        exact k98
      · refine a_iload_n B dX8_read_44 rfl ?_
        refine a_bipush (v := 24) B dX8_read_45 (by decide) ?_
        refine a_icmp_ge (tgt := 98) B dX8_read_47 (by decide) (fun c47 => ?_) (fun c47 => ?_)
        · rw [show j = R from hf]
          exact k98
        · exfalso
          have q1 : j < z := Nat.lt_of_not_le fun q => c41 (nI_le q (by omega))
          have q2 : j < 24 := Nat.lt_of_not_le fun q => c47 (nI_le (a := 24) q (by omega))
          omega
    | succ m ih =>
      intro j hj hf
      refine a_iload_n B dX8_read_34 rfl ?_
      refine a_aload_n B dX8_read_35 rfl ?_
      refine a_getr B fl_X8_read_56 (by first | rfl | assumption) rfl dX8_read_36 ?_
      refine a_iload_n B dX8_read_39 rfl ?_
      refine a_ialdN B (s) (by first | rfl | assumption) rfl (by omega) (by decide) dX8_read_40 ?_
      refine a_icmp_ge_f (tgt := 98) B dX8_read_41 (by decide) (by rw [rdM_o (by decide), hz]; exact nI_ge (by omega) (by omega)) ?_
      refine a_iload_n B dX8_read_44 rfl ?_
      refine a_bipush (v := 24) B dX8_read_45 (by decide) ?_
      refine a_icmp_ge_f (tgt := 98) B dX8_read_47 (by decide) (nI_ge (a := j) (b := 24) (by omega) (by decide)) ?_
      refine a_aload_n B dX8_read_50 rfl ?_
      refine a_getr B fl_X8_read_59 (by first | rfl | assumption) rfl dX8_read_51 ?_
      refine a_bipush (v := 48) B dX8_read_54 (by decide) ?_
      refine a_iload_n B dX8_read_56 rfl ?_
      refine a_imul B dX8_read_57 ?_
      refine a_iload_n B dX8_read_58 rfl ?_
      refine a_iadd B dX8_read_59 ?_
      refine a_ialdN B (48 * s + j) (by first | rfl | assumption) (ix48 s j) (by omega) (by decide) dX8_read_60 ?_
      rw [rdM_o (by decide)]
      refine a_callSi B k_X8_read_86 (c_X8_isDish hV) rfl rfl (Nat.le_of_ble_eq_true rfl) dX8_read_61 (fun r61 mu61 h61 => ?_)
      obtain ⟨rfl, rfl⟩ := h61
      refine a_if_eq (tgt := 98) B dX8_read_64 (by decide) (fun c64 => ?_) (fun c64 => ?_)
      · have e : j = R := by rw [← hf, rdF, if_neg (by rw [bI_0.mp c64]; decide)]; rfl
        rw [e]
        exact k98
      · refine a_aload_n B dX8_read_67 rfl ?_
        refine a_getr B fl_X8_read_13 (by first | rfl | assumption) rfl dX8_read_68 ?_
        refine a_bipush (v := 24) B dX8_read_71 (by decide) ?_
        refine a_iload_n B dX8_read_73 rfl ?_
        refine a_imul B dX8_read_74 ?_
        refine a_iload_n B dX8_read_75 rfl ?_
        refine a_iadd B dX8_read_76 ?_
        refine a_aload_n B dX8_read_77 rfl ?_
        refine a_getr B fl_X8_read_59 (by first | rfl | assumption) rfl dX8_read_78 ?_
        refine a_bipush (v := 48) B dX8_read_81 (by decide) ?_
        refine a_iload_n B dX8_read_83 rfl ?_
        refine a_imul B dX8_read_84 ?_
        refine a_iload_n B dX8_read_85 rfl ?_
        refine a_iadd B dX8_read_86 ?_
        refine a_ialdN B (48 * s + j) (by first | rfl | assumption) (ix48 s j) (by omega) (by decide) dX8_read_87 ?_
        rw [rdM_o (by decide)]
        refine a_callSi B k_X8_read_101 (c_X8_byteOf hV) rfl rfl (Nat.le_of_ble_eq_true rfl) dX8_read_88 (fun r88 mu88 h88 => ?_)
        obtain ⟨rfl, rfl⟩ := h88
        refine a_iastN B (24 * g + j) (by first | rfl | assumption) (ix24 g j) (by omega) (by decide)  dX8_read_91 ?_
        refine a_iinc (v := 1) B dX8_read_92 rfl (by decide) (by decide) ?_
        refine a_goto (tgt := 34) B dX8_read_95 (by decide) ?_
        rw [nI_1, rdM_s]
        refine ih (j + 1) (by omega) ?_
        rw [← hf, rdF, if_pos (bI_n0.mp c64)]
        omega
  refine a_iload_n B dX8_read_0 rfl ?_
  refine a_callSi B k_X8_read_95 (c_X8_isSheet hV) rfl rfl (Nat.le_of_ble_eq_true rfl) dX8_read_1 (fun r1 mu1 h1 => ?_)
  obtain ⟨rfl, rfl⟩ := h1
  refine a_if_eq_f (tgt := 14) B dX8_read_4 (by decide) (bI_n0.mpr (inB_nI (n := 3) (by omega) (by decide))) ?_
  refine a_iload_n B dX8_read_7 rfl ?_
  refine a_callSi B k_X8_read_75 (c_X8_isGeneral hV) rfl rfl (Nat.le_of_ble_eq_true rfl) dX8_read_8 (fun r8 mu8 h8 => ?_)
  obtain ⟨rfl, rfl⟩ := h8
  refine a_if_ne_t (tgt := 17) B dX8_read_11 (by decide) (bI_n0.mpr (inB_nI (n := 2) (by omega) (by decide))) ?_
  refine a_aload_n B dX8_read_17 rfl ?_
  refine a_getr B fl_X8_read_50 (by first | rfl | assumption) rfl dX8_read_18 ?_
  refine a_iload_n B dX8_read_21 rfl ?_
  refine a_zaldN B (s) (by first | rfl | assumption) rfl (by omega) (by decide) dX8_read_22 ?_
  refine a_if_ne_t (tgt := 32) B dX8_read_23 (by decide) (by rw [hth]; decide) ?_
  refine a_iconst (v := 0) B dX8_read_32 (by decide) ?_
  refine a_istore_n B dX8_read_33 (by decide) ?_
  rw [show AW X V ShM 4 34 _ [] mu = AW X V ShM 4 34 _ [] (rdM mu s g 0) from by rw [rdM_0]]
  exact loop (min z 24) 0 (by omega) (by rw [Nat.zero_add]; exact hR)
set_option maxHeartbeats 4000000 in
set_option maxRecDepth 100000 in
theorem c_X8_read_no {l : Launch} {V : ab_V} {mu : ab_mem} {s g : Nat} (hV : ab_OK V ShM) (hs : s < 4) (hg : g < 3) (hth : mu 14 s = 0) : CT l V ShM yX8_read wsX8_read rm_X8_read [.ref (aL V 0), .int (nI s), .int (nI g)] mu (pI (fun r mu2 => r = -11 ∧ mu2 = ab_up mu 0 22 1)) := by
  refine ab_enter hV (by decide) rfl (Nat.le_of_ble_eq_true rfl) ?_
  intro X B E
  have B : CX X l rm_X8_read RX8 cX8_read wsX8_read 4 V ShM := B
  show AW X V ShM 4 0 [some (.ref (aL V 0)), some (.int (nI s)), some (.int (nI g)), none] [] mu
  refine a_iload_n B dX8_read_0 rfl ?_
  refine a_callSi B k_X8_read_95 (c_X8_isSheet hV) rfl rfl (Nat.le_of_ble_eq_true rfl) dX8_read_1 (fun r1 mu1 h1 => ?_)
  obtain ⟨rfl, rfl⟩ := h1
  refine a_if_eq_f (tgt := 14) B dX8_read_4 (by decide) (bI_n0.mpr (inB_nI (n := 3) (by omega) (by decide))) ?_
  refine a_iload_n B dX8_read_7 rfl ?_
  refine a_callSi B k_X8_read_75 (c_X8_isGeneral hV) rfl rfl (Nat.le_of_ble_eq_true rfl) dX8_read_8 (fun r8 mu8 h8 => ?_)
  obtain ⟨rfl, rfl⟩ := h8
  refine a_if_ne_t (tgt := 17) B dX8_read_11 (by decide) (bI_n0.mpr (inB_nI (n := 2) (by omega) (by decide))) ?_
  refine a_aload_n B dX8_read_17 rfl ?_
  refine a_getr B fl_X8_read_50 (by first | rfl | assumption) rfl dX8_read_18 ?_
  refine a_iload_n B dX8_read_21 rfl ?_
  refine a_zaldN B (s) (by first | rfl | assumption) rfl (by omega) (by decide) dX8_read_22 ?_
  refine a_if_ne_f (tgt := 32) B dX8_read_23 (by decide) (hth) ?_
  refine a_aload_n B dX8_read_26 rfl ?_
  refine a_iconst (v := 1) B dX8_read_27 (by decide) ?_
  refine a_callVi B k_X8_read_98 (c_X8_meets hV) (by first | rfl | assumption) rfl rfl rfl (Nat.le_of_ble_eq_true rfl) dX8_read_28 (fun r28 mu28 h28 => ?_)
  refine a_ireturn B E dX8_read_31 ?_
  exact ⟨h28.1, h28.2⟩
set_option maxHeartbeats 4000000 in
set_option maxRecDepth 100000 in
theorem c_X8_read_bad {l : Launch} {V : ab_V} {mu : ab_mem} {a b : Int32} (hV : ab_OK V ShM) (hbad : ¬ (inB a 0 3 = true ∧ inB b 0 2 = true)) : CT l V ShM yX8_read wsX8_read rm_X8_read [.ref (aL V 0), .int a, .int b] mu (pI (fun r mu2 => r = -2 ∧ mu = mu2)) := by
  refine ab_enter hV (by decide) rfl (Nat.le_of_ble_eq_true rfl) ?_
  intro X B E
  have B : CX X l rm_X8_read RX8 cX8_read wsX8_read 4 V ShM := B
  show AW X V ShM 4 0 [some (.ref (aL V 0)), some (.int a), some (.int b), none] [] mu
  refine a_iload_n B dX8_read_0 rfl ?_
  refine a_callSi B k_X8_read_95 (c_X8_isSheet hV) rfl rfl (Nat.le_of_ble_eq_true rfl) dX8_read_1 (fun r1 mu1 h1 => ?_)
  obtain ⟨rfl, rfl⟩ := h1
  refine a_if_eq (tgt := 14) B dX8_read_4 (by decide) (fun c4 => ?_) (fun c4 => ?_)
  · refine a_bipush (v := -2) B dX8_read_14 (by decide) ?_
    refine a_ireturn B E dX8_read_16 ?_
    exact ⟨rfl, rfl⟩
  · refine a_iload_n B dX8_read_7 rfl ?_
    refine a_callSi B k_X8_read_75 (c_X8_isGeneral hV) rfl rfl (Nat.le_of_ble_eq_true rfl) dX8_read_8 (fun r8 mu8 h8 => ?_)
    obtain ⟨rfl, rfl⟩ := h8
    refine a_if_ne (tgt := 17) B dX8_read_11 (by decide) (fun c11 => ?_) (fun c11 => ?_)
    · exfalso
      simp_all [bI_0, bI_n0]
    · refine a_bipush (v := -2) B dX8_read_14 (by decide) ?_
      refine a_ireturn B E dX8_read_16 ?_
      exact ⟨rfl, rfl⟩
def shM (mu : ab_mem) (s : Nat) (fo z : Int32) (n : Nat) : ab_mem := ab_row (ab_up (ab_up (ab_up mu 14 s 1) 15 s fo) 16 s z) 17 (fb_put (mu 17) (fun _ => 0) (48 * s) n)
theorem shM_0 {mu : ab_mem} {s : Nat} {fo z : Int32} : shM mu s fo z 0 = ab_up (ab_up (ab_up mu 14 s 1) 15 s fo) 16 s z := by
  have e : (ab_up (ab_up (ab_up mu 14 s 1) 15 s fo) 16 s z) 17 = mu 17 := by rw [ab_up_o (by decide), ab_up_o (by decide), ab_up_o (by decide)]
  rw [shM, fb_put_0, ← e, ab_row_self]
theorem shM_s {mu : ab_mem} {s n : Nat} {fo z : Int32} : ab_up (shM mu s fo z n) 17 (48 * s + n) 0 = shM mu s fo z (n + 1) := by
  rw [shM, ab_up_row, fb_put_succ (mu 17) (fun _ => 0)]
  rfl
abbrev rm_X8_sheet : Room := { frames := 2, cells := 0, slots := 0, locals := 42 }
set_option maxRecDepth 20000 in
theorem us_X8_sheet_8 : ∀ w ∈ u_ws RX8 TX8 23, w ∈ wsX8_sheet := by decide +kernel
set_option maxRecDepth 20000 in
theorem fl_X8_sheet_50 : FL RX8 wsX8_sheet 50 8 17 := ⟨RX8, TX8, 23, rfl, by decide, us_X8_sheet_8, by decide +kernel⟩
set_option maxRecDepth 20000 in
theorem fl_X8_sheet_53 : FL RX8 wsX8_sheet 53 8 18 := ⟨RX8, TX8, 23, rfl, by decide, us_X8_sheet_8, by decide +kernel⟩
set_option maxRecDepth 20000 in
theorem fl_X8_sheet_56 : FL RX8 wsX8_sheet 56 8 19 := ⟨RX8, TX8, 23, rfl, by decide, us_X8_sheet_8, by decide +kernel⟩
set_option maxRecDepth 20000 in
theorem fl_X8_sheet_59 : FL RX8 wsX8_sheet 59 8 20 := ⟨RX8, TX8, 23, rfl, by decide, us_X8_sheet_8, by decide +kernel⟩
theorem k_X8_sheet_71 : KS RX8 wsX8_sheet rm_X8_sheet 71 yX8_in wsX8_in rm_X8_in 3 := ⟨_, _, _, _, gX8_sheet_X8_in, rfl, rfl, rfl, by decide +kernel, by decide⟩
theorem k_X8_sheet_95 : KS RX8 wsX8_sheet rm_X8_sheet 95 yX8_isSheet wsX8_isSheet rm_X8_isSheet 1 := ⟨_, _, _, _, gX8_sheet_X8_isSheet, rfl, rfl, rfl, by decide +kernel, by decide⟩
theorem k_X8_sheet_98 : KV RX8 wsX8_sheet rm_X8_sheet 98 RX8 yX8_meets wsX8_meets rm_X8_meets 1 := ⟨_, _, _, _, gX8_sheet_X8_meets, rfl, rfl, rfl, by decide +kernel, by decide⟩

set_option maxHeartbeats 4000000 in
set_option maxRecDepth 100000 in
theorem c_X8_sheet {l : Launch} {V : ab_V} {mu : ab_mem} {s : Nat} {fo z : Int32} (hV : ab_OK V ShM) (hs : s < 4) (hfo : inB fo 0 2 = true) (hn48 : z ≤ 48) (hn0 : 0 ≤ z) : CT l V ShM yX8_sheet wsX8_sheet rm_X8_sheet [.ref (aL V 0), .int (nI s), .int fo, .int z] mu (pI (fun r mu2 => r = z ∧ mu2 = shM mu s fo z 48)) := by
  refine ab_enter hV (by decide) rfl (Nat.le_of_ble_eq_true rfl) ?_
  intro X B E
  have B : CX X l rm_X8_sheet RX8 cX8_sheet wsX8_sheet 5 V ShM := B
  show AW X V ShM 5 0 [some (.ref (aL V 0)), some (.int (nI s)), some (.int fo), some (.int z), none] [] mu
  have loop : ∀ (m j : Nat), j + m = 48 → AW X V ShM 5 59 [some (.ref (aL V 0)), some (.int (nI s)), some (.int fo), some (.int z), some (.int (nI j))] [] (shM mu s fo z j) := by
    intro m
    induction m with
    | zero =>
      intro j hj
      have e : j = 48 := by omega
      subst e
      refine a_iload B dX8_sheet_59 rfl ?_
      refine a_bipush (v := 48) B dX8_sheet_61 (by decide) ?_
      refine a_icmp_ge_t (tgt := 85) B dX8_sheet_63 (by decide) (by decide) ?_
      refine a_iload_n B dX8_sheet_85 rfl ?_
      refine a_ireturn B E dX8_sheet_86 ?_
      exact ⟨rfl, rfl⟩
    | succ m ih =>
      intro j hj
      refine a_iload B dX8_sheet_59 rfl ?_
      refine a_bipush (v := 48) B dX8_sheet_61 (by decide) ?_
      refine a_icmp_ge_f (tgt := 85) B dX8_sheet_63 (by decide) (nI_ge (a := j) (b := 48) (by omega) (by decide)) ?_
      refine a_aload_n B dX8_sheet_66 rfl ?_
      refine a_getr B fl_X8_sheet_59 (by first | rfl | assumption) rfl dX8_sheet_67 ?_
      refine a_bipush (v := 48) B dX8_sheet_70 (by decide) ?_
      refine a_iload_n B dX8_sheet_72 rfl ?_
      refine a_imul B dX8_sheet_73 ?_
      refine a_iload B dX8_sheet_74 rfl ?_
      refine a_iadd B dX8_sheet_76 ?_
      refine a_iconst (v := 0) B dX8_sheet_77 (by decide) ?_
      refine a_iastN B (48 * s + j) (by first | rfl | assumption) (ix48 s j) (by omega) (by decide)  dX8_sheet_78 ?_
      refine a_iinc (v := 1) B dX8_sheet_79 rfl (by decide) (by decide) ?_
      refine a_goto (tgt := 59) B dX8_sheet_82 (by decide) ?_
      rw [nI_1, shM_s]
      exact ih (j + 1) (by omega)
  refine a_iload_n B dX8_sheet_0 rfl ?_
  refine a_callSi B k_X8_sheet_95 (c_X8_isSheet hV) rfl rfl (Nat.le_of_ble_eq_true rfl) dX8_sheet_1 (fun r1 mu1 h1 => ?_)
  obtain ⟨rfl, rfl⟩ := h1
  refine a_if_eq_f (tgt := 22) B dX8_sheet_4 (by decide) (bI_n0.mpr (inB_nI (n := 3) (by omega) (by decide))) ?_
  refine a_iload_n B dX8_sheet_7 rfl ?_
  refine a_iconst (v := 0) B dX8_sheet_8 (by decide) ?_
  refine a_iconst (v := 2) B dX8_sheet_9 (by decide) ?_
  refine a_callSi B k_X8_sheet_71 (c_X8_in hV) rfl rfl (Nat.le_of_ble_eq_true rfl) dX8_sheet_10 (fun r10 mu10 h10 => ?_)
  obtain ⟨rfl, rfl⟩ := h10
  refine a_if_eq_f (tgt := 22) B dX8_sheet_13 (by decide) (bI_n0.mpr hfo) ?_
  refine a_iload_n B dX8_sheet_16 rfl ?_
  refine a_bipush (v := 48) B dX8_sheet_17 (by decide) ?_
  refine a_icmp_le_t (tgt := 25) B dX8_sheet_19 (by decide) (hn48) ?_
  refine a_iload_n B dX8_sheet_25 rfl ?_
  refine a_if_ge_t (tgt := 35) B dX8_sheet_26 (by decide) (hn0) ?_
  refine a_aload_n B dX8_sheet_35 rfl ?_
  refine a_getr B fl_X8_sheet_50 (by first | rfl | assumption) rfl dX8_sheet_36 ?_
  refine a_iload_n B dX8_sheet_39 rfl ?_
  refine a_iconst (v := 1) B dX8_sheet_40 (by decide) ?_
  refine a_zastN B (s) (by first | rfl | assumption) rfl (by omega) (by decide) rfl dX8_sheet_41 ?_
  refine a_aload_n B dX8_sheet_42 rfl ?_
  refine a_getr B fl_X8_sheet_53 (by first | rfl | assumption) rfl dX8_sheet_43 ?_
  refine a_iload_n B dX8_sheet_46 rfl ?_
  refine a_iload_n B dX8_sheet_47 rfl ?_
  refine a_iastN B (s) (by first | rfl | assumption) rfl (by omega) (by decide)  dX8_sheet_48 ?_
  refine a_aload_n B dX8_sheet_49 rfl ?_
  refine a_getr B fl_X8_sheet_56 (by first | rfl | assumption) rfl dX8_sheet_50 ?_
  refine a_iload_n B dX8_sheet_53 rfl ?_
  refine a_iload_n B dX8_sheet_54 rfl ?_
  refine a_iastN B (s) (by first | rfl | assumption) rfl (by omega) (by decide)  dX8_sheet_55 ?_
  refine a_iconst (v := 0) B dX8_sheet_56 (by decide) ?_
  refine a_istore B dX8_sheet_57 (by decide) ?_
  rw [show AW X V ShM 5 59 _ [] (ab_up (ab_up (ab_up mu 14 s 1) 15 s fo) 16 s z) = AW X V ShM 5 59 _ [] (shM mu s fo z 0) from by rw [shM_0]]
  exact loop 48 0 rfl
set_option maxHeartbeats 4000000 in
set_option maxRecDepth 100000 in
theorem c_X8_sheet_no {l : Launch} {V : ab_V} {mu : ab_mem} {s : Nat} {fo z : Int32} (hV : ab_OK V ShM) (hs : s < 4) (hfo : inB fo 0 2 = true) (hn48 : z ≤ 48) (hn0 : ¬ 0 ≤ z) : CT l V ShM yX8_sheet wsX8_sheet rm_X8_sheet [.ref (aL V 0), .int (nI s), .int fo, .int z] mu (pI (fun r mu2 => r = -15 ∧ mu2 = ab_up mu 0 22 5)) := by
  refine ab_enter hV (by decide) rfl (Nat.le_of_ble_eq_true rfl) ?_
  intro X B E
  have B : CX X l rm_X8_sheet RX8 cX8_sheet wsX8_sheet 5 V ShM := B
  show AW X V ShM 5 0 [some (.ref (aL V 0)), some (.int (nI s)), some (.int fo), some (.int z), none] [] mu
  refine a_iload_n B dX8_sheet_0 rfl ?_
  refine a_callSi B k_X8_sheet_95 (c_X8_isSheet hV) rfl rfl (Nat.le_of_ble_eq_true rfl) dX8_sheet_1 (fun r1 mu1 h1 => ?_)
  obtain ⟨rfl, rfl⟩ := h1
  refine a_if_eq_f (tgt := 22) B dX8_sheet_4 (by decide) (bI_n0.mpr (inB_nI (n := 3) (by omega) (by decide))) ?_
  refine a_iload_n B dX8_sheet_7 rfl ?_
  refine a_iconst (v := 0) B dX8_sheet_8 (by decide) ?_
  refine a_iconst (v := 2) B dX8_sheet_9 (by decide) ?_
  refine a_callSi B k_X8_sheet_71 (c_X8_in hV) rfl rfl (Nat.le_of_ble_eq_true rfl) dX8_sheet_10 (fun r10 mu10 h10 => ?_)
  obtain ⟨rfl, rfl⟩ := h10
  refine a_if_eq_f (tgt := 22) B dX8_sheet_13 (by decide) (bI_n0.mpr hfo) ?_
  refine a_iload_n B dX8_sheet_16 rfl ?_
  refine a_bipush (v := 48) B dX8_sheet_17 (by decide) ?_
  refine a_icmp_le_t (tgt := 25) B dX8_sheet_19 (by decide) (hn48) ?_
  refine a_iload_n B dX8_sheet_25 rfl ?_
  refine a_if_ge_f (tgt := 35) B dX8_sheet_26 (by decide) (hn0) ?_
  refine a_aload_n B dX8_sheet_29 rfl ?_
  refine a_iconst (v := 5) B dX8_sheet_30 (by decide) ?_
  refine a_callVi B k_X8_sheet_98 (c_X8_meets hV) (by first | rfl | assumption) rfl rfl rfl (Nat.le_of_ble_eq_true rfl) dX8_sheet_31 (fun r31 mu31 h31 => ?_)
  refine a_ireturn B E dX8_sheet_34 ?_
  exact ⟨h31.1, h31.2⟩
set_option maxHeartbeats 4000000 in
set_option maxRecDepth 100000 in
theorem c_X8_sheet_bad {l : Launch} {V : ab_V} {mu : ab_mem} {a fo z : Int32} (hV : ab_OK V ShM) (hbad : ¬ (inB a 0 3 = true ∧ inB fo 0 2 = true ∧ z ≤ 48)) : CT l V ShM yX8_sheet wsX8_sheet rm_X8_sheet [.ref (aL V 0), .int a, .int fo, .int z] mu (pI (fun r mu2 => r = -2 ∧ mu = mu2)) := by
  refine ab_enter hV (by decide) rfl (Nat.le_of_ble_eq_true rfl) ?_
  intro X B E
  have B : CX X l rm_X8_sheet RX8 cX8_sheet wsX8_sheet 5 V ShM := B
  show AW X V ShM 5 0 [some (.ref (aL V 0)), some (.int a), some (.int fo), some (.int z), none] [] mu
  refine a_iload_n B dX8_sheet_0 rfl ?_
  refine a_callSi B k_X8_sheet_95 (c_X8_isSheet hV) rfl rfl (Nat.le_of_ble_eq_true rfl) dX8_sheet_1 (fun r1 mu1 h1 => ?_)
  obtain ⟨rfl, rfl⟩ := h1
  refine a_if_eq (tgt := 22) B dX8_sheet_4 (by decide) (fun c4 => ?_) (fun c4 => ?_)
  · refine a_bipush (v := -2) B dX8_sheet_22 (by decide) ?_
    refine a_ireturn B E dX8_sheet_24 ?_
    exact ⟨rfl, rfl⟩
  · refine a_iload_n B dX8_sheet_7 rfl ?_
    refine a_iconst (v := 0) B dX8_sheet_8 (by decide) ?_
    refine a_iconst (v := 2) B dX8_sheet_9 (by decide) ?_
    refine a_callSi B k_X8_sheet_71 (c_X8_in hV) rfl rfl (Nat.le_of_ble_eq_true rfl) dX8_sheet_10 (fun r10 mu10 h10 => ?_)
    obtain ⟨rfl, rfl⟩ := h10
    refine a_if_eq (tgt := 22) B dX8_sheet_13 (by decide) (fun c13 => ?_) (fun c13 => ?_)
    · refine a_bipush (v := -2) B dX8_sheet_22 (by decide) ?_
      refine a_ireturn B E dX8_sheet_24 ?_
      exact ⟨rfl, rfl⟩
    · refine a_iload_n B dX8_sheet_16 rfl ?_
      refine a_bipush (v := 48) B dX8_sheet_17 (by decide) ?_
      refine a_icmp_le (tgt := 25) B dX8_sheet_19 (by decide) (fun c19 => ?_) (fun c19 => ?_)
      · exfalso
        simp_all [bI_0, bI_n0]
      · refine a_bipush (v := -2) B dX8_sheet_22 (by decide) ?_
        refine a_ireturn B E dX8_sheet_24 ?_
        exact ⟨rfl, rfl⟩
abbrev rm_X8_lose : Room := { frames := 2, cells := 0, slots := 0, locals := 42 }
set_option maxRecDepth 20000 in
theorem us_X8_lose_8 : ∀ w ∈ u_ws RX8 TX8 23, w ∈ wsX8_lose := by decide +kernel
set_option maxRecDepth 20000 in
theorem fl_X8_lose_50 : FL RX8 wsX8_lose 50 8 17 := ⟨RX8, TX8, 23, rfl, by decide, us_X8_lose_8, by decide +kernel⟩
set_option maxRecDepth 20000 in
theorem fl_X8_lose_56 : FL RX8 wsX8_lose 56 8 19 := ⟨RX8, TX8, 23, rfl, by decide, us_X8_lose_8, by decide +kernel⟩
theorem k_X8_lose_95 : KS RX8 wsX8_lose rm_X8_lose 95 yX8_isSheet wsX8_isSheet rm_X8_isSheet 1 := ⟨_, _, _, _, gX8_lose_X8_isSheet, rfl, rfl, rfl, by decide +kernel, by decide⟩
theorem k_X8_lose_98 : KV RX8 wsX8_lose rm_X8_lose 98 RX8 yX8_meets wsX8_meets rm_X8_meets 1 := ⟨_, _, _, _, gX8_lose_X8_meets, rfl, rfl, rfl, by decide +kernel, by decide⟩

set_option maxHeartbeats 4000000 in
set_option maxRecDepth 100000 in
theorem c_X8_lose {l : Launch} {V : ab_V} {mu : ab_mem} {s : Nat} (hV : ab_OK V ShM) (hs : s < 4) (hth : mu 14 s = 1) : CT l V ShM yX8_lose wsX8_lose rm_X8_lose [.ref (aL V 0), .int (nI s)] mu (pI (fun r mu2 => r = mu 16 s ∧ mu2 = ab_up mu 14 s 0)) := by
  refine ab_enter hV (by decide) rfl (Nat.le_of_ble_eq_true rfl) ?_
  intro X B E
  have B : CX X l rm_X8_lose RX8 cX8_lose wsX8_lose 2 V ShM := B
  show AW X V ShM 2 0 [some (.ref (aL V 0)), some (.int (nI s))] [] mu
  refine a_iload_n B dX8_lose_0 rfl ?_
  refine a_callSi B k_X8_lose_95 (c_X8_isSheet hV) rfl rfl (Nat.le_of_ble_eq_true rfl) dX8_lose_1 (fun r1 mu1 h1 => ?_)
  obtain ⟨rfl, rfl⟩ := h1
  refine a_if_ne_t (tgt := 10) B dX8_lose_4 (by decide) (bI_n0.mpr (inB_nI (n := 3) (by omega) (by decide))) ?_
  refine a_aload_n B dX8_lose_10 rfl ?_
  refine a_getr B fl_X8_lose_50 (by first | rfl | assumption) rfl dX8_lose_11 ?_
  refine a_iload_n B dX8_lose_14 rfl ?_
  refine a_zaldN B (s) (by first | rfl | assumption) rfl (by omega) (by decide) dX8_lose_15 ?_
  refine a_if_ne_t (tgt := 25) B dX8_lose_16 (by decide) (by rw [hth]; decide) ?_
  refine a_aload_n B dX8_lose_25 rfl ?_
  refine a_getr B fl_X8_lose_50 (by first | rfl | assumption) rfl dX8_lose_26 ?_
  refine a_iload_n B dX8_lose_29 rfl ?_
  refine a_iconst (v := 0) B dX8_lose_30 (by decide) ?_
  refine a_zastN B (s) (by first | rfl | assumption) rfl (by omega) (by decide) rfl dX8_lose_31 ?_
  refine a_aload_n B dX8_lose_32 rfl ?_
  refine a_getr B fl_X8_lose_56 (by first | rfl | assumption) rfl dX8_lose_33 ?_
  refine a_iload_n B dX8_lose_36 rfl ?_
  refine a_ialdN B (s) (by first | rfl | assumption) rfl (by omega) (by decide) dX8_lose_37 ?_
  refine a_ireturn B E dX8_lose_38 ?_
  exact ⟨by rw [ab_up_o (by decide)], rfl⟩
set_option maxHeartbeats 4000000 in
set_option maxRecDepth 100000 in
theorem c_X8_lose_no {l : Launch} {V : ab_V} {mu : ab_mem} {s : Nat} (hV : ab_OK V ShM) (hs : s < 4) (hth : mu 14 s = 0) : CT l V ShM yX8_lose wsX8_lose rm_X8_lose [.ref (aL V 0), .int (nI s)] mu (pI (fun r mu2 => r = -11 ∧ mu2 = ab_up mu 0 22 1)) := by
  refine ab_enter hV (by decide) rfl (Nat.le_of_ble_eq_true rfl) ?_
  intro X B E
  have B : CX X l rm_X8_lose RX8 cX8_lose wsX8_lose 2 V ShM := B
  show AW X V ShM 2 0 [some (.ref (aL V 0)), some (.int (nI s))] [] mu
  refine a_iload_n B dX8_lose_0 rfl ?_
  refine a_callSi B k_X8_lose_95 (c_X8_isSheet hV) rfl rfl (Nat.le_of_ble_eq_true rfl) dX8_lose_1 (fun r1 mu1 h1 => ?_)
  obtain ⟨rfl, rfl⟩ := h1
  refine a_if_ne_t (tgt := 10) B dX8_lose_4 (by decide) (bI_n0.mpr (inB_nI (n := 3) (by omega) (by decide))) ?_
  refine a_aload_n B dX8_lose_10 rfl ?_
  refine a_getr B fl_X8_lose_50 (by first | rfl | assumption) rfl dX8_lose_11 ?_
  refine a_iload_n B dX8_lose_14 rfl ?_
  refine a_zaldN B (s) (by first | rfl | assumption) rfl (by omega) (by decide) dX8_lose_15 ?_
  refine a_if_ne_f (tgt := 25) B dX8_lose_16 (by decide) (hth) ?_
  refine a_aload_n B dX8_lose_19 rfl ?_
  refine a_iconst (v := 1) B dX8_lose_20 (by decide) ?_
  refine a_callVi B k_X8_lose_98 (c_X8_meets hV) (by first | rfl | assumption) rfl rfl rfl (Nat.le_of_ble_eq_true rfl) dX8_lose_21 (fun r21 mu21 h21 => ?_)
  refine a_ireturn B E dX8_lose_24 ?_
  exact ⟨h21.1, h21.2⟩
set_option maxHeartbeats 4000000 in
set_option maxRecDepth 100000 in
theorem c_X8_lose_bad {l : Launch} {V : ab_V} {mu : ab_mem} {a : Int32} (hV : ab_OK V ShM) (hbad : ¬ inB a 0 3 = true) : CT l V ShM yX8_lose wsX8_lose rm_X8_lose [.ref (aL V 0), .int a] mu (pI (fun r mu2 => r = -2 ∧ mu = mu2)) := by
  refine ab_enter hV (by decide) rfl (Nat.le_of_ble_eq_true rfl) ?_
  intro X B E
  have B : CX X l rm_X8_lose RX8 cX8_lose wsX8_lose 2 V ShM := B
  show AW X V ShM 2 0 [some (.ref (aL V 0)), some (.int a)] [] mu
  refine a_iload_n B dX8_lose_0 rfl ?_
  refine a_callSi B k_X8_lose_95 (c_X8_isSheet hV) rfl rfl (Nat.le_of_ble_eq_true rfl) dX8_lose_1 (fun r1 mu1 h1 => ?_)
  obtain ⟨rfl, rfl⟩ := h1
  refine a_if_ne (tgt := 10) B dX8_lose_4 (by decide) (fun c4 => ?_) (fun c4 => ?_)
  · exfalso
    simp_all [bI_0, bI_n0]
  · refine a_bipush (v := -2) B dX8_lose_7 (by decide) ?_
    refine a_ireturn B E dX8_lose_9 ?_
    exact ⟨rfl, rfl⟩
def lkS (th : Int32) (fo fo2 : Int32) (z i : Int32) : Int32 := if th = 0 then 1 else if fo = fo2 then (if inB i 0 (z - 1) then 0 else 2) else 3
def cvF (fo v : Int32) : Int32 := if fo = 0 then v.toInt8.toInt32 else if fo = 1 then v.toInt16.toInt32 else v
abbrev rm_X8_lacks : Room := { frames := 1, cells := 0, slots := 0, locals := 22 }
set_option maxRecDepth 20000 in
theorem us_X8_lacks_8 : ∀ w ∈ u_ws RX8 TX8 23, w ∈ wsX8_lacks := by decide +kernel
set_option maxRecDepth 20000 in
theorem fl_X8_lacks_50 : FL RX8 wsX8_lacks 50 8 17 := ⟨RX8, TX8, 23, rfl, by decide, us_X8_lacks_8, by decide +kernel⟩
set_option maxRecDepth 20000 in
theorem fl_X8_lacks_53 : FL RX8 wsX8_lacks 53 8 18 := ⟨RX8, TX8, 23, rfl, by decide, us_X8_lacks_8, by decide +kernel⟩
set_option maxRecDepth 20000 in
theorem fl_X8_lacks_56 : FL RX8 wsX8_lacks 56 8 19 := ⟨RX8, TX8, 23, rfl, by decide, us_X8_lacks_8, by decide +kernel⟩
theorem k_X8_lacks_71 : KS RX8 wsX8_lacks rm_X8_lacks 71 yX8_in wsX8_in rm_X8_in 3 := ⟨_, _, _, _, gX8_lacks_X8_in, rfl, rfl, rfl, by decide +kernel, by decide⟩

set_option maxHeartbeats 4000000 in
set_option maxRecDepth 100000 in
theorem c_X8_lacks {l : Launch} {V : ab_V} {mu : ab_mem} {s : Nat} {fo i : Int32} (hV : ab_OK V ShM) (hs : s < 4) : CT l V ShM yX8_lacks wsX8_lacks rm_X8_lacks [.ref (aL V 0), .int (nI s), .int fo, .int i] mu (pI (fun r mu2 => r = lkS (mu 14 s) (mu 15 s) fo (mu 16 s) i ∧ mu = mu2)) := by
  refine ab_enter hV (by decide) rfl (Nat.le_of_ble_eq_true rfl) ?_
  intro X B E
  have B : CX X l rm_X8_lacks RX8 cX8_lacks wsX8_lacks 4 V ShM := B
  show AW X V ShM 4 0 [some (.ref (aL V 0)), some (.int (nI s)), some (.int fo), some (.int i)] [] mu
  refine a_aload_n B dX8_lacks_0 rfl ?_
  refine a_getr B fl_X8_lacks_50 (by first | rfl | assumption) rfl dX8_lacks_1 ?_
  refine a_iload_n B dX8_lacks_4 rfl ?_
  refine a_zaldN B (s) (by first | rfl | assumption) rfl (by omega) (by decide) dX8_lacks_5 ?_
  refine a_if_ne (tgt := 13) B dX8_lacks_6 (by decide) (fun c6 => ?_) (fun c6 => ?_)
  · refine a_aload_n B dX8_lacks_13 rfl ?_
    refine a_getr B fl_X8_lacks_53 (by first | rfl | assumption) rfl dX8_lacks_14 ?_
    refine a_iload_n B dX8_lacks_17 rfl ?_
    refine a_ialdN B (s) (by first | rfl | assumption) rfl (by omega) (by decide) dX8_lacks_18 ?_
    refine a_iload_n B dX8_lacks_19 rfl ?_
    refine a_icmp_eq (tgt := 27) B dX8_lacks_20 (by decide) (fun c20 => ?_) (fun c20 => ?_)
    · refine a_iload_n B dX8_lacks_27 rfl ?_
      refine a_iconst (v := 0) B dX8_lacks_28 (by decide) ?_
      refine a_aload_n B dX8_lacks_29 rfl ?_
      refine a_getr B fl_X8_lacks_56 (by first | rfl | assumption) rfl dX8_lacks_30 ?_
      refine a_iload_n B dX8_lacks_33 rfl ?_
      refine a_ialdN B (s) (by first | rfl | assumption) rfl (by omega) (by decide) dX8_lacks_34 ?_
      refine a_iconst (v := 1) B dX8_lacks_35 (by decide) ?_
      refine a_isub B dX8_lacks_36 ?_
      refine a_callSi B k_X8_lacks_71 (c_X8_in hV) rfl rfl (Nat.le_of_ble_eq_true rfl) dX8_lacks_37 (fun r37 mu37 h37 => ?_)
      obtain ⟨rfl, rfl⟩ := h37
      refine a_if_eq (tgt := 47) B dX8_lacks_40 (by decide) (fun c40 => ?_) (fun c40 => ?_)
      · refine a_iconst (v := 2) B dX8_lacks_47 (by decide) ?_
        refine a_ireturn B E dX8_lacks_48 ?_
        refine ⟨?_, rfl⟩
        rw [lkS]
        first
          | rw [if_pos c6]
          | rw [if_neg c6, if_pos c20, if_pos (bI_n0.mp c40)]
          | rw [if_neg c6, if_pos c20, if_neg (by rw [bI_0.mp c40]; decide)]
          | rw [if_neg c6, if_neg c20]
      · refine a_iconst (v := 0) B dX8_lacks_43 (by decide) ?_
        refine a_goto (tgt := 48) B dX8_lacks_44 (by decide) ?_
        refine a_ireturn B E dX8_lacks_48 ?_
        refine ⟨?_, rfl⟩
        rw [lkS]
        first
          | rw [if_pos c6]
          | rw [if_neg c6, if_pos c20, if_pos (bI_n0.mp c40)]
          | rw [if_neg c6, if_pos c20, if_neg (by rw [bI_0.mp c40]; decide)]
          | rw [if_neg c6, if_neg c20]
    · refine a_iconst (v := 3) B dX8_lacks_23 (by decide) ?_
      refine a_goto (tgt := 48) B dX8_lacks_24 (by decide) ?_
      refine a_ireturn B E dX8_lacks_48 ?_
      refine ⟨?_, rfl⟩
      rw [lkS]
      first
        | rw [if_pos c6]
        | rw [if_neg c6, if_pos c20, if_pos (bI_n0.mp c40)]
        | rw [if_neg c6, if_pos c20, if_neg (by rw [bI_0.mp c40]; decide)]
        | rw [if_neg c6, if_neg c20]
  · refine a_iconst (v := 1) B dX8_lacks_9 (by decide) ?_
    refine a_goto (tgt := 48) B dX8_lacks_10 (by decide) ?_
    refine a_ireturn B E dX8_lacks_48 ?_
    refine ⟨?_, rfl⟩
    rw [lkS]
    first
      | rw [if_pos c6]
      | rw [if_neg c6, if_pos c20, if_pos (bI_n0.mp c40)]
      | rw [if_neg c6, if_pos c20, if_neg (by rw [bI_0.mp c40]; decide)]
      | rw [if_neg c6, if_neg c20]
abbrev rm_X8_keep : Room := { frames := 0, cells := 0, slots := 0, locals := 0 }
set_option maxRecDepth 20000 in
theorem us_X8_keep_8 : ∀ w ∈ u_ws RX8 TX8 23, w ∈ wsX8_keep := by decide +kernel
set_option maxRecDepth 20000 in
theorem fl_X8_keep_53 : FL RX8 wsX8_keep 53 8 18 := ⟨RX8, TX8, 23, rfl, by decide, us_X8_keep_8, by decide +kernel⟩
set_option maxRecDepth 20000 in
theorem fl_X8_keep_59 : FL RX8 wsX8_keep 59 8 20 := ⟨RX8, TX8, 23, rfl, by decide, us_X8_keep_8, by decide +kernel⟩

set_option maxHeartbeats 4000000 in
set_option maxRecDepth 100000 in
theorem c_X8_keep {l : Launch} {V : ab_V} {mu : ab_mem} {s i : Nat} {v : Int32} (hV : ab_OK V ShM) (hs : s < 4) (hi48 : i < 48) : CT l V ShM yX8_keep wsX8_keep rm_X8_keep [.ref (aL V 0), .int (nI s), .int (nI i), .int v] mu (pV (fun mu2 => mu2 = ab_up mu 17 (48 * s + i) (cvF (mu 15 s) v))) := by
  refine ab_enter hV (by decide) rfl (Nat.le_of_ble_eq_true rfl) ?_
  intro X B E
  have B : CX X l rm_X8_keep RX8 cX8_keep wsX8_keep 4 V ShM := B
  show AW X V ShM 4 0 [some (.ref (aL V 0)), some (.int (nI s)), some (.int (nI i)), some (.int v)] [] mu
  refine a_aload_n B dX8_keep_0 rfl ?_
  refine a_getr B fl_X8_keep_59 (by first | rfl | assumption) rfl dX8_keep_1 ?_
  refine a_bipush (v := 48) B dX8_keep_4 (by decide) ?_
  refine a_iload_n B dX8_keep_6 rfl ?_
  refine a_imul B dX8_keep_7 ?_
  refine a_iload_n B dX8_keep_8 rfl ?_
  refine a_iadd B dX8_keep_9 ?_
  refine a_aload_n B dX8_keep_10 rfl ?_
  refine a_getr B fl_X8_keep_53 (by first | rfl | assumption) rfl dX8_keep_11 ?_
  refine a_iload_n B dX8_keep_14 rfl ?_
  refine a_ialdN B (s) (by first | rfl | assumption) rfl (by omega) (by decide) dX8_keep_15 ?_
  refine a_if_ne (tgt := 24) B dX8_keep_16 (by decide) (fun c16 => ?_) (fun c16 => ?_)
  · refine a_aload_n B dX8_keep_24 rfl ?_
    refine a_getr B fl_X8_keep_53 (by first | rfl | assumption) rfl dX8_keep_25 ?_
    refine a_iload_n B dX8_keep_28 rfl ?_
    refine a_ialdN B (s) (by first | rfl | assumption) rfl (by omega) (by decide) dX8_keep_29 ?_
    refine a_iconst (v := 1) B dX8_keep_30 (by decide) ?_
    refine a_icmp_ne (tgt := 39) B dX8_keep_31 (by decide) (fun c31 => ?_) (fun c31 => ?_)
    · refine a_iload_n B dX8_keep_39 rfl ?_
      refine a_iastN B (48 * s + i) (by first | rfl | assumption) (ix48 s i) (by omega) (by decide)  dX8_keep_40 ?_
      refine a_return B E dX8_keep_41 ?_
      rw [cvF]
      first
        | rw [if_pos c16]
        | rw [if_neg c16, if_pos c31]
        | rw [if_neg c16, if_neg c31]
    · refine a_iload_n B dX8_keep_34 rfl ?_
      refine a_i2s B dX8_keep_35 ?_
      refine a_goto (tgt := 40) B dX8_keep_36 (by decide) ?_
      refine a_iastN B (48 * s + i) (by first | rfl | assumption) (ix48 s i) (by omega) (by decide)  dX8_keep_40 ?_
      refine a_return B E dX8_keep_41 ?_
      rw [cvF]
      first
        | rw [if_pos c16]
        | rw [if_neg c16, if_pos c31]
        | rw [if_neg c16, if_neg c31]
  · refine a_iload_n B dX8_keep_19 rfl ?_
    refine a_i2b B dX8_keep_20 ?_
    refine a_goto (tgt := 40) B dX8_keep_21 (by decide) ?_
    refine a_iastN B (48 * s + i) (by first | rfl | assumption) (ix48 s i) (by omega) (by decide)  dX8_keep_40 ?_
    refine a_return B E dX8_keep_41 ?_
    rw [cvF]
    first
      | rw [if_pos c16]
      | rw [if_neg c16, if_pos c31]
      | rw [if_neg c16, if_neg c31]
abbrev rm_X8_put : Room := { frames := 2, cells := 0, slots := 0, locals := 45 }
theorem k_X8_put_71 : KS RX8 wsX8_put rm_X8_put 71 yX8_in wsX8_in rm_X8_in 3 := ⟨_, _, _, _, gX8_put_X8_in, rfl, rfl, rfl, by decide +kernel, by decide⟩
theorem k_X8_put_95 : KS RX8 wsX8_put rm_X8_put 95 yX8_isSheet wsX8_isSheet rm_X8_isSheet 1 := ⟨_, _, _, _, gX8_put_X8_isSheet, rfl, rfl, rfl, by decide +kernel, by decide⟩
theorem k_X8_put_98 : KV RX8 wsX8_put rm_X8_put 98 RX8 yX8_meets wsX8_meets rm_X8_meets 1 := ⟨_, _, _, _, gX8_put_X8_meets, rfl, rfl, rfl, by decide +kernel, by decide⟩
theorem k_X8_put_210 : KV RX8 wsX8_put rm_X8_put 210 RX8 yX8_lacks wsX8_lacks rm_X8_lacks 3 := ⟨_, _, _, _, gX8_put_X8_lacks, rfl, rfl, rfl, by decide +kernel, by decide⟩
theorem k_X8_put_213 : KV RX8 wsX8_put rm_X8_put 213 RX8 yX8_keep wsX8_keep rm_X8_keep 3 := ⟨_, _, _, _, gX8_put_X8_keep, rfl, rfl, rfl, by decide +kernel, by decide⟩

set_option maxHeartbeats 4000000 in
set_option maxRecDepth 100000 in
theorem c_X8_put_no {l : Launch} {V : ab_V} {mu : ab_mem} {s : Nat} {fo i v : Int32} (hV : ab_OK V ShM) (hs : s < 4) (hfo : inB fo 0 2 = true) (hl : ¬ lkS (mu 14 s) (mu 15 s) fo (mu 16 s) i ≤ 0) : CT l V ShM yX8_put wsX8_put rm_X8_put [.ref (aL V 0), .int (nI s), .int fo, .int i, .int v] mu (pI (fun r mu2 => r = -10 - lkS (mu 14 s) (mu 15 s) fo (mu 16 s) i ∧ mu2 = ab_up mu 0 22 (lkS (mu 14 s) (mu 15 s) fo (mu 16 s) i))) := by
  refine ab_enter hV (by decide) rfl (Nat.le_of_ble_eq_true rfl) ?_
  intro X B E
  have B : CX X l rm_X8_put RX8 cX8_put wsX8_put 6 V ShM := B
  show AW X V ShM 6 0 [some (.ref (aL V 0)), some (.int (nI s)), some (.int fo), some (.int i), some (.int v), none] [] mu
  refine a_iload_n B dX8_put_0 rfl ?_
  refine a_callSi B k_X8_put_95 (c_X8_isSheet hV) rfl rfl (Nat.le_of_ble_eq_true rfl) dX8_put_1 (fun r1 mu1 h1 => ?_)
  obtain ⟨rfl, rfl⟩ := h1
  refine a_if_eq_f (tgt := 16) B dX8_put_4 (by decide) (bI_n0.mpr (inB_nI (n := 3) (by omega) (by decide))) ?_
  refine a_iload_n B dX8_put_7 rfl ?_
  refine a_iconst (v := 0) B dX8_put_8 (by decide) ?_
  refine a_iconst (v := 2) B dX8_put_9 (by decide) ?_
  refine a_callSi B k_X8_put_71 (c_X8_in hV) rfl rfl (Nat.le_of_ble_eq_true rfl) dX8_put_10 (fun r10 mu10 h10 => ?_)
  obtain ⟨rfl, rfl⟩ := h10
  refine a_if_ne_t (tgt := 19) B dX8_put_13 (by decide) (bI_n0.mpr hfo) ?_
  refine a_aload_n B dX8_put_19 rfl ?_
  refine a_iload_n B dX8_put_20 rfl ?_
  refine a_iload_n B dX8_put_21 rfl ?_
  refine a_iload_n B dX8_put_22 rfl ?_
  refine a_callVi B k_X8_put_210 (c_X8_lacks hV hs) (by first | rfl | assumption) rfl rfl rfl (Nat.le_of_ble_eq_true rfl) dX8_put_23 (fun r23 mu23 h23 => ?_)
  obtain ⟨rfl, rfl⟩ := h23
  refine a_istore B dX8_put_26 (by decide) ?_
  refine a_iload B dX8_put_28 rfl ?_
  refine a_if_le_f (tgt := 40) B dX8_put_30 (by decide) (hl) ?_
  refine a_aload_n B dX8_put_33 rfl ?_
  refine a_iload B dX8_put_34 rfl ?_
  refine a_callVi B k_X8_put_98 (c_X8_meets hV) (by first | rfl | assumption) rfl rfl rfl (Nat.le_of_ble_eq_true rfl) dX8_put_36 (fun r36 mu36 h36 => ?_)
  refine a_ireturn B E dX8_put_39 ?_
  exact h36
set_option maxHeartbeats 4000000 in
set_option maxRecDepth 100000 in
theorem c_X8_put {l : Launch} {V : ab_V} {mu : ab_mem} {s k : Nat} {fo v : Int32} (hV : ab_OK V ShM) (hs : s < 4) (hfo : inB fo 0 2 = true) (hk : k < 48) (hl : lkS (mu 14 s) (mu 15 s) fo (mu 16 s) (nI k) = 0) : CT l V ShM yX8_put wsX8_put rm_X8_put [.ref (aL V 0), .int (nI s), .int fo, .int (nI k), .int v] mu (pI (fun r mu2 => r = 1 ∧ mu2 = ab_up mu 17 (48 * s + k) (cvF (mu 15 s) v))) := by
  refine ab_enter hV (by decide) rfl (Nat.le_of_ble_eq_true rfl) ?_
  intro X B E
  have B : CX X l rm_X8_put RX8 cX8_put wsX8_put 6 V ShM := B
  show AW X V ShM 6 0 [some (.ref (aL V 0)), some (.int (nI s)), some (.int fo), some (.int (nI k)), some (.int v), none] [] mu
  refine a_iload_n B dX8_put_0 rfl ?_
  refine a_callSi B k_X8_put_95 (c_X8_isSheet hV) rfl rfl (Nat.le_of_ble_eq_true rfl) dX8_put_1 (fun r1 mu1 h1 => ?_)
  obtain ⟨rfl, rfl⟩ := h1
  refine a_if_eq_f (tgt := 16) B dX8_put_4 (by decide) (bI_n0.mpr (inB_nI (n := 3) (by omega) (by decide))) ?_
  refine a_iload_n B dX8_put_7 rfl ?_
  refine a_iconst (v := 0) B dX8_put_8 (by decide) ?_
  refine a_iconst (v := 2) B dX8_put_9 (by decide) ?_
  refine a_callSi B k_X8_put_71 (c_X8_in hV) rfl rfl (Nat.le_of_ble_eq_true rfl) dX8_put_10 (fun r10 mu10 h10 => ?_)
  obtain ⟨rfl, rfl⟩ := h10
  refine a_if_ne_t (tgt := 19) B dX8_put_13 (by decide) (bI_n0.mpr hfo) ?_
  refine a_aload_n B dX8_put_19 rfl ?_
  refine a_iload_n B dX8_put_20 rfl ?_
  refine a_iload_n B dX8_put_21 rfl ?_
  refine a_iload_n B dX8_put_22 rfl ?_
  refine a_callVi B k_X8_put_210 (c_X8_lacks hV hs) (by first | rfl | assumption) rfl rfl rfl (Nat.le_of_ble_eq_true rfl) dX8_put_23 (fun r23 mu23 h23 => ?_)
  obtain ⟨rfl, rfl⟩ := h23
  refine a_istore B dX8_put_26 (by decide) ?_
  refine a_iload B dX8_put_28 rfl ?_
  refine a_if_le_t (tgt := 40) B dX8_put_30 (by decide) (by rw [hl]; decide) ?_
  refine a_aload_n B dX8_put_40 rfl ?_
  refine a_iload_n B dX8_put_41 rfl ?_
  refine a_iload_n B dX8_put_42 rfl ?_
  refine a_iload B dX8_put_43 rfl ?_
  refine a_callVv B k_X8_put_213 (c_X8_keep hV hs hk) (by first | rfl | assumption) rfl rfl rfl (Nat.le_of_ble_eq_true rfl) dX8_put_45 (fun mu45 h45 => ?_)
  refine a_iconst (v := 1) B dX8_put_48 (by decide) ?_
  refine a_ireturn B E dX8_put_49 ?_
  exact ⟨rfl, h45⟩
set_option maxHeartbeats 4000000 in
set_option maxRecDepth 100000 in
theorem c_X8_put_bad {l : Launch} {V : ab_V} {mu : ab_mem} {a fo i v : Int32} (hV : ab_OK V ShM) (hbad : ¬ (inB a 0 3 = true ∧ inB fo 0 2 = true)) : CT l V ShM yX8_put wsX8_put rm_X8_put [.ref (aL V 0), .int a, .int fo, .int i, .int v] mu (pI (fun r mu2 => r = -2 ∧ mu = mu2)) := by
  refine ab_enter hV (by decide) rfl (Nat.le_of_ble_eq_true rfl) ?_
  intro X B E
  have B : CX X l rm_X8_put RX8 cX8_put wsX8_put 6 V ShM := B
  show AW X V ShM 6 0 [some (.ref (aL V 0)), some (.int a), some (.int fo), some (.int i), some (.int v), none] [] mu
  refine a_iload_n B dX8_put_0 rfl ?_
  refine a_callSi B k_X8_put_95 (c_X8_isSheet hV) rfl rfl (Nat.le_of_ble_eq_true rfl) dX8_put_1 (fun r1 mu1 h1 => ?_)
  obtain ⟨rfl, rfl⟩ := h1
  refine a_if_eq (tgt := 16) B dX8_put_4 (by decide) (fun c4 => ?_) (fun c4 => ?_)
  · refine a_bipush (v := -2) B dX8_put_16 (by decide) ?_
    refine a_ireturn B E dX8_put_18 ?_
    exact ⟨rfl, rfl⟩
  · refine a_iload_n B dX8_put_7 rfl ?_
    refine a_iconst (v := 0) B dX8_put_8 (by decide) ?_
    refine a_iconst (v := 2) B dX8_put_9 (by decide) ?_
    refine a_callSi B k_X8_put_71 (c_X8_in hV) rfl rfl (Nat.le_of_ble_eq_true rfl) dX8_put_10 (fun r10 mu10 h10 => ?_)
    obtain ⟨rfl, rfl⟩ := h10
    refine a_if_ne (tgt := 19) B dX8_put_13 (by decide) (fun c13 => ?_) (fun c13 => ?_)
    · exfalso
      simp_all [bI_0, bI_n0]
    · refine a_bipush (v := -2) B dX8_put_16 (by decide) ?_
      refine a_ireturn B E dX8_put_18 ?_
      exact ⟨rfl, rfl⟩
abbrev rm_X8_get : Room := { frames := 2, cells := 0, slots := 0, locals := 45 }
set_option maxRecDepth 20000 in
theorem us_X8_get_8 : ∀ w ∈ u_ws RX8 TX8 23, w ∈ wsX8_get := by decide +kernel
set_option maxRecDepth 20000 in
theorem fl_X8_get_59 : FL RX8 wsX8_get 59 8 20 := ⟨RX8, TX8, 23, rfl, by decide, us_X8_get_8, by decide +kernel⟩
set_option maxRecDepth 20000 in
theorem fp_X8_get_207 : FP RX8 wsX8_get 207 8 22 .int := ⟨RX8, TX8, 23, tyX8, rfl, by decide, us_X8_get_8, by decide +kernel, tyX8_ok, nmX8, rfl, rfl⟩
theorem k_X8_get_71 : KS RX8 wsX8_get rm_X8_get 71 yX8_in wsX8_in rm_X8_in 3 := ⟨_, _, _, _, gX8_get_X8_in, rfl, rfl, rfl, by decide +kernel, by decide⟩
theorem k_X8_get_95 : KS RX8 wsX8_get rm_X8_get 95 yX8_isSheet wsX8_isSheet rm_X8_isSheet 1 := ⟨_, _, _, _, gX8_get_X8_isSheet, rfl, rfl, rfl, by decide +kernel, by decide⟩
theorem k_X8_get_210 : KV RX8 wsX8_get rm_X8_get 210 RX8 yX8_lacks wsX8_lacks rm_X8_lacks 3 := ⟨_, _, _, _, gX8_get_X8_lacks, rfl, rfl, rfl, by decide +kernel, by decide⟩

set_option maxHeartbeats 4000000 in
set_option maxRecDepth 100000 in
theorem c_X8_get_no {l : Launch} {V : ab_V} {mu : ab_mem} {s : Nat} {fo i : Int32} (hV : ab_OK V ShM) (hs : s < 4) (hfo : inB fo 0 2 = true) (hl : ¬ lkS (mu 14 s) (mu 15 s) fo (mu 16 s) i ≤ 0) : CT l V ShM yX8_get wsX8_get rm_X8_get [.ref (aL V 0), .int (nI s), .int fo, .int i] mu (pI (fun r mu2 => r = -2147483648 ∧ mu2 = ab_up mu 0 22 (lkS (mu 14 s) (mu 15 s) fo (mu 16 s) i))) := by
  refine ab_enter hV (by decide) rfl (Nat.le_of_ble_eq_true rfl) ?_
  intro X B E
  have B : CX X l rm_X8_get RX8 cX8_get wsX8_get 5 V ShM := B
  show AW X V ShM 5 0 [some (.ref (aL V 0)), some (.int (nI s)), some (.int fo), some (.int i), none] [] mu
  refine a_iload_n B dX8_get_0 rfl ?_
  refine a_callSi B k_X8_get_95 (c_X8_isSheet hV) rfl rfl (Nat.le_of_ble_eq_true rfl) dX8_get_1 (fun r1 mu1 h1 => ?_)
  obtain ⟨rfl, rfl⟩ := h1
  refine a_if_eq_f (tgt := 16) B dX8_get_4 (by decide) (bI_n0.mpr (inB_nI (n := 3) (by omega) (by decide))) ?_
  refine a_iload_n B dX8_get_7 rfl ?_
  refine a_iconst (v := 0) B dX8_get_8 (by decide) ?_
  refine a_iconst (v := 2) B dX8_get_9 (by decide) ?_
  refine a_callSi B k_X8_get_71 (c_X8_in hV) rfl rfl (Nat.le_of_ble_eq_true rfl) dX8_get_10 (fun r10 mu10 h10 => ?_)
  obtain ⟨rfl, rfl⟩ := h10
  refine a_if_ne_t (tgt := 19) B dX8_get_13 (by decide) (bI_n0.mpr hfo) ?_
  refine a_aload_n B dX8_get_19 rfl ?_
  refine a_iload_n B dX8_get_20 rfl ?_
  refine a_iload_n B dX8_get_21 rfl ?_
  refine a_iload_n B dX8_get_22 rfl ?_
  refine a_callVi B k_X8_get_210 (c_X8_lacks hV hs) (by first | rfl | assumption) rfl rfl rfl (Nat.le_of_ble_eq_true rfl) dX8_get_23 (fun r23 mu23 h23 => ?_)
  obtain ⟨rfl, rfl⟩ := h23
  refine a_istore B dX8_get_26 (by decide) ?_
  refine a_iload B dX8_get_28 rfl ?_
  refine a_if_le_f (tgt := 42) B dX8_get_30 (by decide) (hl) ?_
  refine a_aload_n B dX8_get_33 rfl ?_
  refine a_iload B dX8_get_34 rfl ?_
  refine a_put B fp_X8_get_207 (by first | rfl | assumption) rfl rfl rfl dX8_get_36 ?_
  refine a_ldc (v := -2147483648) B (by decide +kernel) dX8_get_39 ?_
  refine a_ireturn B E dX8_get_41 ?_
  exact ⟨rfl, rfl⟩
set_option maxHeartbeats 4000000 in
set_option maxRecDepth 100000 in
theorem c_X8_get {l : Launch} {V : ab_V} {mu : ab_mem} {s k : Nat} {fo : Int32} (hV : ab_OK V ShM) (hs : s < 4) (hfo : inB fo 0 2 = true) (hk : k < 48) (hl : lkS (mu 14 s) (mu 15 s) fo (mu 16 s) (nI k) = 0) : CT l V ShM yX8_get wsX8_get rm_X8_get [.ref (aL V 0), .int (nI s), .int fo, .int (nI k)] mu (pI (fun r mu2 => r = mu 17 (48 * s + k) ∧ mu = mu2)) := by
  refine ab_enter hV (by decide) rfl (Nat.le_of_ble_eq_true rfl) ?_
  intro X B E
  have B : CX X l rm_X8_get RX8 cX8_get wsX8_get 5 V ShM := B
  show AW X V ShM 5 0 [some (.ref (aL V 0)), some (.int (nI s)), some (.int fo), some (.int (nI k)), none] [] mu
  refine a_iload_n B dX8_get_0 rfl ?_
  refine a_callSi B k_X8_get_95 (c_X8_isSheet hV) rfl rfl (Nat.le_of_ble_eq_true rfl) dX8_get_1 (fun r1 mu1 h1 => ?_)
  obtain ⟨rfl, rfl⟩ := h1
  refine a_if_eq_f (tgt := 16) B dX8_get_4 (by decide) (bI_n0.mpr (inB_nI (n := 3) (by omega) (by decide))) ?_
  refine a_iload_n B dX8_get_7 rfl ?_
  refine a_iconst (v := 0) B dX8_get_8 (by decide) ?_
  refine a_iconst (v := 2) B dX8_get_9 (by decide) ?_
  refine a_callSi B k_X8_get_71 (c_X8_in hV) rfl rfl (Nat.le_of_ble_eq_true rfl) dX8_get_10 (fun r10 mu10 h10 => ?_)
  obtain ⟨rfl, rfl⟩ := h10
  refine a_if_ne_t (tgt := 19) B dX8_get_13 (by decide) (bI_n0.mpr hfo) ?_
  refine a_aload_n B dX8_get_19 rfl ?_
  refine a_iload_n B dX8_get_20 rfl ?_
  refine a_iload_n B dX8_get_21 rfl ?_
  refine a_iload_n B dX8_get_22 rfl ?_
  refine a_callVi B k_X8_get_210 (c_X8_lacks hV hs) (by first | rfl | assumption) rfl rfl rfl (Nat.le_of_ble_eq_true rfl) dX8_get_23 (fun r23 mu23 h23 => ?_)
  obtain ⟨rfl, rfl⟩ := h23
  refine a_istore B dX8_get_26 (by decide) ?_
  refine a_iload B dX8_get_28 rfl ?_
  refine a_if_le_t (tgt := 42) B dX8_get_30 (by decide) (by rw [hl]; decide) ?_
  refine a_aload_n B dX8_get_42 rfl ?_
  refine a_getr B fl_X8_get_59 (by first | rfl | assumption) rfl dX8_get_43 ?_
  refine a_bipush (v := 48) B dX8_get_46 (by decide) ?_
  refine a_iload_n B dX8_get_48 rfl ?_
  refine a_imul B dX8_get_49 ?_
  refine a_iload_n B dX8_get_50 rfl ?_
  refine a_iadd B dX8_get_51 ?_
  refine a_ialdN B (48 * s + k) (by first | rfl | assumption) (ix48 s k) (by omega) (by decide) dX8_get_52 ?_
  refine a_ireturn B E dX8_get_53 ?_
  exact ⟨rfl, rfl⟩
set_option maxHeartbeats 4000000 in
set_option maxRecDepth 100000 in
theorem c_X8_get_bad {l : Launch} {V : ab_V} {mu : ab_mem} {a fo i : Int32} (hV : ab_OK V ShM) (hbad : ¬ (inB a 0 3 = true ∧ inB fo 0 2 = true)) : CT l V ShM yX8_get wsX8_get rm_X8_get [.ref (aL V 0), .int a, .int fo, .int i] mu (pI (fun r mu2 => r = -2147483648 ∧ mu = mu2)) := by
  refine ab_enter hV (by decide) rfl (Nat.le_of_ble_eq_true rfl) ?_
  intro X B E
  have B : CX X l rm_X8_get RX8 cX8_get wsX8_get 5 V ShM := B
  show AW X V ShM 5 0 [some (.ref (aL V 0)), some (.int a), some (.int fo), some (.int i), none] [] mu
  refine a_iload_n B dX8_get_0 rfl ?_
  refine a_callSi B k_X8_get_95 (c_X8_isSheet hV) rfl rfl (Nat.le_of_ble_eq_true rfl) dX8_get_1 (fun r1 mu1 h1 => ?_)
  obtain ⟨rfl, rfl⟩ := h1
  refine a_if_eq (tgt := 16) B dX8_get_4 (by decide) (fun c4 => ?_) (fun c4 => ?_)
  · refine a_ldc (v := -2147483648) B (by decide +kernel) dX8_get_16 ?_
    refine a_ireturn B E dX8_get_18 ?_
    exact ⟨rfl, rfl⟩
  · refine a_iload_n B dX8_get_7 rfl ?_
    refine a_iconst (v := 0) B dX8_get_8 (by decide) ?_
    refine a_iconst (v := 2) B dX8_get_9 (by decide) ?_
    refine a_callSi B k_X8_get_71 (c_X8_in hV) rfl rfl (Nat.le_of_ble_eq_true rfl) dX8_get_10 (fun r10 mu10 h10 => ?_)
    obtain ⟨rfl, rfl⟩ := h10
    refine a_if_ne (tgt := 19) B dX8_get_13 (by decide) (fun c13 => ?_) (fun c13 => ?_)
    · exfalso
      simp_all [bI_0, bI_n0]
    · refine a_ldc (v := -2147483648) B (by decide +kernel) dX8_get_16 ?_
      refine a_ireturn B E dX8_get_18 ?_
      exact ⟨rfl, rfl⟩
