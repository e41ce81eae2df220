theorem lgc {a b c : Nat} (h : a + b < 2 ^ 31) (hc : c < 2 ^ 31) : lg_cmp ((nI a).toInt64 + (nI b).toInt64) (nI c).toInt64 ≤ 0 ↔ a + b ≤ c := by
  rw [nI_l (by omega), nI_l (by omega), nI_l hc, lN_add]
  unfold lg_cmp
  by_cases h1 : c < a + b
  · rw [if_pos ((pk_lLT (by omega) (by omega)).mpr h1)]
    constructor
    · intro q; exact absurd q (by decide)
    · intro q; omega
  · rw [if_neg (fun q => h1 ((pk_lLT (by omega) (by omega)).mp q))]
    constructor
    · intro _; omega
    · intro _; split <;> decide
theorem lgc2 {a b : Int32} {c : Nat} (ha : ¬ a < 0) (hb : ¬ b < 0) (hc : c ≤ 48) (h : lg_cmp (a.toInt64 + b.toInt64) (nI c).toInt64 ≤ 0) : ∃ i n, a = nI i ∧ b = nI n ∧ i + n ≤ c := by
  obtain ⟨i, hi, rfl⟩ := nI_of ha
  obtain ⟨n, hn, rfl⟩ := nI_of hb
  refine ⟨i, n, rfl, rfl, ?_⟩
  rw [nI_l hi, nI_l hn, nI_l (by omega), lN_add] at h
  refine Nat.le_of_not_lt fun q => ?_
  unfold lg_cmp at h
  rw [if_pos ((pk_lLT (by omega) (by omega)).mpr q)] at h
  exact absurd h (by decide)
theorem pM_row18 {mu : ab_mem} {F G : Nat → Int32} : pM (ab_row (ab_row mu 18 F) 17 G) = pM (ab_row mu 17 G) := by
  funext a
  simp only [pM]
  split
  · rfl
  · rename_i ha
    by_cases e : a = 17
    · subst e; rw [ab_row_s, ab_row_s]
    · rw [ab_row_o e, ab_row_o e, ab_row_o]
      intro e2
      rw [e2] at ha
      exact ha rfl
theorem pM_row {mu mu1 : ab_mem} (h : pM mu1 = pM mu) (q : Nat) (g : Nat → Int32) : pM (ab_row mu1 q g) = pM (ab_row mu q g) := by
  funext a
  have ha := congrFun h a
  simp only [pM] at ha ⊢
  split
  · rfl
  · rename_i hs
    rw [if_neg hs, if_neg hs] at ha
    by_cases e : a = q
    · subst e; rw [ab_row_s, ab_row_s]
    · rw [ab_row_o e, ab_row_o e, ha]
theorem ix48b (s i k : Nat) : (48 : Int32) * nI s + nI i + nI k = nI (48 * s + i + k) := by rw [ix48, nI_add]
abbrev rm_X8_copy : Room := { frames := 2, cells := 0, slots := 0, locals := 42 }
set_option maxRecDepth 20000 in
theorem us_X8_copy_8 : ∀ w ∈ u_ws RX8 TX8 23, w ∈ wsX8_copy := by decide +kernel
set_option maxRecDepth 20000 in
theorem fl_X8_copy_50 : FL RX8 wsX8_copy 50 8 17 := ⟨RX8, TX8, 23, rfl, by decide, us_X8_copy_8, by decide +kernel⟩
set_option maxRecDepth 20000 in
theorem fl_X8_copy_53 : FL RX8 wsX8_copy 53 8 18 := ⟨RX8, TX8, 23, rfl, by decide, us_X8_copy_8, by decide +kernel⟩
set_option maxRecDepth 20000 in
theorem fl_X8_copy_56 : FL RX8 wsX8_copy 56 8 19 := ⟨RX8, TX8, 23, rfl, by decide, us_X8_copy_8, by decide +kernel⟩
set_option maxRecDepth 20000 in
theorem fl_X8_copy_59 : FL RX8 wsX8_copy 59 8 20 := ⟨RX8, TX8, 23, rfl, by decide, us_X8_copy_8, by decide +kernel⟩
set_option maxRecDepth 20000 in
theorem fl_X8_copy_62 : FL RX8 wsX8_copy 62 8 21 := ⟨RX8, TX8, 23, rfl, by decide, us_X8_copy_8, by decide +kernel⟩
theorem k_X8_copy_95 : KS RX8 wsX8_copy rm_X8_copy 95 yX8_isSheet wsX8_isSheet rm_X8_isSheet 1 := ⟨_, _, _, _, gX8_copy_X8_isSheet, rfl, rfl, rfl, by decide +kernel, by decide⟩
theorem k_X8_copy_98 : KV RX8 wsX8_copy rm_X8_copy 98 RX8 yX8_meets wsX8_meets rm_X8_meets 1 := ⟨_, _, _, _, gX8_copy_X8_meets, rfl, rfl, rfl, by decide +kernel, by decide⟩

set_option maxHeartbeats 4000000 in
set_option maxRecDepth 100000 in
theorem c_X8_copy_bad {l : Launch} {V : ab_V} {mu : ab_mem} {a b c d e : Int32} (hV : ab_OK V ShM) (hbad : ¬ (inB a 0 3 = true ∧ inB c 0 3 = true)) : CT l V ShM yX8_copy wsX8_copy rm_X8_copy [.ref (aL V 0), .int a, .int b, .int c, .int d, .int e] mu (pI (fun r mu2 => r = -2 ∧ mu = mu2)) := by
  refine ab_enter hV (by decide) rfl (Nat.le_of_ble_eq_true rfl) ?_
  intro X B E
  have B : CX X l rm_X8_copy RX8 cX8_copy wsX8_copy 7 V ShM := B
  show AW X V ShM 7 0 [some (.ref (aL V 0)), some (.int a), some (.int b), some (.int c), some (.int d), some (.int e), none] [] mu
  refine a_iload_n B dX8_copy_0 rfl ?_
  refine a_callSi B k_X8_copy_95 (c_X8_isSheet hV) rfl rfl (Nat.le_of_ble_eq_true rfl) dX8_copy_1 (fun r1 mu1 h1 => ?_)
  obtain ⟨rfl, rfl⟩ := h1
  refine a_if_eq (tgt := 14) B dX8_copy_4 (by decide) (fun c4 => ?_) (fun c4 => ?_)
  · refine a_bipush (v := -2) B dX8_copy_14 (by decide) ?_
    refine a_ireturn B E dX8_copy_16 ?_
    exact ⟨rfl, rfl⟩
  · refine a_iload_n B dX8_copy_7 rfl ?_
    refine a_callSi B k_X8_copy_95 (c_X8_isSheet hV) rfl rfl (Nat.le_of_ble_eq_true rfl) dX8_copy_8 (fun r8 mu8 h8 => ?_)
    obtain ⟨rfl, rfl⟩ := h8
    refine a_if_ne (tgt := 17) B dX8_copy_11 (by decide) (fun c11 => ?_) (fun c11 => ?_)
    · exfalso
      simp_all [bI_0, bI_n0]
    · refine a_bipush (v := -2) B dX8_copy_14 (by decide) ?_
      refine a_ireturn B E dX8_copy_16 ?_
      exact ⟨rfl, rfl⟩
set_option maxHeartbeats 4000000 in
set_option maxRecDepth 100000 in
theorem c_X8_copy_null {l : Launch} {V : ab_V} {mu : ab_mem} {s tt : Nat} {b d e : Int32} (hV : ab_OK V ShM) (hs : s < 4) (ht : tt < 4) (hth : mu 14 s = 0 ∨ mu 14 tt = 0) : CT l V ShM yX8_copy wsX8_copy rm_X8_copy [.ref (aL V 0), .int (nI s), .int b, .int (nI tt), .int d, .int e] mu (pI (fun r mu2 => r = -11 ∧ mu2 = ab_up mu 0 22 1)) := by
  refine ab_enter hV (by decide) rfl (Nat.le_of_ble_eq_true rfl) ?_
  intro X B E
  have B : CX X l rm_X8_copy RX8 cX8_copy wsX8_copy 7 V ShM := B
  show AW X V ShM 7 0 [some (.ref (aL V 0)), some (.int (nI s)), some (.int b), some (.int (nI tt)), some (.int d), some (.int e), none] [] mu
  refine a_iload_n B dX8_copy_0 rfl ?_
  refine a_callSi B k_X8_copy_95 (c_X8_isSheet hV) rfl rfl (Nat.le_of_ble_eq_true rfl) dX8_copy_1 (fun r1 mu1 h1 => ?_)
  obtain ⟨rfl, rfl⟩ := h1
  refine a_if_eq_f (tgt := 14) B dX8_copy_4 (by decide) (bI_n0.mpr (inB_nI (n := 3) (by omega) (by decide))) ?_
  refine a_iload_n B dX8_copy_7 rfl ?_
  refine a_callSi B k_X8_copy_95 (c_X8_isSheet hV) rfl rfl (Nat.le_of_ble_eq_true rfl) dX8_copy_8 (fun r8 mu8 h8 => ?_)
  obtain ⟨rfl, rfl⟩ := h8
  refine a_if_ne_t (tgt := 17) B dX8_copy_11 (by decide) (bI_n0.mpr (inB_nI (n := 3) (by omega) (by decide))) ?_
  refine a_aload_n B dX8_copy_17 rfl ?_
  refine a_getr B fl_X8_copy_50 (by first | rfl | assumption) rfl dX8_copy_18 ?_
  refine a_iload_n B dX8_copy_21 rfl ?_
  refine a_zaldN B (s) (by first | rfl | assumption) rfl (by omega) (by decide) dX8_copy_22 ?_
  refine a_if_eq (tgt := 35) B dX8_copy_23 (by decide) (fun c23 => ?_) (fun c23 => ?_)
  · refine a_aload_n B dX8_copy_35 rfl ?_
    refine a_iconst (v := 1) B dX8_copy_36 (by decide) ?_
    refine a_callVi B k_X8_copy_98 (c_X8_meets hV) (by first | rfl | assumption) rfl rfl rfl (Nat.le_of_ble_eq_true rfl) dX8_copy_37 (fun r37 mu37 h37 => ?_)
    refine a_ireturn B E dX8_copy_40 ?_
    exact ⟨h37.1, h37.2⟩
  · refine a_aload_n B dX8_copy_26 rfl ?_
    refine a_getr B fl_X8_copy_50 (by first | rfl | assumption) rfl dX8_copy_27 ?_
    refine a_iload_n B dX8_copy_30 rfl ?_
    refine a_zaldN B (tt) (by first | rfl | assumption) rfl (by omega) (by decide) dX8_copy_31 ?_
    refine a_if_ne (tgt := 41) B dX8_copy_32 (by decide) (fun c32 => ?_) (fun c32 => ?_)
    · exact absurd hth (fun z => z.elim c23 c32)
    · refine a_aload_n B dX8_copy_35 rfl ?_
      refine a_iconst (v := 1) B dX8_copy_36 (by decide) ?_
      refine a_callVi B k_X8_copy_98 (c_X8_meets hV) (by first | rfl | assumption) rfl rfl rfl (Nat.le_of_ble_eq_true rfl) dX8_copy_37 (fun r37 mu37 h37 => ?_)
      refine a_ireturn B E dX8_copy_40 ?_
      exact ⟨h37.1, h37.2⟩
set_option maxHeartbeats 4000000 in
set_option maxRecDepth 100000 in
theorem c_X8_copy_store {l : Launch} {V : ab_V} {mu : ab_mem} {s tt : Nat} {b d e : Int32} (hV : ab_OK V ShM) (hs : s < 4) (ht : tt < 4) (h1 : mu 14 s = 1) (h2 : mu 14 tt = 1) (hf : ¬ mu 15 s = mu 15 tt) : CT l V ShM yX8_copy wsX8_copy rm_X8_copy [.ref (aL V 0), .int (nI s), .int b, .int (nI tt), .int d, .int e] mu (pI (fun r mu2 => r = -14 ∧ mu2 = ab_up mu 0 22 4)) := by
  refine ab_enter hV (by decide) rfl (Nat.le_of_ble_eq_true rfl) ?_
  intro X B E
  have B : CX X l rm_X8_copy RX8 cX8_copy wsX8_copy 7 V ShM := B
  show AW X V ShM 7 0 [some (.ref (aL V 0)), some (.int (nI s)), some (.int b), some (.int (nI tt)), some (.int d), some (.int e), none] [] mu
  refine a_iload_n B dX8_copy_0 rfl ?_
  refine a_callSi B k_X8_copy_95 (c_X8_isSheet hV) rfl rfl (Nat.le_of_ble_eq_true rfl) dX8_copy_1 (fun r1 mu1 h1 => ?_)
  obtain ⟨rfl, rfl⟩ := h1
  refine a_if_eq_f (tgt := 14) B dX8_copy_4 (by decide) (bI_n0.mpr (inB_nI (n := 3) (by omega) (by decide))) ?_
  refine a_iload_n B dX8_copy_7 rfl ?_
  refine a_callSi B k_X8_copy_95 (c_X8_isSheet hV) rfl rfl (Nat.le_of_ble_eq_true rfl) dX8_copy_8 (fun r8 mu8 h8 => ?_)
  obtain ⟨rfl, rfl⟩ := h8
  refine a_if_ne_t (tgt := 17) B dX8_copy_11 (by decide) (bI_n0.mpr (inB_nI (n := 3) (by omega) (by decide))) ?_
  refine a_aload_n B dX8_copy_17 rfl ?_
  refine a_getr B fl_X8_copy_50 (by first | rfl | assumption) rfl dX8_copy_18 ?_
  refine a_iload_n B dX8_copy_21 rfl ?_
  refine a_zaldN B (s) (by first | rfl | assumption) rfl (by omega) (by decide) dX8_copy_22 ?_
  refine a_if_eq_f (tgt := 35) B dX8_copy_23 (by decide) (by rw [h1]; decide) ?_
  refine a_aload_n B dX8_copy_26 rfl ?_
  refine a_getr B fl_X8_copy_50 (by first | rfl | assumption) rfl dX8_copy_27 ?_
  refine a_iload_n B dX8_copy_30 rfl ?_
  refine a_zaldN B (tt) (by first | rfl | assumption) rfl (by omega) (by decide) dX8_copy_31 ?_
  refine a_if_ne_t (tgt := 41) B dX8_copy_32 (by decide) (by rw [h2]; decide) ?_
  refine a_aload_n B dX8_copy_41 rfl ?_
  refine a_getr B fl_X8_copy_53 (by first | rfl | assumption) rfl dX8_copy_42 ?_
  refine a_iload_n B dX8_copy_45 rfl ?_
  refine a_ialdN B (s) (by first | rfl | assumption) rfl (by omega) (by decide) dX8_copy_46 ?_
  refine a_aload_n B dX8_copy_47 rfl ?_
  refine a_getr B fl_X8_copy_53 (by first | rfl | assumption) rfl dX8_copy_48 ?_
  refine a_iload_n B dX8_copy_51 rfl ?_
  refine a_ialdN B (tt) (by first | rfl | assumption) rfl (by omega) (by decide) dX8_copy_52 ?_
  refine a_icmp_eq_f (tgt := 62) B dX8_copy_53 (by decide) (hf) ?_
  refine a_aload_n B dX8_copy_56 rfl ?_
  refine a_iconst (v := 4) B dX8_copy_57 (by decide) ?_
  refine a_callVi B k_X8_copy_98 (c_X8_meets hV) (by first | rfl | assumption) rfl rfl rfl (Nat.le_of_ble_eq_true rfl) dX8_copy_58 (fun r58 mu58 h58 => ?_)
  refine a_ireturn B E dX8_copy_61 ?_
  exact ⟨h58.1, h58.2⟩
set_option maxHeartbeats 4000000 in
set_option maxRecDepth 100000 in
theorem c_X8_copy_index {l : Launch} {V : ab_V} {mu : ab_mem} {s tt : Nat} {b d e : Int32} (hV : ab_OK V ShM) (hs : s < 4) (ht : tt < 4) (h1 : mu 14 s = 1) (h2 : mu 14 tt = 1) (hf : mu 15 s = mu 15 tt) (hno : ¬ (¬ b < 0 ∧ ¬ d < 0 ∧ ¬ e < 0 ∧ lg_cmp (b.toInt64 + e.toInt64) (mu 16 s).toInt64 ≤ 0 ∧ lg_cmp (d.toInt64 + e.toInt64) (mu 16 tt).toInt64 ≤ 0)) : CT l V ShM yX8_copy wsX8_copy rm_X8_copy [.ref (aL V 0), .int (nI s), .int b, .int (nI tt), .int d, .int e] mu (pI (fun r mu2 => r = -12 ∧ mu2 = ab_up mu 0 22 2)) := by
  refine ab_enter hV (by decide) rfl (Nat.le_of_ble_eq_true rfl) ?_
  intro X B E
  have B : CX X l rm_X8_copy RX8 cX8_copy wsX8_copy 7 V ShM := B
  show AW X V ShM 7 0 [some (.ref (aL V 0)), some (.int (nI s)), some (.int b), some (.int (nI tt)), some (.int d), some (.int e), none] [] mu
  refine a_iload_n B dX8_copy_0 rfl ?_
  refine a_callSi B k_X8_copy_95 (c_X8_isSheet hV) rfl rfl (Nat.le_of_ble_eq_true rfl) dX8_copy_1 (fun r1 mu1 h1 => ?_)
  obtain ⟨rfl, rfl⟩ := h1
  refine a_if_eq_f (tgt := 14) B dX8_copy_4 (by decide) (bI_n0.mpr (inB_nI (n := 3) (by omega) (by decide))) ?_
  refine a_iload_n B dX8_copy_7 rfl ?_
  refine a_callSi B k_X8_copy_95 (c_X8_isSheet hV) rfl rfl (Nat.le_of_ble_eq_true rfl) dX8_copy_8 (fun r8 mu8 h8 => ?_)
  obtain ⟨rfl, rfl⟩ := h8
  refine a_if_ne_t (tgt := 17) B dX8_copy_11 (by decide) (bI_n0.mpr (inB_nI (n := 3) (by omega) (by decide))) ?_
  refine a_aload_n B dX8_copy_17 rfl ?_
  refine a_getr B fl_X8_copy_50 (by first | rfl | assumption) rfl dX8_copy_18 ?_
  refine a_iload_n B dX8_copy_21 rfl ?_
  refine a_zaldN B (s) (by first | rfl | assumption) rfl (by omega) (by decide) dX8_copy_22 ?_
  refine a_if_eq_f (tgt := 35) B dX8_copy_23 (by decide) (by rw [h1]; decide) ?_
  refine a_aload_n B dX8_copy_26 rfl ?_
  refine a_getr B fl_X8_copy_50 (by first | rfl | assumption) rfl dX8_copy_27 ?_
  refine a_iload_n B dX8_copy_30 rfl ?_
  refine a_zaldN B (tt) (by first | rfl | assumption) rfl (by omega) (by decide) dX8_copy_31 ?_
  refine a_if_ne_t (tgt := 41) B dX8_copy_32 (by decide) (by rw [h2]; decide) ?_
  refine a_aload_n B dX8_copy_41 rfl ?_
  refine a_getr B fl_X8_copy_53 (by first | rfl | assumption) rfl dX8_copy_42 ?_
  refine a_iload_n B dX8_copy_45 rfl ?_
  refine a_ialdN B (s) (by first | rfl | assumption) rfl (by omega) (by decide) dX8_copy_46 ?_
  refine a_aload_n B dX8_copy_47 rfl ?_
  refine a_getr B fl_X8_copy_53 (by first | rfl | assumption) rfl dX8_copy_48 ?_
  refine a_iload_n B dX8_copy_51 rfl ?_
  refine a_ialdN B (tt) (by first | rfl | assumption) rfl (by omega) (by decide) dX8_copy_52 ?_
  refine a_icmp_eq_t (tgt := 62) B dX8_copy_53 (by decide) (hf) ?_
  refine a_iload_n B dX8_copy_62 rfl ?_
  refine a_if_lt (tgt := 111) B dX8_copy_63 (by decide) (fun c63 => ?_) (fun c63 => ?_)
  · refine a_aload_n B dX8_copy_111 rfl ?_
    refine a_iconst (v := 2) B dX8_copy_112 (by decide) ?_
    refine a_callVi B k_X8_copy_98 (c_X8_meets hV) (by first | rfl | assumption) rfl rfl rfl (Nat.le_of_ble_eq_true rfl) dX8_copy_113 (fun r113 mu113 h113 => ?_)
    refine a_ireturn B E dX8_copy_116 ?_
    exact ⟨h113.1, h113.2⟩
  · refine a_iload B dX8_copy_66 rfl ?_
    refine a_if_lt (tgt := 111) B dX8_copy_68 (by decide) (fun c68 => ?_) (fun c68 => ?_)
    · refine a_aload_n B dX8_copy_111 rfl ?_
      refine a_iconst (v := 2) B dX8_copy_112 (by decide) ?_
      refine a_callVi B k_X8_copy_98 (c_X8_meets hV) (by first | rfl | assumption) rfl rfl rfl (Nat.le_of_ble_eq_true rfl) dX8_copy_113 (fun r113 mu113 h113 => ?_)
      refine a_ireturn B E dX8_copy_116 ?_
      exact ⟨h113.1, h113.2⟩
    · refine a_iload B dX8_copy_71 rfl ?_
      refine a_if_lt (tgt := 111) B dX8_copy_73 (by decide) (fun c73 => ?_) (fun c73 => ?_)
      · refine a_aload_n B dX8_copy_111 rfl ?_
        refine a_iconst (v := 2) B dX8_copy_112 (by decide) ?_
        refine a_callVi B k_X8_copy_98 (c_X8_meets hV) (by first | rfl | assumption) rfl rfl rfl (Nat.le_of_ble_eq_true rfl) dX8_copy_113 (fun r113 mu113 h113 => ?_)
        refine a_ireturn B E dX8_copy_116 ?_
        exact ⟨h113.1, h113.2⟩
      · refine a_iload_n B dX8_copy_76 rfl ?_
        refine a_i2l B dX8_copy_77 ?_
        refine a_iload B dX8_copy_78 rfl ?_
        refine a_i2l B dX8_copy_80 ?_
        refine a_ladd B dX8_copy_81 ?_
        refine a_aload_n B dX8_copy_82 rfl ?_
        refine a_getr B fl_X8_copy_56 (by first | rfl | assumption) rfl dX8_copy_83 ?_
        refine a_iload_n B dX8_copy_86 rfl ?_
        refine a_ialdN B (s) (by first | rfl | assumption) rfl (by omega) (by decide) dX8_copy_87 ?_
        refine a_i2l B dX8_copy_88 ?_
        refine a_lcmp B dX8_copy_89 ?_
        refine a_if_gt (tgt := 111) B dX8_copy_90 (by decide) (fun c90 => ?_) (fun c90 => ?_)
        · refine a_aload_n B dX8_copy_111 rfl ?_
          refine a_iconst (v := 2) B dX8_copy_112 (by decide) ?_
          refine a_callVi B k_X8_copy_98 (c_X8_meets hV) (by first | rfl | assumption) rfl rfl rfl (Nat.le_of_ble_eq_true rfl) dX8_copy_113 (fun r113 mu113 h113 => ?_)
          refine a_ireturn B E dX8_copy_116 ?_
          exact ⟨h113.1, h113.2⟩
        · refine a_iload B dX8_copy_93 rfl ?_
          refine a_i2l B dX8_copy_95 ?_
          refine a_iload B dX8_copy_96 rfl ?_
          refine a_i2l B dX8_copy_98 ?_
          refine a_ladd B dX8_copy_99 ?_
          refine a_aload_n B dX8_copy_100 rfl ?_
          refine a_getr B fl_X8_copy_56 (by first | rfl | assumption) rfl dX8_copy_101 ?_
          refine a_iload_n B dX8_copy_104 rfl ?_
          refine a_ialdN B (tt) (by first | rfl | assumption) rfl (by omega) (by decide) dX8_copy_105 ?_
          refine a_i2l B dX8_copy_106 ?_
          refine a_lcmp B dX8_copy_107 ?_
          refine a_if_le (tgt := 117) B dX8_copy_108 (by decide) (fun c108 => ?_) (fun c108 => ?_)
          · exact absurd ⟨c63, c68, c73, Int32.not_lt.mp c90, c108⟩ hno
          · refine a_aload_n B dX8_copy_111 rfl ?_
            refine a_iconst (v := 2) B dX8_copy_112 (by decide) ?_
            refine a_callVi B k_X8_copy_98 (c_X8_meets hV) (by first | rfl | assumption) rfl rfl rfl (Nat.le_of_ble_eq_true rfl) dX8_copy_113 (fun r113 mu113 h113 => ?_)
            refine a_ireturn B E dX8_copy_116 ?_
            exact ⟨h113.1, h113.2⟩
set_option maxHeartbeats 4000000 in
set_option maxRecDepth 100000 in
theorem c_X8_copy {l : Launch} {V : ab_V} {mu : ab_mem} {s tt i j n z1 z2 : Nat} (hV : ab_OK V ShM) (hs : s < 4) (ht : tt < 4) (h1 : mu 14 s = 1) (h2 : mu 14 tt = 1) (hf : mu 15 s = mu 15 tt) (hz1 : mu 16 s = nI z1) (hz2 : mu 16 tt = nI z2) (hz148 : z1 ≤ 48) (hz248 : z2 ≤ 48) (hin : i + n ≤ z1) (hjn : j + n ≤ z2) : CT l V ShM yX8_copy wsX8_copy rm_X8_copy [.ref (aL V 0), .int (nI s), .int (nI i), .int (nI tt), .int (nI j), .int (nI n)] mu (pI (fun r mu2 => r = 1 ∧ pM mu2 = pM (ab_row mu 17 (fb_put (mu 17) (fun k => mu 17 (48 * s + i + k)) (48 * tt + j) n)))) := by
  refine ab_enter hV (by decide) rfl (Nat.le_of_ble_eq_true rfl) ?_
  intro X B E
  have B : CX X l rm_X8_copy RX8 cX8_copy wsX8_copy 7 V ShM := B
  show AW X V ShM 7 0 [some (.ref (aL V 0)), some (.int (nI s)), some (.int (nI i)), some (.int (nI tt)), some (.int (nI j)), some (.int (nI n)), none] [] mu
  have lp2 : ∀ (m k : Nat), k + m = n → AW X V ShM 7 157 [some (.ref (aL V 0)), some (.int (nI s)), some (.int (nI i)), some (.int (nI tt)), some (.int (nI j)), some (.int (nI n)), some (.int (nI k))] [] (ab_row (ab_row mu 18 (fb_put (mu 18) (fun k => mu 17 (48 * s + i + k)) 0 n)) 17 (fb_put (mu 17) (fun k => mu 17 (48 * s + i + k)) (48 * tt + j) k)) := by
    intro m
    induction m with
    | zero =>
      intro k hk
      refine a_iload B dX8_copy_157 rfl ?_
      refine a_iload B dX8_copy_159 rfl ?_
      refine a_icmp_ge_t (tgt := 192) B dX8_copy_161 (by decide) (nI_le (by omega) (by omega)) ?_
      refine a_iconst (v := 1) B dX8_copy_192 (by decide) ?_
      refine a_ireturn B E dX8_copy_193 ?_
      exact ⟨rfl, by rw [show k = n by omega]; exact pM_row18⟩
    | succ m ih =>
      intro k hk
      refine a_iload B dX8_copy_157 rfl ?_
      refine a_iload B dX8_copy_159 rfl ?_
      refine a_icmp_ge_f (tgt := 192) B dX8_copy_161 (by decide) (nI_ge (by omega) (by omega)) ?_
      refine a_aload_n B dX8_copy_164 rfl ?_
      refine a_getr B fl_X8_copy_59 (by first | rfl | assumption) rfl dX8_copy_165 ?_
      refine a_bipush (v := 48) B dX8_copy_168 (by decide) ?_
      refine a_iload_n B dX8_copy_170 rfl ?_
      refine a_imul B dX8_copy_171 ?_
      refine a_iload B dX8_copy_172 rfl ?_
      refine a_iadd B dX8_copy_174 ?_
      refine a_iload B dX8_copy_175 rfl ?_
      refine a_iadd B dX8_copy_177 ?_
      refine a_aload_n B dX8_copy_178 rfl ?_
      refine a_getr B fl_X8_copy_62 (by first | rfl | assumption) rfl dX8_copy_179 ?_
      refine a_iload B dX8_copy_182 rfl ?_
      refine a_ialdN B (k) (by first | rfl | assumption) rfl (by omega) (by decide) dX8_copy_184 ?_
      rw [show (ab_row (ab_row mu 18 (fb_put (mu 18) (fun k => mu 17 (48 * s + i + k)) 0 n)) 17 (fb_put (mu 17) (fun k => mu 17 (48 * s + i + k)) (48 * tt + j) k)) 18 k = mu 17 (48 * s + i + k) by rw [ab_row_o (by decide), ab_row_s, fb_put_in (Nat.zero_le _) (by omega)]; rfl]
      refine a_iastN B (48 * tt + j + k) (by first | rfl | assumption) (ix48b _ _ _) (by omega) (by decide)  dX8_copy_185 ?_
      refine a_iinc (v := 1) B dX8_copy_186 rfl (by decide) (by decide) ?_
      refine a_goto (tgt := 157) B dX8_copy_189 (by decide) ?_
      rw [nI_1, ab_up_row, fb_put_succ (mu 17) (fun k => mu 17 (48 * s + i + k))]
      exact ih (k + 1) (by omega)
  have lp1 : ∀ (m k : Nat), k + m = n → AW X V ShM 7 120 [some (.ref (aL V 0)), some (.int (nI s)), some (.int (nI i)), some (.int (nI tt)), some (.int (nI j)), some (.int (nI n)), some (.int (nI k))] [] (ab_row mu 18 (fb_put (mu 18) (fun k => mu 17 (48 * s + i + k)) 0 k)) := by
    intro m
    induction m with
    | zero =>
      intro k hk
      refine a_iload B dX8_copy_120 rfl ?_
      refine a_iload B dX8_copy_122 rfl ?_
      refine a_icmp_ge_t (tgt := 154) B dX8_copy_124 (by decide) (nI_le (by omega) (by omega)) ?_
      refine a_iconst (v := 0) B dX8_copy_154 (by decide) ?_
      refine a_istore B dX8_copy_155 (by decide) ?_
      rw [show k = n by omega]
      have z := lp2 n 0 (by omega)
      have e17 : (ab_row mu 18 (fb_put (mu 18) (fun k => mu 17 (48 * s + i + k)) 0 n)) 17 = mu 17 := ab_row_o (by decide)
      have e : ab_row (ab_row mu 18 (fb_put (mu 18) (fun k => mu 17 (48 * s + i + k)) 0 n)) 17 (mu 17) = (ab_row mu 18 (fb_put (mu 18) (fun k => mu 17 (48 * s + i + k)) 0 n)) := by
        have h := @ab_row_self (ab_row mu 18 (fb_put (mu 18) (fun k => mu 17 (48 * s + i + k)) 0 n)) 17
        rw [e17] at h
        exact h
      rw [fb_put_0, e] at z
      exact z
    | succ m ih =>
      intro k hk
      refine a_iload B dX8_copy_120 rfl ?_
      refine a_iload B dX8_copy_122 rfl ?_
      refine a_icmp_ge_f (tgt := 154) B dX8_copy_124 (by decide) (nI_ge (by omega) (by omega)) ?_
      refine a_aload_n B dX8_copy_127 rfl ?_
      refine a_getr B fl_X8_copy_62 (by first | rfl | assumption) rfl dX8_copy_128 ?_
      refine a_iload B dX8_copy_131 rfl ?_
      refine a_aload_n B dX8_copy_133 rfl ?_
      refine a_getr B fl_X8_copy_59 (by first | rfl | assumption) rfl dX8_copy_134 ?_
      refine a_bipush (v := 48) B dX8_copy_137 (by decide) ?_
      refine a_iload_n B dX8_copy_139 rfl ?_
      refine a_imul B dX8_copy_140 ?_
      refine a_iload_n B dX8_copy_141 rfl ?_
      refine a_iadd B dX8_copy_142 ?_
      refine a_iload B dX8_copy_143 rfl ?_
      refine a_iadd B dX8_copy_145 ?_
      refine a_ialdN B (48 * s + i + k) (by first | rfl | assumption) (ix48b _ _ _) (by omega) (by decide) dX8_copy_146 ?_
      rw [ab_row_o (by decide)]
      refine a_iastN B (k) (by first | rfl | assumption) rfl (by omega) (by decide)  dX8_copy_147 ?_
      refine a_iinc (v := 1) B dX8_copy_148 rfl (by decide) (by decide) ?_
      refine a_goto (tgt := 120) B dX8_copy_151 (by decide) ?_
      rw [nI_1, ab_up_row]
      have z := fb_put_succ (mu 18) (fun k => mu 17 (48 * s + i + k)) 0 k
      rw [Nat.zero_add] at z
      rw [z]
      exact ih (k + 1) (by omega)
  refine a_iload_n B dX8_copy_0 rfl ?_
  refine a_callSi B k_X8_copy_95 (c_X8_isSheet hV) rfl rfl (Nat.le_of_ble_eq_true rfl) dX8_copy_1 (fun r1 mu1 h1 => ?_)
  obtain ⟨rfl, rfl⟩ := h1
  refine a_if_eq_f (tgt := 14) B dX8_copy_4 (by decide) (bI_n0.mpr (inB_nI (n := 3) (by omega) (by decide))) ?_
  refine a_iload_n B dX8_copy_7 rfl ?_
  refine a_callSi B k_X8_copy_95 (c_X8_isSheet hV) rfl rfl (Nat.le_of_ble_eq_true rfl) dX8_copy_8 (fun r8 mu8 h8 => ?_)
  obtain ⟨rfl, rfl⟩ := h8
  refine a_if_ne_t (tgt := 17) B dX8_copy_11 (by decide) (bI_n0.mpr (inB_nI (n := 3) (by omega) (by decide))) ?_
  refine a_aload_n B dX8_copy_17 rfl ?_
  refine a_getr B fl_X8_copy_50 (by first | rfl | assumption) rfl dX8_copy_18 ?_
  refine a_iload_n B dX8_copy_21 rfl ?_
  refine a_zaldN B (s) (by first | rfl | assumption) rfl (by omega) (by decide) dX8_copy_22 ?_
  refine a_if_eq_f (tgt := 35) B dX8_copy_23 (by decide) (by rw [h1]; decide) ?_
  refine a_aload_n B dX8_copy_26 rfl ?_
  refine a_getr B fl_X8_copy_50 (by first | rfl | assumption) rfl dX8_copy_27 ?_
  refine a_iload_n B dX8_copy_30 rfl ?_
  refine a_zaldN B (tt) (by first | rfl | assumption) rfl (by omega) (by decide) dX8_copy_31 ?_
  refine a_if_ne_t (tgt := 41) B dX8_copy_32 (by decide) (by rw [h2]; decide) ?_
  refine a_aload_n B dX8_copy_41 rfl ?_
  refine a_getr B fl_X8_copy_53 (by first | rfl | assumption) rfl dX8_copy_42 ?_
  refine a_iload_n B dX8_copy_45 rfl ?_
  refine a_ialdN B (s) (by first | rfl | assumption) rfl (by omega) (by decide) dX8_copy_46 ?_
  refine a_aload_n B dX8_copy_47 rfl ?_
  refine a_getr B fl_X8_copy_53 (by first | rfl | assumption) rfl dX8_copy_48 ?_
  refine a_iload_n B dX8_copy_51 rfl ?_
  refine a_ialdN B (tt) (by first | rfl | assumption) rfl (by omega) (by decide) dX8_copy_52 ?_
  refine a_icmp_eq_t (tgt := 62) B dX8_copy_53 (by decide) (hf) ?_
  refine a_iload_n B dX8_copy_62 rfl ?_
  refine a_if_lt_f (tgt := 111) B dX8_copy_63 (by decide) (nI_pos (by omega)) ?_
  refine a_iload B dX8_copy_66 rfl ?_
  refine a_if_lt_f (tgt := 111) B dX8_copy_68 (by decide) (nI_pos (by omega)) ?_
  refine a_iload B dX8_copy_71 rfl ?_
  refine a_if_lt_f (tgt := 111) B dX8_copy_73 (by decide) (nI_pos (by omega)) ?_
  refine a_iload_n B dX8_copy_76 rfl ?_
  refine a_i2l B dX8_copy_77 ?_
  refine a_iload B dX8_copy_78 rfl ?_
  refine a_i2l B dX8_copy_80 ?_
  refine a_ladd B dX8_copy_81 ?_
  refine a_aload_n B dX8_copy_82 rfl ?_
  refine a_getr B fl_X8_copy_56 (by first | rfl | assumption) rfl dX8_copy_83 ?_
  refine a_iload_n B dX8_copy_86 rfl ?_
  refine a_ialdN B (s) (by first | rfl | assumption) rfl (by omega) (by decide) dX8_copy_87 ?_
  refine a_i2l B dX8_copy_88 ?_
  refine a_lcmp B dX8_copy_89 ?_
  refine a_if_gt_f (tgt := 111) B dX8_copy_90 (by decide) (by rw [hz1]; exact Int32.not_lt.mpr ((lgc (by omega) (by omega)).mpr hin)) ?_
  refine a_iload B dX8_copy_93 rfl ?_
  refine a_i2l B dX8_copy_95 ?_
  refine a_iload B dX8_copy_96 rfl ?_
  refine a_i2l B dX8_copy_98 ?_
  refine a_ladd B dX8_copy_99 ?_
  refine a_aload_n B dX8_copy_100 rfl ?_
  refine a_getr B fl_X8_copy_56 (by first | rfl | assumption) rfl dX8_copy_101 ?_
  refine a_iload_n B dX8_copy_104 rfl ?_
  refine a_ialdN B (tt) (by first | rfl | assumption) rfl (by omega) (by decide) dX8_copy_105 ?_
  refine a_i2l B dX8_copy_106 ?_
  refine a_lcmp B dX8_copy_107 ?_
  refine a_if_le_t (tgt := 117) B dX8_copy_108 (by decide) (by rw [hz2]; exact (lgc (by omega) (by omega)).mpr hjn) ?_
  refine a_iconst (v := 0) B dX8_copy_117 (by decide) ?_
  refine a_istore B dX8_copy_118 (by decide) ?_
  have z := lp1 n 0 (by omega)
  rw [fb_put_0, ab_row_self] at z
  exact z
abbrev rm_X8_write : Room := { frames := 5, cells := 0, slots := 0, locals := 112 }
set_option maxRecDepth 20000 in
theorem us_X8_write_8 : ∀ w ∈ u_ws RX8 TX8 23, w ∈ wsX8_write := by decide +kernel
set_option maxRecDepth 20000 in
theorem fl_X8_write_28 : FL RX8 wsX8_write 28 8 9 := ⟨RX8, TX8, 23, rfl, by decide, us_X8_write_8, by decide +kernel⟩
set_option maxRecDepth 20000 in
theorem fl_X8_write_50 : FL RX8 wsX8_write 50 8 17 := ⟨RX8, TX8, 23, rfl, by decide, us_X8_write_8, by decide +kernel⟩
set_option maxRecDepth 20000 in
theorem fl_X8_write_56 : FL RX8 wsX8_write 56 8 19 := ⟨RX8, TX8, 23, rfl, by decide, us_X8_write_8, by decide +kernel⟩
theorem k_X8_write_75 : KS RX8 wsX8_write rm_X8_write 75 yX8_isGeneral wsX8_isGeneral rm_X8_isGeneral 1 := ⟨_, _, _, _, gX8_write_X8_isGeneral, rfl, rfl, rfl, by decide +kernel, by decide⟩
theorem k_X8_write_95 : KS RX8 wsX8_write rm_X8_write 95 yX8_isSheet wsX8_isSheet rm_X8_isSheet 1 := ⟨_, _, _, _, gX8_write_X8_isSheet, rfl, rfl, rfl, by decide +kernel, by decide⟩
theorem k_X8_write_98 : KV RX8 wsX8_write rm_X8_write 98 RX8 yX8_meets wsX8_meets rm_X8_meets 1 := ⟨_, _, _, _, gX8_write_X8_meets, rfl, rfl, rfl, by decide +kernel, by decide⟩
theorem k_X8_write_119 : KV RX8 wsX8_write rm_X8_write 119 RX8 yX8_laysAll wsX8_laysAll rm_X8_laysAll 0 := ⟨_, _, _, _, gX8_write_X8_laysAll, rfl, rfl, rfl, by decide +kernel, by decide⟩
theorem k_X8_write_213 : KV RX8 wsX8_write rm_X8_write 213 RX8 yX8_keep wsX8_keep rm_X8_keep 3 := ⟨_, _, _, _, gX8_write_X8_keep, rfl, rfl, rfl, by decide +kernel, by decide⟩

set_option maxHeartbeats 4000000 in
set_option maxRecDepth 100000 in
theorem c_X8_write {l : Launch} {V : ab_V} {mu : ab_mem} {g s z : Nat} (hV : ab_OK V ShM) (hi : IM mu) (hg : g < 3) (hs : s < 4) (hth : mu 14 s = 1) (hz : mu 16 s = nI z) (hz48 : z ≤ 48) : CT l V ShM yX8_write wsX8_write rm_X8_write [.ref (aL V 0), .int (nI g), .int (nI s)] mu (pI (fun r mu2 => r = nI (min z 24) ∧ pM mu2 = pM (ab_row mu 17 (fb_put (mu 17) (fun k => cvF (mu 15 s) (lM mu g 0 99 (k + 1))) (48 * s) (min z 24))))) := by
  refine ab_enter hV (by decide) rfl (Nat.le_of_ble_eq_true rfl) ?_
  intro X B E
  have B : CX X l rm_X8_write RX8 cX8_write wsX8_write 4 V ShM := B
  show AW X V ShM 4 0 [some (.ref (aL V 0)), some (.int (nI g)), some (.int (nI s)), none] [] mu
  have loop : ∀ mu1, LA mu mu1 → ∀ (m k : Nat), k + m = min z 24 → AW X V ShM 4 38 [some (.ref (aL V 0)), some (.int (nI g)), some (.int (nI s)), some (.int (nI k))] [] (ab_row mu1 17 (fb_put (mu1 17) (fun k => cvF (mu 15 s) (lM mu g 0 99 (k + 1))) (48 * s) k)) := by
    intro mu1 h1 m
    induction m with
    | zero =>
      intro k hk
      refine a_iload_n B dX8_write_38 rfl ?_
      refine a_aload_n B dX8_write_39 rfl ?_
      refine a_getr B fl_X8_write_56 (by first | rfl | assumption) rfl dX8_write_40 ?_
      refine a_iload_n B dX8_write_43 rfl ?_
      refine a_ialdN B (s) (by first | rfl | assumption) rfl (by omega) (by decide) dX8_write_44 ?_
      rw [ab_row_o (by decide), pM_at h1.1 16 rfl, hz]
      refine a_icmp_ge (tgt := 77) B dX8_write_45 (by decide) (fun c45 => ?_) (fun c45 => ?_)
      · refine a_iload_n B dX8_write_77 rfl ?_
        refine a_ireturn B E dX8_write_78 ?_
        rw [show k = min z 24 by omega]
        exact ⟨rfl, by rw [pM_at h1.1 17 rfl]; exact pM_row h1.1 17 _⟩
      · refine a_iload_n B dX8_write_48 rfl ?_
        refine a_bipush (v := 24) B dX8_write_49 (by decide) ?_
        refine a_icmp_ge (tgt := 77) B dX8_write_51 (by decide) (fun c51 => ?_) (fun c51 => ?_)
        · refine a_iload_n B dX8_write_77 rfl ?_
          refine a_ireturn B E dX8_write_78 ?_
          rw [show k = min z 24 by omega]
          exact ⟨rfl, by rw [pM_at h1.1 17 rfl]; exact pM_row h1.1 17 _⟩
        · exfalso
          have q1 : k < z := Nat.lt_of_not_le fun q => c45 (nI_le q (by omega))
          have q2 : k < 24 := Nat.lt_of_not_le fun q => c51 (nI_le (a := 24) q (by omega))
          omega
    | succ m ih =>
      intro k hk
      refine a_iload_n B dX8_write_38 rfl ?_
      refine a_aload_n B dX8_write_39 rfl ?_
      refine a_getr B fl_X8_write_56 (by first | rfl | assumption) rfl dX8_write_40 ?_
      refine a_iload_n B dX8_write_43 rfl ?_
      refine a_ialdN B (s) (by first | rfl | assumption) rfl (by omega) (by decide) dX8_write_44 ?_
      refine a_icmp_ge_f (tgt := 77) B dX8_write_45 (by decide) (by rw [ab_row_o (by decide), pM_at h1.1 16 rfl, hz]; exact nI_ge (by omega) (by omega)) ?_
      refine a_iload_n B dX8_write_48 rfl ?_
      refine a_bipush (v := 24) B dX8_write_49 (by decide) ?_
      refine a_icmp_ge_f (tgt := 77) B dX8_write_51 (by decide) (nI_ge (a := k) (b := 24) (by omega) (by decide)) ?_
      refine a_aload_n B dX8_write_54 rfl ?_
      refine a_iload_n B dX8_write_55 rfl ?_
      refine a_iload_n B dX8_write_56 rfl ?_
      refine a_aload_n B dX8_write_57 rfl ?_
      refine a_getr B fl_X8_write_28 (by first | rfl | assumption) rfl dX8_write_58 ?_
      refine a_bipush (v := 24) B dX8_write_61 (by decide) ?_
      refine a_iload_n B dX8_write_63 rfl ?_
      refine a_imul B dX8_write_64 ?_
      refine a_iload_n B dX8_write_65 rfl ?_
      refine a_iadd B dX8_write_66 ?_
      refine a_ialdN B (24 * g + k) (by first | rfl | assumption) (ix24 g k) (by omega) (by decide) dX8_write_67 ?_
      rw [ab_row_o (by decide), (h1.2 g hg).2.1 k (by omega)]
      refine a_callVv B k_X8_write_213 (c_X8_keep hV hs (by omega)) (by first | rfl | assumption) rfl rfl rfl (Nat.le_of_ble_eq_true rfl) dX8_write_68 (fun mu68 h68 => ?_)
      rw [ab_up_row, ab_row_o (by decide), pM_at h1.1 15 rfl, fb_put_succ (mu1 17) (fun k => cvF (mu 15 s) (lM mu g 0 99 (k + 1)))] at h68
      subst h68
      refine a_iinc (v := 1) B dX8_write_71 rfl (by decide) (by decide) ?_
      refine a_goto (tgt := 38) B dX8_write_74 (by decide) ?_
      rw [nI_1]
      exact ih (k + 1) (by omega)
  refine a_iload_n B dX8_write_0 rfl ?_
  refine a_callSi B k_X8_write_75 (c_X8_isGeneral hV) rfl rfl (Nat.le_of_ble_eq_true rfl) dX8_write_1 (fun r1 mu1 h1 => ?_)
  obtain ⟨rfl, rfl⟩ := h1
  refine a_if_eq_f (tgt := 14) B dX8_write_4 (by decide) (bI_n0.mpr (inB_nI (n := 2) (by omega) (by decide))) ?_
  refine a_iload_n B dX8_write_7 rfl ?_
  refine a_callSi B k_X8_write_95 (c_X8_isSheet hV) rfl rfl (Nat.le_of_ble_eq_true rfl) dX8_write_8 (fun r8 mu8 h8 => ?_)
  obtain ⟨rfl, rfl⟩ := h8
  refine a_if_ne_t (tgt := 17) B dX8_write_11 (by decide) (bI_n0.mpr (inB_nI (n := 3) (by omega) (by decide))) ?_
  refine a_aload_n B dX8_write_17 rfl ?_
  refine a_getr B fl_X8_write_50 (by first | rfl | assumption) rfl dX8_write_18 ?_
  refine a_iload_n B dX8_write_21 rfl ?_
  refine a_zaldN B (s) (by first | rfl | assumption) rfl (by omega) (by decide) dX8_write_22 ?_
  refine a_if_ne_t (tgt := 32) B dX8_write_23 (by decide) (by rw [hth]; decide) ?_
  refine a_aload_n B dX8_write_32 rfl ?_
  refine a_callVv B k_X8_write_119 (c_X8_laysAll hV hi) (by first | rfl | assumption) rfl rfl rfl (Nat.le_of_ble_eq_true rfl) dX8_write_33 (fun mu33 h33 => ?_)
  refine a_iconst (v := 0) B dX8_write_36 (by decide) ?_
  refine a_istore_n B dX8_write_37 (by decide) ?_
  have loop := loop mu33 h33 (min z 24) 0 (by omega)
  rw [fb_put_0, ab_row_self] at loop
  exact loop
set_option maxHeartbeats 4000000 in
set_option maxRecDepth 100000 in
theorem c_X8_write_no {l : Launch} {V : ab_V} {mu : ab_mem} {g s : Nat} (hV : ab_OK V ShM) (hg : g < 3) (hs : s < 4) (hth : mu 14 s = 0) : CT l V ShM yX8_write wsX8_write rm_X8_write [.ref (aL V 0), .int (nI g), .int (nI s)] mu (pI (fun r mu2 => r = -11 ∧ mu2 = ab_up mu 0 22 1)) := by
  refine ab_enter hV (by decide) rfl (Nat.le_of_ble_eq_true rfl) ?_
  intro X B E
  have B : CX X l rm_X8_write RX8 cX8_write wsX8_write 4 V ShM := B
  show AW X V ShM 4 0 [some (.ref (aL V 0)), some (.int (nI g)), some (.int (nI s)), none] [] mu
  refine a_iload_n B dX8_write_0 rfl ?_
  refine a_callSi B k_X8_write_75 (c_X8_isGeneral hV) rfl rfl (Nat.le_of_ble_eq_true rfl) dX8_write_1 (fun r1 mu1 h1 => ?_)
  obtain ⟨rfl, rfl⟩ := h1
  refine a_if_eq_f (tgt := 14) B dX8_write_4 (by decide) (bI_n0.mpr (inB_nI (n := 2) (by omega) (by decide))) ?_
  refine a_iload_n B dX8_write_7 rfl ?_
  refine a_callSi B k_X8_write_95 (c_X8_isSheet hV) rfl rfl (Nat.le_of_ble_eq_true rfl) dX8_write_8 (fun r8 mu8 h8 => ?_)
  obtain ⟨rfl, rfl⟩ := h8
  refine a_if_ne_t (tgt := 17) B dX8_write_11 (by decide) (bI_n0.mpr (inB_nI (n := 3) (by omega) (by decide))) ?_
  refine a_aload_n B dX8_write_17 rfl ?_
  refine a_getr B fl_X8_write_50 (by first | rfl | assumption) rfl dX8_write_18 ?_
  refine a_iload_n B dX8_write_21 rfl ?_
  refine a_zaldN B (s) (by first | rfl | assumption) rfl (by omega) (by decide) dX8_write_22 ?_
  refine a_if_ne_f (tgt := 32) B dX8_write_23 (by decide) (hth) ?_
  refine a_aload_n B dX8_write_26 rfl ?_
  refine a_iconst (v := 1) B dX8_write_27 (by decide) ?_
  refine a_callVi B k_X8_write_98 (c_X8_meets hV) (by first | rfl | assumption) rfl rfl rfl (Nat.le_of_ble_eq_true rfl) dX8_write_28 (fun r28 mu28 h28 => ?_)
  refine a_ireturn B E dX8_write_31 ?_
  exact ⟨h28.1, h28.2⟩
set_option maxHeartbeats 4000000 in
set_option maxRecDepth 100000 in
theorem c_X8_write_bad {l : Launch} {V : ab_V} {mu : ab_mem} {a b : Int32} (hV : ab_OK V ShM) (hbad : ¬ (inB a 0 2 = true ∧ inB b 0 3 = true)) : CT l V ShM yX8_write wsX8_write rm_X8_write [.ref (aL V 0), .int a, .int b] mu (pI (fun r mu2 => r = -2 ∧ mu = mu2)) := by
  refine ab_enter hV (by decide) rfl (Nat.le_of_ble_eq_true rfl) ?_
  intro X B E
  have B : CX X l rm_X8_write RX8 cX8_write wsX8_write 4 V ShM := B
  show AW X V ShM 4 0 [some (.ref (aL V 0)), some (.int a), some (.int b), none] [] mu
  refine a_iload_n B dX8_write_0 rfl ?_
  refine a_callSi B k_X8_write_75 (c_X8_isGeneral hV) rfl rfl (Nat.le_of_ble_eq_true rfl) dX8_write_1 (fun r1 mu1 h1 => ?_)
  obtain ⟨rfl, rfl⟩ := h1
  refine a_if_eq (tgt := 14) B dX8_write_4 (by decide) (fun c4 => ?_) (fun c4 => ?_)
  · refine a_bipush (v := -2) B dX8_write_14 (by decide) ?_
    refine a_ireturn B E dX8_write_16 ?_
    exact ⟨rfl, rfl⟩
  · refine a_iload_n B dX8_write_7 rfl ?_
    refine a_callSi B k_X8_write_95 (c_X8_isSheet hV) rfl rfl (Nat.le_of_ble_eq_true rfl) dX8_write_8 (fun r8 mu8 h8 => ?_)
    obtain ⟨rfl, rfl⟩ := h8
    refine a_if_ne (tgt := 17) B dX8_write_11 (by decide) (fun c11 => ?_) (fun c11 => ?_)
    · exfalso
      simp_all [bI_0, bI_n0]
    · refine a_bipush (v := -2) B dX8_write_14 (by decide) ?_
      refine a_ireturn B E dX8_write_16 ?_
      exact ⟨rfl, rfl⟩
def psF (pr f : Nat → Int32) : Nat → Int32
  | 0 => 0
  | k + 1 => psF pr f k + pr (f k).toNatClampNeg
def psM (mu : ab_mem) (g : Nat) : Int32 := psF (mu 5) (fM mu g) (tM mu g)
abbrev rm_X8_sumOf : Room := { frames := 3, cells := 0, slots := 0, locals := 63 }
set_option maxRecDepth 20000 in
theorem us_X8_sumOf_8 : ∀ w ∈ u_ws RX8 TX8 23, w ∈ wsX8_sumOf := by decide +kernel
set_option maxRecDepth 20000 in
theorem fl_X8_sumOf_13 : FL RX8 wsX8_sumOf 13 8 1 := ⟨RX8, TX8, 23, rfl, by decide, us_X8_sumOf_8, by decide +kernel⟩
set_option maxRecDepth 20000 in
theorem fl_X8_sumOf_22 : FL RX8 wsX8_sumOf 22 8 4 := ⟨RX8, TX8, 23, rfl, by decide, us_X8_sumOf_8, by decide +kernel⟩
set_option maxRecDepth 20000 in
theorem fl_X8_sumOf_92 : FL RX8 wsX8_sumOf 92 8 7 := ⟨RX8, TX8, 23, rfl, by decide, us_X8_sumOf_8, by decide +kernel⟩
theorem k_X8_sumOf_79 : KS RX8 wsX8_sumOf rm_X8_sumOf 79 yX8_dishBy wsX8_dishBy rm_X8_dishBy 1 := ⟨_, _, _, _, gX8_sumOf_X8_dishBy, rfl, rfl, rfl, by decide +kernel, by decide⟩
theorem k_X8_sumOf_104 : KV RX8 wsX8_sumOf rm_X8_sumOf 104 RX8 yX8_toldMany wsX8_toldMany rm_X8_toldMany 1 := ⟨_, _, _, _, gX8_sumOf_X8_toldMany, rfl, rfl, rfl, by decide +kernel, by decide⟩
theorem k_X8_sumOf_201 : KS RX8 wsX8_sumOf rm_X8_sumOf 201 yX8_ones wsX8_ones rm_X8_ones 1 := ⟨_, _, _, _, gX8_sumOf_X8_ones, rfl, rfl, rfl, by decide +kernel, by decide⟩

set_option maxHeartbeats 4000000 in
set_option maxRecDepth 100000 in
theorem c_X8_sumOf_6 {l : Launch} {V : ab_V} {mu : ab_mem}  (hV : ab_OK V ShM) (hi : IM mu)  : CT l V ShM yX8_sumOf wsX8_sumOf rm_X8_sumOf [.ref (aL V 0), .int 6] mu (pI (fun r mu2 => r = psM mu 0 + psM mu 1 ∧ mu = mu2)) := by
  refine ab_enter hV (by decide) rfl (Nat.le_of_ble_eq_true rfl) ?_
  intro X B E
  have B : CX X l rm_X8_sumOf RX8 cX8_sumOf wsX8_sumOf 5 V ShM := B
  show AW X V ShM 5 0 [some (.ref (aL V 0)), some (.int 6), none, none, none] [] mu
  have loop : ∀ (m g : Nat), g + m = 2 → AW X V ShM 5 4 [some (.ref (aL V 0)), some (.int 6), some (.int (if g = 0 then 0 else if g = 1 then psM mu 0 else psM mu 0 + psM mu 1)), some (.int (nI g)), none] [] mu := by
    intro m
    induction m with
    | zero =>
      intro g hg
      have e : g = 2 := by omega
      subst e
      refine a_iload_n B dX8_sumOf_4 rfl ?_
      refine a_iconst (v := 2) B dX8_sumOf_5 (by decide) ?_
      refine a_icmp_ge_t (tgt := 63) B dX8_sumOf_6 (by decide) (by decide) ?_
      refine a_iload_n B dX8_sumOf_63 rfl ?_
      refine a_iconst (v := 3) B dX8_sumOf_64 (by decide) ?_
      refine a_icmp_ge_t (tgt := 76) B dX8_sumOf_65 (by decide) (by decide) ?_
      refine a_iload_n B dX8_sumOf_76 rfl ?_
      refine a_bipush (v := 7) B dX8_sumOf_77 (by decide) ?_
      refine a_icmp_ne_t (tgt := 92) B dX8_sumOf_79 (by decide) (by decide) ?_
      refine a_iload_n B dX8_sumOf_92 rfl ?_
      refine a_ireturn B E dX8_sumOf_93 ?_
      exact ⟨rfl, rfl⟩
    | succ m ih =>
      intro g hg
      have inn : ∀ (mk k : Nat), k + mk = tM mu g → AW X V ShM 5 12 [some (.ref (aL V 0)), some (.int 6), some (.int ((if g = 0 then 0 else if g = 1 then psM mu 0 else psM mu 0 + psM mu 1) + psF (mu 5) (fM mu g) k)), some (.int (nI g)), some (.int (nI k))] [] mu := by
        intro mk
        induction mk with
        | zero =>
          intro k hk
          refine a_iload B dX8_sumOf_12 rfl ?_
          refine a_aload_n B dX8_sumOf_14 rfl ?_
          refine a_iload_n B dX8_sumOf_15 rfl ?_
          refine a_callVi B k_X8_sumOf_104 (c_X8_toldMany hV (by omega) (hi.1 _ (by omega)).2 (hi.1 _ (by omega)).1) (by first | rfl | assumption) rfl rfl rfl (Nat.le_of_ble_eq_true rfl) dX8_sumOf_16 (fun r16 mu16 h16 => ?_)
          obtain ⟨rfl, rfl⟩ := h16
          refine a_icmp_ge_t (tgt := 57) B dX8_sumOf_19 (by decide) (nI_le (a := tM mu g) (b := k) (by omega) (by have := tM_le hi (g := g) (by omega); omega)) ?_
          refine a_iinc (v := 1) B dX8_sumOf_57 rfl (by decide) (by decide) ?_
          refine a_goto (tgt := 4) B dX8_sumOf_60 (by decide) ?_
          refine a_fg 4 ?_
          rw [nI_1]
          have e := ih (g + 1) (by omega)
          have ek : k = tM mu g := by omega
          subst ek
          rcases (show g = 0 ∨ g = 1 by omega) with rfl | rfl
          · rw [show (if 0 = 0 then (0 : Int32) else if 0 = 1 then psM mu 0 else psM mu 0 + psM mu 1) + psF (mu 5) (fM mu 0) (tM mu 0) = psM mu 0 from Int32.zero_add _]
            exact e
          · exact e
        | succ mk ihk =>
          intro k hk
          refine a_iload B dX8_sumOf_12 rfl ?_
          refine a_aload_n B dX8_sumOf_14 rfl ?_
          refine a_iload_n B dX8_sumOf_15 rfl ?_
          refine a_callVi B k_X8_sumOf_104 (c_X8_toldMany hV (by omega) (hi.1 _ (by omega)).2 (hi.1 _ (by omega)).1) (by first | rfl | assumption) rfl rfl rfl (Nat.le_of_ble_eq_true rfl) dX8_sumOf_16 (fun r16 mu16 h16 => ?_)
          obtain ⟨rfl, rfl⟩ := h16
          refine a_icmp_ge_f (tgt := 57) B dX8_sumOf_19 (by decide) (nI_ge (a := k) (b := tM mu g) (by omega) (by have := tM_le hi (g := g) (by omega); omega)) ?_
          refine a_iload_n B dX8_sumOf_22 rfl ?_
          refine a_bipush (v := 6) B dX8_sumOf_23 (by decide) ?_
          refine a_icmp_ne_f (tgt := 57) B dX8_sumOf_25 (by decide) (rfl) ?_
          refine a_iload_n B dX8_sumOf_28 rfl ?_
          refine a_aload_n B dX8_sumOf_29 rfl ?_
          refine a_getr B fl_X8_sumOf_22 (by first | rfl | assumption) rfl dX8_sumOf_30 ?_
          refine a_aload_n B dX8_sumOf_33 rfl ?_
          refine a_getr B fl_X8_sumOf_13 (by first | rfl | assumption) rfl dX8_sumOf_34 ?_
          refine a_bipush (v := 24) B dX8_sumOf_37 (by decide) ?_
          refine a_iload_n B dX8_sumOf_39 rfl ?_
          refine a_imul B dX8_sumOf_40 ?_
          refine a_iload B dX8_sumOf_41 rfl ?_
          refine a_iadd B dX8_sumOf_43 ?_
          refine a_ialdN B (24 * g + k) (by first | rfl | assumption) (ix24 g k) (by have := tM_le hi (g := g) (by omega); omega) (by decide) dX8_sumOf_44 ?_
          refine a_callSi B k_X8_sumOf_79 (c_X8_dishBy hV) rfl rfl (Nat.le_of_ble_eq_true rfl) dX8_sumOf_45 (fun r45 mu45 h45 => ?_)
          obtain ⟨rfl, rfl⟩ := h45
          refine a_iald B (by first | rfl | assumption) (fM_in hi (g := g) (by omega) k (by omega)) dX8_sumOf_48 ?_
          refine a_iadd B dX8_sumOf_49 ?_
          refine a_istore_n B dX8_sumOf_50 (by decide) ?_
          refine a_iinc (v := 1) B dX8_sumOf_51 rfl (by decide) (by decide) ?_
          refine a_goto (tgt := 12) B dX8_sumOf_54 (by decide) ?_
          rw [nI_1]
          have e := ihk (k + 1) (by omega)
          rw [psF, ← Int32.add_assoc] at e
          exact e
      refine a_iload_n B dX8_sumOf_4 rfl ?_
      refine a_iconst (v := 2) B dX8_sumOf_5 (by decide) ?_
      refine a_icmp_ge_f (tgt := 63) B dX8_sumOf_6 (by decide) (nI_ge (a := g) (b := 2) (by omega) (by decide)) ?_
      refine a_iconst (v := 0) B dX8_sumOf_9 (by decide) ?_
      refine a_istore B dX8_sumOf_10 (by decide) ?_
      have e := inn (tM mu g) 0 (by omega)
      rw [psF, Int32.add_zero] at e
      exact e
  refine a_iconst (v := 0) B dX8_sumOf_0 (by decide) ?_
  refine a_istore_n B dX8_sumOf_1 (by decide) ?_
  refine a_iconst (v := 0) B dX8_sumOf_2 (by decide) ?_
  refine a_istore_n B dX8_sumOf_3 (by decide) ?_
  exact loop 2 0 rfl
set_option maxHeartbeats 4000000 in
set_option maxRecDepth 100000 in
theorem c_X8_sumOf_g {l : Launch} {V : ab_V} {mu : ab_mem} {q : Nat} (hV : ab_OK V ShM) (hi : IM mu) (hq : q < 3) : CT l V ShM yX8_sumOf wsX8_sumOf rm_X8_sumOf [.ref (aL V 0), .int (nI q)] mu (pI (fun r mu2 => r = nI (tM mu q) ∧ mu = mu2)) := by
  refine ab_enter hV (by decide) rfl (Nat.le_of_ble_eq_true rfl) ?_
  intro X B E
  have B : CX X l rm_X8_sumOf RX8 cX8_sumOf wsX8_sumOf 5 V ShM := B
  show AW X V ShM 5 0 [some (.ref (aL V 0)), some (.int (nI q)), none, none, none] [] mu
  have loop : ∀ (m g : Nat), g + m = 2 → AW X V ShM 5 4 [some (.ref (aL V 0)), some (.int (nI q)), some (.int 0), some (.int (nI g)), none] [] mu := by
    intro m
    induction m with
    | zero =>
      intro g hg
      have e : g = 2 := by omega
      subst e
      refine a_iload_n B dX8_sumOf_4 rfl ?_
      refine a_iconst (v := 2) B dX8_sumOf_5 (by decide) ?_
      refine a_icmp_ge_t (tgt := 63) B dX8_sumOf_6 (by decide) (by decide) ?_
      refine a_iload_n B dX8_sumOf_63 rfl ?_
      refine a_iconst (v := 3) B dX8_sumOf_64 (by decide) ?_
      refine a_icmp_ge_f (tgt := 76) B dX8_sumOf_65 (by decide) (nI_ge (a := q) (b := 3) (by omega) (by decide)) ?_
      refine a_aload_n B dX8_sumOf_68 rfl ?_
      refine a_iload_n B dX8_sumOf_69 rfl ?_
      refine a_callVi B k_X8_sumOf_104 (c_X8_toldMany hV (by omega) (hi.1 _ (by omega)).2 (hi.1 _ (by omega)).1) (by first | rfl | assumption) rfl rfl rfl (Nat.le_of_ble_eq_true rfl) dX8_sumOf_70 (fun r70 mu70 h70 => ?_)
      obtain ⟨rfl, rfl⟩ := h70
      refine a_goto (tgt := 93) B dX8_sumOf_73 (by decide) ?_
      refine a_ireturn B E dX8_sumOf_93 ?_
      exact ⟨rfl, rfl⟩
    | succ m ih =>
      intro g hg
      refine a_iload_n B dX8_sumOf_4 rfl ?_
      refine a_iconst (v := 2) B dX8_sumOf_5 (by decide) ?_
      refine a_icmp_ge_f (tgt := 63) B dX8_sumOf_6 (by decide) (nI_ge (a := g) (b := 2) (by omega) (by decide)) ?_
      refine a_iconst (v := 0) B dX8_sumOf_9 (by decide) ?_
      refine a_istore B dX8_sumOf_10 (by decide) ?_
      refine a_iload B dX8_sumOf_12 rfl ?_
      refine a_aload_n B dX8_sumOf_14 rfl ?_
      refine a_iload_n B dX8_sumOf_15 rfl ?_
      refine a_callVi B k_X8_sumOf_104 (c_X8_toldMany hV (by omega) (hi.1 _ (by omega)).2 (hi.1 _ (by omega)).1) (by first | rfl | assumption) rfl rfl rfl (Nat.le_of_ble_eq_true rfl) dX8_sumOf_16 (fun r16 mu16 h16 => ?_)
      obtain ⟨rfl, rfl⟩ := h16
      refine a_icmp_ge (tgt := 57) B dX8_sumOf_19 (by decide) (fun c19 => ?_) (fun c19 => ?_)
      · refine a_iinc (v := 1) B dX8_sumOf_57 rfl (by decide) (by decide) ?_
        refine a_goto (tgt := 4) B dX8_sumOf_60 (by decide) ?_
        refine a_fg 4 ?_
        rw [nI_1]
        exact ih (g + 1) (by omega)
      · refine a_iload_n B dX8_sumOf_22 rfl ?_
        refine a_bipush (v := 6) B dX8_sumOf_23 (by decide) ?_
        refine a_icmp_ne_t (tgt := 57) B dX8_sumOf_25 (by decide) (fun z => absurd ((nI_eq (a := q) (b := 6) (by omega) (by decide)).mp z) (by omega)) ?_
        refine a_iinc (v := 1) B dX8_sumOf_57 rfl (by decide) (by decide) ?_
        refine a_goto (tgt := 4) B dX8_sumOf_60 (by decide) ?_
        refine a_fg 4 ?_
        rw [nI_1]
        exact ih (g + 1) (by omega)
  refine a_iconst (v := 0) B dX8_sumOf_0 (by decide) ?_
  refine a_istore_n B dX8_sumOf_1 (by decide) ?_
  refine a_iconst (v := 0) B dX8_sumOf_2 (by decide) ?_
  refine a_istore_n B dX8_sumOf_3 (by decide) ?_
  exact loop 2 0 rfl
set_option maxHeartbeats 4000000 in
set_option maxRecDepth 100000 in
theorem c_X8_sumOf_7 {l : Launch} {V : ab_V} {mu : ab_mem}  (hV : ab_OK V ShM) (hi : IM mu)  : CT l V ShM yX8_sumOf wsX8_sumOf rm_X8_sumOf [.ref (aL V 0), .int 7] mu (pI (fun r mu2 => r = onesF (mu 0 7) 24 ∧ mu = mu2)) := by
  refine ab_enter hV (by decide) rfl (Nat.le_of_ble_eq_true rfl) ?_
  intro X B E
  have B : CX X l rm_X8_sumOf RX8 cX8_sumOf wsX8_sumOf 5 V ShM := B
  show AW X V ShM 5 0 [some (.ref (aL V 0)), some (.int 7), none, none, none] [] mu
  have loop : ∀ (m g : Nat), g + m = 2 → AW X V ShM 5 4 [some (.ref (aL V 0)), some (.int 7), some (.int 0), some (.int (nI g)), none] [] mu := by
    intro m
    induction m with
    | zero =>
      intro g hg
      have e : g = 2 := by omega
      subst e
      refine a_iload_n B dX8_sumOf_4 rfl ?_
      refine a_iconst (v := 2) B dX8_sumOf_5 (by decide) ?_
      refine a_icmp_ge_t (tgt := 63) B dX8_sumOf_6 (by decide) (by decide) ?_
      refine a_iload_n B dX8_sumOf_63 rfl ?_
      refine a_iconst (v := 3) B dX8_sumOf_64 (by decide) ?_
      refine a_icmp_ge_t (tgt := 76) B dX8_sumOf_65 (by decide) (by decide) ?_
      refine a_iload_n B dX8_sumOf_76 rfl ?_
      refine a_bipush (v := 7) B dX8_sumOf_77 (by decide) ?_
      refine a_icmp_ne_f (tgt := 92) B dX8_sumOf_79 (by decide) (rfl) ?_
      refine a_aload_n B dX8_sumOf_82 rfl ?_
      refine a_geti B fl_X8_sumOf_92 (by first | rfl | assumption) rfl dX8_sumOf_83 ?_
      refine a_callSi B k_X8_sumOf_201 (c_X8_ones hV) rfl rfl (Nat.le_of_ble_eq_true rfl) dX8_sumOf_86 (fun r86 mu86 h86 => ?_)
      obtain ⟨rfl, rfl⟩ := h86
      refine a_goto (tgt := 93) B dX8_sumOf_89 (by decide) ?_
      refine a_ireturn B E dX8_sumOf_93 ?_
      exact ⟨rfl, rfl⟩
    | succ m ih =>
      intro g hg
      refine a_iload_n B dX8_sumOf_4 rfl ?_
      refine a_iconst (v := 2) B dX8_sumOf_5 (by decide) ?_
      refine a_icmp_ge_f (tgt := 63) B dX8_sumOf_6 (by decide) (nI_ge (a := g) (b := 2) (by omega) (by decide)) ?_
      refine a_iconst (v := 0) B dX8_sumOf_9 (by decide) ?_
      refine a_istore B dX8_sumOf_10 (by decide) ?_
      refine a_iload B dX8_sumOf_12 rfl ?_
      refine a_aload_n B dX8_sumOf_14 rfl ?_
      refine a_iload_n B dX8_sumOf_15 rfl ?_
      refine a_callVi B k_X8_sumOf_104 (c_X8_toldMany hV (by omega) (hi.1 _ (by omega)).2 (hi.1 _ (by omega)).1) (by first | rfl | assumption) rfl rfl rfl (Nat.le_of_ble_eq_true rfl) dX8_sumOf_16 (fun r16 mu16 h16 => ?_)
      obtain ⟨rfl, rfl⟩ := h16
      refine a_icmp_ge (tgt := 57) B dX8_sumOf_19 (by decide) (fun c19 => ?_) (fun c19 => ?_)
      · refine a_iinc (v := 1) B dX8_sumOf_57 rfl (by decide) (by decide) ?_
        refine a_goto (tgt := 4) B dX8_sumOf_60 (by decide) ?_
        refine a_fg 4 ?_
        rw [nI_1]
        exact ih (g + 1) (by omega)
      · refine a_iload_n B dX8_sumOf_22 rfl ?_
        refine a_bipush (v := 6) B dX8_sumOf_23 (by decide) ?_
        refine a_icmp_ne_t (tgt := 57) B dX8_sumOf_25 (by decide) (by decide) ?_
        refine a_iinc (v := 1) B dX8_sumOf_57 rfl (by decide) (by decide) ?_
        refine a_goto (tgt := 4) B dX8_sumOf_60 (by decide) ?_
        refine a_fg 4 ?_
        rw [nI_1]
        exact ih (g + 1) (by omega)
  refine a_iconst (v := 0) B dX8_sumOf_0 (by decide) ?_
  refine a_istore_n B dX8_sumOf_1 (by decide) ?_
  refine a_iconst (v := 0) B dX8_sumOf_2 (by decide) ?_
  refine a_istore_n B dX8_sumOf_3 (by decide) ?_
  exact loop 2 0 rfl
def cntM (mu : ab_mem) (j : Nat) : Int32 := if j < 3 then nI (tM mu j) else if j = 3 then mu 0 5 else if j = 4 then mu 0 6 else if j = 5 then mu 0 13 else if j = 6 then psM mu 0 + psM mu 1 else if j = 7 then onesF (mu 0 7) 24 else mu 0 22
abbrev rm_X8_count : Room := { frames := 4, cells := 0, slots := 0, locals := 87 }
set_option maxRecDepth 20000 in
theorem us_X8_count_8 : ∀ w ∈ u_ws RX8 TX8 23, w ∈ wsX8_count := by decide +kernel
set_option maxRecDepth 20000 in
theorem fl_X8_count_65 : FL RX8 wsX8_count 65 8 5 := ⟨RX8, TX8, 23, rfl, by decide, us_X8_count_8, by decide +kernel⟩
set_option maxRecDepth 20000 in
theorem fl_X8_count_89 : FL RX8 wsX8_count 89 8 6 := ⟨RX8, TX8, 23, rfl, by decide, us_X8_count_8, by decide +kernel⟩
set_option maxRecDepth 20000 in
theorem fl_X8_count_189 : FL RX8 wsX8_count 189 8 13 := ⟨RX8, TX8, 23, rfl, by decide, us_X8_count_8, by decide +kernel⟩
set_option maxRecDepth 20000 in
theorem fl_X8_count_207 : FL RX8 wsX8_count 207 8 22 := ⟨RX8, TX8, 23, rfl, by decide, us_X8_count_8, by decide +kernel⟩
theorem k_X8_count_217 : KV RX8 wsX8_count rm_X8_count 217 RX8 yX8_sumOf wsX8_sumOf rm_X8_sumOf 1 := ⟨_, _, _, _, gX8_count_X8_sumOf, rfl, rfl, rfl, by decide +kernel, by decide⟩

set_option maxHeartbeats 4000000 in
set_option maxRecDepth 100000 in
theorem c_X8_count_0 {l : Launch} {V : ab_V} {mu : ab_mem}  (hV : ab_OK V ShM) (hi : IM mu)  : CT l V ShM yX8_count wsX8_count rm_X8_count [.ref (aL V 0), .int (nI 0)] mu (pI (fun r mu2 => r = cntM mu 0 ∧ mu = mu2)) := by
  refine ab_enter hV (by decide) rfl (Nat.le_of_ble_eq_true rfl) ?_
  intro X B E
  have B : CX X l rm_X8_count RX8 cX8_count wsX8_count 2 V ShM := B
  show AW X V ShM 2 0 [some (.ref (aL V 0)), some (.int (nI 0))] [] mu
  refine a_iload_n B dX8_count_0 rfl ?_
  refine a_tableIn (off := 51) (tgt := 52) B dX8_count_1 (by decide) (by decide) (by decide) (by decide) ?_
  refine a_aload_n B dX8_count_52 rfl ?_
  refine a_iload_n B dX8_count_53 rfl ?_
  refine a_callVi B k_X8_count_217 (c_X8_sumOf_g (q := 0) hV hi (by decide)) (by first | rfl | assumption) rfl rfl rfl (Nat.le_of_ble_eq_true rfl) dX8_count_54 (fun r54 mu54 h54 => ?_)
  refine a_ireturn B E dX8_count_57 ?_
  exact h54
set_option maxHeartbeats 4000000 in
set_option maxRecDepth 100000 in
theorem c_X8_count_1 {l : Launch} {V : ab_V} {mu : ab_mem}  (hV : ab_OK V ShM) (hi : IM mu)  : CT l V ShM yX8_count wsX8_count rm_X8_count [.ref (aL V 0), .int (nI 1)] mu (pI (fun r mu2 => r = cntM mu 1 ∧ mu = mu2)) := by
  refine ab_enter hV (by decide) rfl (Nat.le_of_ble_eq_true rfl) ?_
  intro X B E
  have B : CX X l rm_X8_count RX8 cX8_count wsX8_count 2 V ShM := B
  show AW X V ShM 2 0 [some (.ref (aL V 0)), some (.int (nI 1))] [] mu
  refine a_iload_n B dX8_count_0 rfl ?_
  refine a_tableIn (off := 51) (tgt := 52) B dX8_count_1 (by decide) (by decide) (by decide) (by decide) ?_
  refine a_aload_n B dX8_count_52 rfl ?_
  refine a_iload_n B dX8_count_53 rfl ?_
  refine a_callVi B k_X8_count_217 (c_X8_sumOf_g (q := 1) hV hi (by decide)) (by first | rfl | assumption) rfl rfl rfl (Nat.le_of_ble_eq_true rfl) dX8_count_54 (fun r54 mu54 h54 => ?_)
  refine a_ireturn B E dX8_count_57 ?_
  exact h54
set_option maxHeartbeats 4000000 in
set_option maxRecDepth 100000 in
theorem c_X8_count_2 {l : Launch} {V : ab_V} {mu : ab_mem}  (hV : ab_OK V ShM) (hi : IM mu)  : CT l V ShM yX8_count wsX8_count rm_X8_count [.ref (aL V 0), .int (nI 2)] mu (pI (fun r mu2 => r = cntM mu 2 ∧ mu = mu2)) := by
  refine ab_enter hV (by decide) rfl (Nat.le_of_ble_eq_true rfl) ?_
  intro X B E
  have B : CX X l rm_X8_count RX8 cX8_count wsX8_count 2 V ShM := B
  show AW X V ShM 2 0 [some (.ref (aL V 0)), some (.int (nI 2))] [] mu
  refine a_iload_n B dX8_count_0 rfl ?_
  refine a_tableIn (off := 51) (tgt := 52) B dX8_count_1 (by decide) (by decide) (by decide) (by decide) ?_
  refine a_aload_n B dX8_count_52 rfl ?_
  refine a_iload_n B dX8_count_53 rfl ?_
  refine a_callVi B k_X8_count_217 (c_X8_sumOf_g (q := 2) hV hi (by decide)) (by first | rfl | assumption) rfl rfl rfl (Nat.le_of_ble_eq_true rfl) dX8_count_54 (fun r54 mu54 h54 => ?_)
  refine a_ireturn B E dX8_count_57 ?_
  exact h54
set_option maxHeartbeats 4000000 in
set_option maxRecDepth 100000 in
theorem c_X8_count_3 {l : Launch} {V : ab_V} {mu : ab_mem}  (hV : ab_OK V ShM) (hi : IM mu)  : CT l V ShM yX8_count wsX8_count rm_X8_count [.ref (aL V 0), .int (nI 3)] mu (pI (fun r mu2 => r = cntM mu 3 ∧ mu = mu2)) := by
  refine ab_enter hV (by decide) rfl (Nat.le_of_ble_eq_true rfl) ?_
  intro X B E
  have B : CX X l rm_X8_count RX8 cX8_count wsX8_count 2 V ShM := B
  show AW X V ShM 2 0 [some (.ref (aL V 0)), some (.int (nI 3))] [] mu
  refine a_iload_n B dX8_count_0 rfl ?_
  refine a_tableIn (off := 57) (tgt := 58) B dX8_count_1 (by decide) (by decide) (by decide) (by decide) ?_
  refine a_aload_n B dX8_count_58 rfl ?_
  refine a_geti B fl_X8_count_65 (by first | rfl | assumption) rfl dX8_count_59 ?_
  refine a_ireturn B E dX8_count_62 ?_
  exact ⟨rfl, rfl⟩
set_option maxHeartbeats 4000000 in
set_option maxRecDepth 100000 in
theorem c_X8_count_4 {l : Launch} {V : ab_V} {mu : ab_mem}  (hV : ab_OK V ShM) (hi : IM mu)  : CT l V ShM yX8_count wsX8_count rm_X8_count [.ref (aL V 0), .int (nI 4)] mu (pI (fun r mu2 => r = cntM mu 4 ∧ mu = mu2)) := by
  refine ab_enter hV (by decide) rfl (Nat.le_of_ble_eq_true rfl) ?_
  intro X B E
  have B : CX X l rm_X8_count RX8 cX8_count wsX8_count 2 V ShM := B
  show AW X V ShM 2 0 [some (.ref (aL V 0)), some (.int (nI 4))] [] mu
  refine a_iload_n B dX8_count_0 rfl ?_
  refine a_tableIn (off := 62) (tgt := 63) B dX8_count_1 (by decide) (by decide) (by decide) (by decide) ?_
  refine a_aload_n B dX8_count_63 rfl ?_
  refine a_geti B fl_X8_count_89 (by first | rfl | assumption) rfl dX8_count_64 ?_
  refine a_ireturn B E dX8_count_67 ?_
  exact ⟨rfl, rfl⟩
set_option maxHeartbeats 4000000 in
set_option maxRecDepth 100000 in
theorem c_X8_count_5 {l : Launch} {V : ab_V} {mu : ab_mem}  (hV : ab_OK V ShM) (hi : IM mu)  : CT l V ShM yX8_count wsX8_count rm_X8_count [.ref (aL V 0), .int (nI 5)] mu (pI (fun r mu2 => r = cntM mu 5 ∧ mu = mu2)) := by
  refine ab_enter hV (by decide) rfl (Nat.le_of_ble_eq_true rfl) ?_
  intro X B E
  have B : CX X l rm_X8_count RX8 cX8_count wsX8_count 2 V ShM := B
  show AW X V ShM 2 0 [some (.ref (aL V 0)), some (.int (nI 5))] [] mu
  refine a_iload_n B dX8_count_0 rfl ?_
  refine a_tableIn (off := 67) (tgt := 68) B dX8_count_1 (by decide) (by decide) (by decide) (by decide) ?_
  refine a_aload_n B dX8_count_68 rfl ?_
  refine a_geti B fl_X8_count_189 (by first | rfl | assumption) rfl dX8_count_69 ?_
  refine a_ireturn B E dX8_count_72 ?_
  exact ⟨rfl, rfl⟩
set_option maxHeartbeats 4000000 in
set_option maxRecDepth 100000 in
theorem c_X8_count_6 {l : Launch} {V : ab_V} {mu : ab_mem}  (hV : ab_OK V ShM) (hi : IM mu)  : CT l V ShM yX8_count wsX8_count rm_X8_count [.ref (aL V 0), .int (nI 6)] mu (pI (fun r mu2 => r = cntM mu 6 ∧ mu = mu2)) := by
  refine ab_enter hV (by decide) rfl (Nat.le_of_ble_eq_true rfl) ?_
  intro X B E
  have B : CX X l rm_X8_count RX8 cX8_count wsX8_count 2 V ShM := B
  show AW X V ShM 2 0 [some (.ref (aL V 0)), some (.int (nI 6))] [] mu
  refine a_iload_n B dX8_count_0 rfl ?_
  refine a_tableIn (off := 51) (tgt := 52) B dX8_count_1 (by decide) (by decide) (by decide) (by decide) ?_
  refine a_aload_n B dX8_count_52 rfl ?_
  refine a_iload_n B dX8_count_53 rfl ?_
  refine a_callVi B k_X8_count_217 (c_X8_sumOf_6 hV hi) (by first | rfl | assumption) rfl rfl rfl (Nat.le_of_ble_eq_true rfl) dX8_count_54 (fun r54 mu54 h54 => ?_)
  refine a_ireturn B E dX8_count_57 ?_
  exact h54
set_option maxHeartbeats 4000000 in
set_option maxRecDepth 100000 in
theorem c_X8_count_7 {l : Launch} {V : ab_V} {mu : ab_mem}  (hV : ab_OK V ShM) (hi : IM mu)  : CT l V ShM yX8_count wsX8_count rm_X8_count [.ref (aL V 0), .int (nI 7)] mu (pI (fun r mu2 => r = cntM mu 7 ∧ mu = mu2)) := by
  refine ab_enter hV (by decide) rfl (Nat.le_of_ble_eq_true rfl) ?_
  intro X B E
  have B : CX X l rm_X8_count RX8 cX8_count wsX8_count 2 V ShM := B
  show AW X V ShM 2 0 [some (.ref (aL V 0)), some (.int (nI 7))] [] mu
  refine a_iload_n B dX8_count_0 rfl ?_
  refine a_tableIn (off := 51) (tgt := 52) B dX8_count_1 (by decide) (by decide) (by decide) (by decide) ?_
  refine a_aload_n B dX8_count_52 rfl ?_
  refine a_iload_n B dX8_count_53 rfl ?_
  refine a_callVi B k_X8_count_217 (c_X8_sumOf_7 hV hi) (by first | rfl | assumption) rfl rfl rfl (Nat.le_of_ble_eq_true rfl) dX8_count_54 (fun r54 mu54 h54 => ?_)
  refine a_ireturn B E dX8_count_57 ?_
  exact h54
set_option maxHeartbeats 4000000 in
set_option maxRecDepth 100000 in
theorem c_X8_count_8 {l : Launch} {V : ab_V} {mu : ab_mem}  (hV : ab_OK V ShM) (hi : IM mu)  : CT l V ShM yX8_count wsX8_count rm_X8_count [.ref (aL V 0), .int (nI 8)] mu (pI (fun r mu2 => r = cntM mu 8 ∧ mu = mu2)) := by
  refine ab_enter hV (by decide) rfl (Nat.le_of_ble_eq_true rfl) ?_
  intro X B E
  have B : CX X l rm_X8_count RX8 cX8_count wsX8_count 2 V ShM := B
  show AW X V ShM 2 0 [some (.ref (aL V 0)), some (.int (nI 8))] [] mu
  refine a_iload_n B dX8_count_0 rfl ?_
  refine a_tableIn (off := 72) (tgt := 73) B dX8_count_1 (by decide) (by decide) (by decide) (by decide) ?_
  refine a_aload_n B dX8_count_73 rfl ?_
  refine a_geti B fl_X8_count_207 (by first | rfl | assumption) rfl dX8_count_74 ?_
  refine a_ireturn B E dX8_count_77 ?_
  exact ⟨rfl, rfl⟩
set_option maxHeartbeats 4000000 in
set_option maxRecDepth 100000 in
theorem c_X8_count_bad {l : Launch} {V : ab_V} {mu : ab_mem} {a : Int32} (hV : ab_OK V ShM) (hbad : a.toInt < 0 ∨ 8 < a.toInt) : CT l V ShM yX8_count wsX8_count rm_X8_count [.ref (aL V 0), .int a] mu (pI (fun r mu2 => r = -2 ∧ mu = mu2)) := by
  refine ab_enter hV (by decide) rfl (Nat.le_of_ble_eq_true rfl) ?_
  intro X B E
  have B : CX X l rm_X8_count RX8 cX8_count wsX8_count 2 V ShM := B
  show AW X V ShM 2 0 [some (.ref (aL V 0)), some (.int a)] [] mu
  refine a_iload_n B dX8_count_0 rfl ?_
  refine a_tableOut (tgt := 78) B dX8_count_1 hbad (by decide) ?_
  refine a_bipush (v := -2) B dX8_count_78 (by decide) ?_
  refine a_ireturn B E dX8_count_80 ?_
  exact ⟨rfl, rfl⟩
theorem c_X8_countN {l : Launch} {V : ab_V} {mu : ab_mem} {j : Nat} (hV : ab_OK V ShM) (hi : IM mu) (hj : j < 9) : CT l V ShM yX8_count wsX8_count rm_X8_count [.ref (aL V 0), .int (nI j)] mu (pI (fun r mu2 => r = cntM mu j ∧ mu = mu2)) := by
  rcases (show j = 0 ∨ j = 1 ∨ j = 2 ∨ j = 3 ∨ j = 4 ∨ j = 5 ∨ j = 6 ∨ j = 7 ∨ j = 8 by omega) with rfl | rfl | rfl | rfl | rfl | rfl | rfl | rfl | rfl
  · exact c_X8_count_0 hV hi
  · exact c_X8_count_1 hV hi
  · exact c_X8_count_2 hV hi
  · exact c_X8_count_3 hV hi
  · exact c_X8_count_4 hV hi
  · exact c_X8_count_5 hV hi
  · exact c_X8_count_6 hV hi
  · exact c_X8_count_7 hV hi
  · exact c_X8_count_8 hV hi
