def snX (mu : ab_mem) (g h k : Nat) (w : Int32) : ab_mem := ab_up (ab_up (ab_up (ab_up mu 8 k (nI g)) 9 k (nI h)) 10 k w) 7 3 (nI (k + 1))
abbrev rm_X5_add : Room := { frames := 0, cells := 0, slots := 0, locals := 0 }
set_option maxRecDepth 20000 in
theorem us_X5_add_5 : ∀ w ∈ u_ws RX5 TX5 4, w ∈ wsX5_add := by decide +kernel
set_option maxRecDepth 20000 in
theorem fl_X5_add_9 : FL RX5 wsX5_add 9 5 0 := ⟨RX5, TX5, 4, rfl, by decide, us_X5_add_5, by decide +kernel⟩
set_option maxRecDepth 20000 in
theorem fl_X5_add_15 : FL RX5 wsX5_add 15 5 1 := ⟨RX5, TX5, 4, rfl, by decide, us_X5_add_5, by decide +kernel⟩
set_option maxRecDepth 20000 in
theorem fl_X5_add_18 : FL RX5 wsX5_add 18 5 2 := ⟨RX5, TX5, 4, rfl, by decide, us_X5_add_5, by decide +kernel⟩
set_option maxRecDepth 20000 in
theorem fl_X5_add_21 : FL RX5 wsX5_add 21 5 3 := ⟨RX5, TX5, 4, rfl, by decide, us_X5_add_5, by decide +kernel⟩
set_option maxRecDepth 20000 in
theorem fp_X5_add_21 : FP RX5 wsX5_add 21 5 3 .int := ⟨RX5, TX5, 4, tyX5, rfl, by decide, us_X5_add_5, by decide +kernel, tyX5_ok, nmX5, rfl, rfl⟩

set_option maxHeartbeats 4000000 in
set_option maxRecDepth 100000 in
theorem c_X5_add {l : Launch} {V : ab_V} {mu : ab_mem} {g h k : Nat} {w : Int32} (hV : OKX V) (hk : k ≤ 8) (hm : mu 7 3 = nI k) : CT l V ShX yX5_add wsX5_add rm_X5_add [.ref (aL V 7), .int (nI g), .int (nI h), .int w] mu (pI (fun r mu2 => if k = 8 then r = -4 ∧ mu = mu2 else r = nI (k + 1) ∧ mu2 = snX mu g h k w)) := by
  refine ab_enter hV.1 (by decide) rfl (Nat.le_of_ble_eq_true rfl) ?_
  intro X B E
  have B : CX X l rm_X5_add RX5 cX5_add wsX5_add 4 V ShX := B
  show AW X V ShX 4 0 [some (.ref (aL V 7)), some (.int (nI g)), some (.int (nI h)), some (.int w)] [] mu
  by_cases h8 : k = 8
  · skip
    refine a_aload_n B dX5_add_0 rfl ?_
    refine a_geti B fl_X5_add_21 (by first | rfl | assumption) rfl dX5_add_1 ?_
    refine a_bipush (v := 8) B dX5_add_4 (by decide) ?_
    refine a_icmp_lt_f (tgt := 12) B dX5_add_6 (by decide) (by rw [hm, h8]; decide) ?_
    refine a_bipush (v := -4) B dX5_add_9 (by decide) ?_
    refine a_ireturn B E dX5_add_11 ?_
    rw [if_pos h8]
    exact ⟨rfl, rfl⟩
  · have hlt : k < 8 := by omega
    refine a_aload_n B dX5_add_0 rfl ?_
    refine a_geti B fl_X5_add_21 (by first | rfl | assumption) rfl dX5_add_1 ?_
    refine a_bipush (v := 8) B dX5_add_4 (by decide) ?_
    refine a_icmp_lt_t (tgt := 12) B dX5_add_6 (by decide) (by rw [hm]; exact nI_lt (a := k) (b := 8) hlt (by decide)) ?_
    refine a_aload_n B dX5_add_12 rfl ?_
    refine a_getr B fl_X5_add_9 (by first | rfl | assumption) rfl dX5_add_13 ?_
    refine a_aload_n B dX5_add_16 rfl ?_
    refine a_geti B fl_X5_add_21 (by first | rfl | assumption) rfl dX5_add_17 ?_
    refine a_iload_n B dX5_add_20 rfl ?_
    refine a_iastN B (k) (by first | rfl | assumption) hm (by omega) (by decide)  dX5_add_21 ?_
    refine a_aload_n B dX5_add_22 rfl ?_
    refine a_getr B fl_X5_add_15 (by first | rfl | assumption) rfl dX5_add_23 ?_
    refine a_aload_n B dX5_add_26 rfl ?_
    refine a_geti B fl_X5_add_21 (by first | rfl | assumption) rfl dX5_add_27 ?_
    refine a_iload_n B dX5_add_30 rfl ?_
    refine a_iastN B (k) (by first | rfl | assumption) (by rw [ab_up_o (by decide), hm]) (by omega) (by decide)  dX5_add_31 ?_
    refine a_aload_n B dX5_add_32 rfl ?_
    refine a_getr B fl_X5_add_18 (by first | rfl | assumption) rfl dX5_add_33 ?_
    refine a_aload_n B dX5_add_36 rfl ?_
    refine a_geti B fl_X5_add_21 (by first | rfl | assumption) rfl dX5_add_37 ?_
    refine a_iload_n B dX5_add_40 rfl ?_
    refine a_iastN B (k) (by first | rfl | assumption) (by rw [ab_up_o (by decide), ab_up_o (by decide), hm]) (by omega) (by decide)  dX5_add_41 ?_
    refine a_aload_n B dX5_add_42 rfl ?_
    refine a_dup B dX5_add_43 rfl ?_
    refine a_geti B fl_X5_add_21 (by first | rfl | assumption) rfl dX5_add_44 ?_
    refine a_iconst (v := 1) B dX5_add_47 (by decide) ?_
    refine a_iadd B dX5_add_48 ?_
    refine a_put B fp_X5_add_21 (by first | rfl | assumption) rfl rfl rfl dX5_add_49 ?_
    refine a_aload_n B dX5_add_52 rfl ?_
    refine a_geti B fl_X5_add_21 (by first | rfl | assumption) rfl dX5_add_53 ?_
    refine a_ireturn B E dX5_add_56 ?_
    rw [if_neg h8]
    have e1 : ab_up (ab_up (ab_up mu 8 k (nI g)) 9 k (nI h)) 10 k w 7 3 + 1 = nI (k + 1) := by rw [ab_up_o (by decide), ab_up_o (by decide), ab_up_o (by decide), hm]; exact nI_1 k
    rw [e1]
    exact ⟨ab_up_k, rfl⟩
abbrev rm_X7_seen : Room := { frames := 2, cells := 0, slots := 0, locals := 42 }
set_option maxRecDepth 20000 in
theorem us_X7_seen_7 : ∀ w ∈ u_ws RX7 TX7 9, w ∈ wsX7_seen := by decide +kernel
set_option maxRecDepth 20000 in
theorem fl_X7_seen_37 : FL RX7 wsX7_seen 37 7 4 := ⟨RX7, TX7, 9, rfl, by decide, us_X7_seen_7, by decide +kernel⟩
theorem k_X7_seen_66 : KS RX7 wsX7_seen rm_X7_seen 66 yX7_isGeneral wsX7_isGeneral rm_X7_isGeneral 1 := ⟨_, _, _, _, gX7_seen_X7_isGeneral, rfl, rfl, rfl, by decide +kernel, by decide⟩
theorem k_X7_seen_70 : KS RX7 wsX7_seen rm_X7_seen 70 yX7_within wsX7_within rm_X7_within 3 := ⟨_, _, _, _, gX7_seen_X7_within, rfl, rfl, rfl, by decide +kernel, by decide⟩
theorem k_X7_seen_127 : KS RX7 wsX7_seen rm_X7_seen 127 yX7_isHour wsX7_isHour rm_X7_isHour 1 := ⟨_, _, _, _, gX7_seen_X7_isHour, rfl, rfl, rfl, by decide +kernel, by decide⟩
theorem k_X7_seen_195 : KV RX7 wsX7_seen rm_X7_seen 195 RX5 yX5_add wsX5_add rm_X5_add 3 := ⟨_, _, _, _, gX7_seen_X5_add, rfl, rfl, rfl, by decide +kernel, by decide⟩

set_option maxHeartbeats 4000000 in
set_option maxRecDepth 100000 in
theorem c_X7_seen {l : Launch} {V : ab_V} {mu : ab_mem} {g h k : Nat} {w : Int32} (hV : OKX V) (hg : g < 3) (hh : h < 24) (hw : inB w 0 1 = true) (hk : k ≤ 8) (hm : mu 7 3 = nI k) : CT l V ShX yX7_seen wsX7_seen rm_X7_seen [.ref (aL V 0), .int (nI g), .int (nI h), .int w] mu (pI (fun r mu2 => if k = 8 then r = -4 ∧ mu = mu2 else r = nI (k + 1) ∧ mu2 = snX mu g h k w)) := by
  refine ab_enter hV.1 (by decide) rfl (Nat.le_of_ble_eq_true rfl) ?_
  intro X B E
  have B : CX X l rm_X7_seen RX7 cX7_seen wsX7_seen 4 V ShX := B
  show AW X V ShX 4 0 [some (.ref (aL V 0)), some (.int (nI g)), some (.int (nI h)), some (.int w)] [] mu
  refine a_iload_n B dX7_seen_0 rfl ?_
  refine a_callSi B k_X7_seen_66 (c_X7_isGeneral hV) rfl rfl (Nat.le_of_ble_eq_true rfl) dX7_seen_1 (fun r1 mu1 h1 => ?_)
  obtain ⟨rfl, rfl⟩ := h1
  refine a_if_eq_f (tgt := 23) B dX7_seen_4 (by decide) (bI_n0.mpr (inB_nI (n := 2) (by omega) (by decide))) ?_
  refine a_iload_n B dX7_seen_7 rfl ?_
  refine a_callSi B k_X7_seen_127 (c_X7_isHour hV) rfl rfl (Nat.le_of_ble_eq_true rfl) dX7_seen_8 (fun r8 mu8 h8 => ?_)
  obtain ⟨rfl, rfl⟩ := h8
  refine a_if_eq_f (tgt := 23) B dX7_seen_11 (by decide) (bI_n0.mpr (inB_nI (n := 23) (by omega) (by decide))) ?_
  refine a_iload_n B dX7_seen_14 rfl ?_
  refine a_iconst (v := 0) B dX7_seen_15 (by decide) ?_
  refine a_iconst (v := 1) B dX7_seen_16 (by decide) ?_
  refine a_callSi B k_X7_seen_70 (c_X7_within hV) rfl rfl (Nat.le_of_ble_eq_true rfl) dX7_seen_17 (fun r17 mu17 h17 => ?_)
  obtain ⟨rfl, rfl⟩ := h17
  refine a_if_ne_t (tgt := 26) B dX7_seen_20 (by decide) (bI_n0.mpr hw) ?_
  refine a_aload_n B dX7_seen_26 rfl ?_
  refine a_getr B fl_X7_seen_37 (by first | rfl | assumption) rfl dX7_seen_27 ?_
  refine a_iload_n B dX7_seen_30 rfl ?_
  refine a_iload_n B dX7_seen_31 rfl ?_
  refine a_iload_n B dX7_seen_32 rfl ?_
  refine a_callVi B k_X7_seen_195 (c_X5_add hV hk hm) (by first | rfl | assumption) rfl rfl rfl (Nat.le_of_ble_eq_true rfl) dX7_seen_33 (fun r33 mu33 h33 => ?_)
  refine a_ireturn B E dX7_seen_36 ?_
  exact h33
set_option maxHeartbeats 4000000 in
set_option maxRecDepth 100000 in
theorem c_X7_seen_bad {l : Launch} {V : ab_V} {mu : ab_mem} {a b w : Int32} (hV : OKX V) (hbad : ¬ (inB a 0 2 = true ∧ inB b 0 23 = true ∧ inB w 0 1 = true)) : CT l V ShX yX7_seen wsX7_seen rm_X7_seen [.ref (aL V 0), .int a, .int b, .int w] mu (pI (fun r mu2 => r = -2 ∧ mu = mu2)) := by
  refine ab_enter hV.1 (by decide) rfl (Nat.le_of_ble_eq_true rfl) ?_
  intro X B E
  have B : CX X l rm_X7_seen RX7 cX7_seen wsX7_seen 4 V ShX := B
  show AW X V ShX 4 0 [some (.ref (aL V 0)), some (.int a), some (.int b), some (.int w)] [] mu
  refine a_iload_n B dX7_seen_0 rfl ?_
  refine a_callSi B k_X7_seen_66 (c_X7_isGeneral hV) rfl rfl (Nat.le_of_ble_eq_true rfl) dX7_seen_1 (fun r1 mu1 h1 => ?_)
  obtain ⟨rfl, rfl⟩ := h1
  refine a_if_eq (tgt := 23) B dX7_seen_4 (by decide) (fun c4 => ?_) (fun c4 => ?_)
  · refine a_bipush (v := -2) B dX7_seen_23 (by decide) ?_
    refine a_ireturn B E dX7_seen_25 ?_
    exact ⟨rfl, rfl⟩
  · refine a_iload_n B dX7_seen_7 rfl ?_
    refine a_callSi B k_X7_seen_127 (c_X7_isHour hV) rfl rfl (Nat.le_of_ble_eq_true rfl) dX7_seen_8 (fun r8 mu8 h8 => ?_)
    obtain ⟨rfl, rfl⟩ := h8
    refine a_if_eq (tgt := 23) B dX7_seen_11 (by decide) (fun c11 => ?_) (fun c11 => ?_)
    · refine a_bipush (v := -2) B dX7_seen_23 (by decide) ?_
      refine a_ireturn B E dX7_seen_25 ?_
      exact ⟨rfl, rfl⟩
    · refine a_iload_n B dX7_seen_14 rfl ?_
      refine a_iconst (v := 0) B dX7_seen_15 (by decide) ?_
      refine a_iconst (v := 1) B dX7_seen_16 (by decide) ?_
      refine a_callSi B k_X7_seen_70 (c_X7_within hV) rfl rfl (Nat.le_of_ble_eq_true rfl) dX7_seen_17 (fun r17 mu17 h17 => ?_)
      obtain ⟨rfl, rfl⟩ := h17
      refine a_if_ne (tgt := 26) B dX7_seen_20 (by decide) (fun c20 => ?_) (fun c20 => ?_)
      · exfalso
        simp_all [bI_0, bI_n0]
      · refine a_bipush (v := -2) B dX7_seen_23 (by decide) ?_
        refine a_ireturn B E dX7_seen_25 ?_
        exact ⟨rfl, rfl⟩
abbrev rm_X7_forget : Room := { frames := 0, cells := 0, slots := 0, locals := 0 }
set_option maxRecDepth 20000 in
theorem us_X7_forget_5 : ∀ w ∈ u_ws RX5 TX5 4, w ∈ wsX7_forget := by decide +kernel
set_option maxRecDepth 20000 in
theorem us_X7_forget_7 : ∀ w ∈ u_ws RX7 TX7 9, w ∈ wsX7_forget := by decide +kernel
set_option maxRecDepth 20000 in
theorem fl_X7_forget_37 : FL RX7 wsX7_forget 37 7 4 := ⟨RX7, TX7, 9, rfl, by decide, us_X7_forget_7, by decide +kernel⟩
set_option maxRecDepth 20000 in
theorem fl_X7_forget_199 : FL RX7 wsX7_forget 199 5 3 := ⟨RX5, TX5, 4, rfl, by decide, us_X7_forget_5, by decide +kernel⟩
set_option maxRecDepth 20000 in
theorem fp_X7_forget_199 : FP RX7 wsX7_forget 199 5 3 .int := ⟨RX5, TX5, 4, tyX5, rfl, by decide, us_X7_forget_5, by decide +kernel, tyX5_ok, nmX5, rfl, rfl⟩

set_option maxHeartbeats 4000000 in
set_option maxRecDepth 100000 in
theorem c_X7_forget {l : Launch} {V : ab_V} {mu : ab_mem}  (hV : OKX V)  : CT l V ShX yX7_forget wsX7_forget rm_X7_forget [.ref (aL V 0)] mu (pI (fun r mu2 => r = mu 7 3 ∧ mu2 = ab_up mu 7 3 0)) := by
  refine ab_enter hV.1 (by decide) rfl (Nat.le_of_ble_eq_true rfl) ?_
  intro X B E
  have B : CX X l rm_X7_forget RX7 cX7_forget wsX7_forget 2 V ShX := B
  show AW X V ShX 2 0 [some (.ref (aL V 0)), none] [] mu
  refine a_aload_n B dX7_forget_0 rfl ?_
  refine a_getr B fl_X7_forget_37 (by first | rfl | assumption) rfl dX7_forget_1 ?_
  refine a_geti B fl_X7_forget_199 (by first | rfl | assumption) rfl dX7_forget_4 ?_
  refine a_istore_n B dX7_forget_7 (by decide) ?_
  refine a_aload_n B dX7_forget_8 rfl ?_
  refine a_getr B fl_X7_forget_37 (by first | rfl | assumption) rfl dX7_forget_9 ?_
  refine a_iconst (v := 0) B dX7_forget_12 (by decide) ?_
  refine a_put B fp_X7_forget_199 (by first | rfl | assumption) rfl rfl rfl dX7_forget_13 ?_
  refine a_iload_n B dX7_forget_16 rfl ?_
  refine a_ireturn B E dX7_forget_17 ?_
  exact ⟨rfl, rfl⟩
def unF (who hr is : Nat → Int32) (g : Int32) (x : Int32) : Nat → Int32
  | 0 => 0
  | k + 1 => if who k = g ∧ ¬ bitB x (hr k) = decide (is k = 1) then unF who hr is g x k + 1 else unF who hr is g x k
abbrev rm_X5_unlikeOf : Room := { frames := 1, cells := 0, slots := 0, locals := 21 }
set_option maxRecDepth 20000 in
theorem us_X5_unlikeOf_5 : ∀ w ∈ u_ws RX5 TX5 4, w ∈ wsX5_unlikeOf := by decide +kernel
set_option maxRecDepth 20000 in
theorem fl_X5_unlikeOf_9 : FL RX5 wsX5_unlikeOf 9 5 0 := ⟨RX5, TX5, 4, rfl, by decide, us_X5_unlikeOf_5, by decide +kernel⟩
set_option maxRecDepth 20000 in
theorem fl_X5_unlikeOf_15 : FL RX5 wsX5_unlikeOf 15 5 1 := ⟨RX5, TX5, 4, rfl, by decide, us_X5_unlikeOf_5, by decide +kernel⟩
set_option maxRecDepth 20000 in
theorem fl_X5_unlikeOf_18 : FL RX5 wsX5_unlikeOf 18 5 2 := ⟨RX5, TX5, 4, rfl, by decide, us_X5_unlikeOf_5, by decide +kernel⟩
set_option maxRecDepth 20000 in
theorem fl_X5_unlikeOf_21 : FL RX5 wsX5_unlikeOf 21 5 3 := ⟨RX5, TX5, 4, rfl, by decide, us_X5_unlikeOf_5, by decide +kernel⟩
set_option maxRecDepth 20000 in
theorem k_X5_unlikeOf_25 : KN RX5 wsX5_unlikeOf rm_X5_unlikeOf yX7_hasHour wsX7_hasHour rm_X7_hasHour 2 := ⟨_, _, _, _, gX5_unlikeOf_X7_hasHour_n25, by decide +kernel, by decide +kernel, rfl, rfl, rfl, by decide +kernel, by decide⟩

set_option maxHeartbeats 4000000 in
set_option maxRecDepth 100000 in
theorem c_X5_unlikeOf {l : Launch} {V : ab_V} {mu : ab_mem} {a x : Int32} (hV : OKX V) (hK : kX mu ≤ 8 ∧ mu 7 3 = nI (kX mu)) : CT l V ShX yX5_unlikeOf wsX5_unlikeOf rm_X5_unlikeOf [.ref (aL V 7), .int a, .int x] mu (pI (fun r mu2 => r = unF (mu 8) (mu 9) (mu 10) a x (kX mu) ∧ mu = mu2)) := by
  refine ab_enter hV.1 (by decide) rfl (Nat.le_of_ble_eq_true rfl) ?_
  intro X B E
  have B : CX X l rm_X5_unlikeOf RX5 cX5_unlikeOf wsX5_unlikeOf 5 V ShX := B
  show AW X V ShX 5 0 [some (.ref (aL V 7)), some (.int a), some (.int x), none, none] [] mu
  have loop : ∀ (m k : Nat), k + m = kX mu → AW X V ShX 5 5 [some (.ref (aL V 7)), some (.int a), some (.int x), some (.int (unF (mu 8) (mu 9) (mu 10) a x k)), some (.int (nI k))] [] mu := by
    intro m
    induction m with
    | zero =>
      intro k hk
      refine a_iload B dX5_unlikeOf_5 rfl ?_
      refine a_aload_n B dX5_unlikeOf_7 rfl ?_
      refine a_geti B fl_X5_unlikeOf_21 (by first | rfl | assumption) rfl dX5_unlikeOf_8 ?_
      refine a_icmp_ge_t (tgt := 64) B dX5_unlikeOf_11 (by decide) (by rw [hK.2]; exact nI_le (by omega) (by omega)) ?_
      refine a_iload_n B dX5_unlikeOf_64 rfl ?_
      refine a_ireturn B E dX5_unlikeOf_65 ?_
      rw [show k = kX mu by omega]
      exact ⟨rfl, rfl⟩
    | succ m ih =>
      intro k hk
      refine a_iload B dX5_unlikeOf_5 rfl ?_
      refine a_aload_n B dX5_unlikeOf_7 rfl ?_
      refine a_geti B fl_X5_unlikeOf_21 (by first | rfl | assumption) rfl dX5_unlikeOf_8 ?_
      refine a_icmp_ge_f (tgt := 64) B dX5_unlikeOf_11 (by decide) (by rw [hK.2]; exact nI_ge (by omega) (by omega)) ?_
      refine a_aload_n B dX5_unlikeOf_14 rfl ?_
      refine a_getr B fl_X5_unlikeOf_9 (by first | rfl | assumption) rfl dX5_unlikeOf_15 ?_
      refine a_iload B dX5_unlikeOf_18 rfl ?_
      refine a_ialdN B (k) (by first | rfl | assumption) rfl (by omega) (by decide) dX5_unlikeOf_20 ?_
      refine a_iload_n B dX5_unlikeOf_21 rfl ?_
      refine a_icmp_ne (tgt := 58) B dX5_unlikeOf_22 (by decide) (fun c22 => ?_) (fun c22 => ?_)
      · refine a_iinc (v := 1) B dX5_unlikeOf_58 rfl (by decide) (by decide) ?_
        refine a_goto (tgt := 5) B dX5_unlikeOf_61 (by decide) ?_
        rw [nI_1]
        have e := ih (k + 1) (by omega)
        rw [unF] at e
        have eb : ∀ b1 b2 : Bool, (bI b1 = bI b2) ↔ b1 = b2 := by decide
        first
          | (rw [if_neg (fun z => c22 z.1)] at e; exact e)
          | (rw [if_neg (fun z => z.2 ((eb _ _).mp (c52.trans (by rw [decide_eq_true c44]; rfl))))] at e; exact e)
          | (rw [if_neg (fun z => z.2 ((eb _ _).mp (c52.trans (by rw [decide_eq_false c44]; rfl))))] at e; exact e)
          | (rw [if_pos ⟨c22, fun z => c52 (by rw [z, decide_eq_true c44]; rfl)⟩] at e; exact e)
          | (rw [if_pos ⟨c22, fun z => c52 (by rw [z, decide_eq_false c44]; rfl)⟩] at e; exact e)
      · refine a_iload_n B dX5_unlikeOf_25 rfl ?_
        refine a_aload_n B dX5_unlikeOf_26 rfl ?_
        refine a_getr B fl_X5_unlikeOf_15 (by first | rfl | assumption) rfl dX5_unlikeOf_27 ?_
        refine a_iload B dX5_unlikeOf_30 rfl ?_
        refine a_ialdN B (k) (by first | rfl | assumption) rfl (by omega) (by decide) dX5_unlikeOf_32 ?_
        refine a_callNi B k_X5_unlikeOf_25 (hV.2 _ B.2.2.2.1).2.2.2.2.1 (c_X7_hasHour hV) rfl rfl (Nat.le_of_ble_eq_true rfl) dX5_unlikeOf_33 (fun r33 mu33 h33 => ?_)
        obtain ⟨rfl, rfl⟩ := h33
        refine a_aload_n B dX5_unlikeOf_36 rfl ?_
        refine a_getr B fl_X5_unlikeOf_18 (by first | rfl | assumption) rfl dX5_unlikeOf_37 ?_
        refine a_iload B dX5_unlikeOf_40 rfl ?_
        refine a_ialdN B (k) (by first | rfl | assumption) rfl (by omega) (by decide) dX5_unlikeOf_42 ?_
        refine a_iconst (v := 1) B dX5_unlikeOf_43 (by decide) ?_
        refine a_icmp_ne (tgt := 51) B dX5_unlikeOf_44 (by decide) (fun c44 => ?_) (fun c44 => ?_)
        · refine a_iconst (v := 0) B dX5_unlikeOf_51 (by decide) ?_
          refine a_icmp_eq (tgt := 58) B dX5_unlikeOf_52 (by decide) (fun c52 => ?_) (fun c52 => ?_)
          · refine a_iinc (v := 1) B dX5_unlikeOf_58 rfl (by decide) (by decide) ?_
            refine a_goto (tgt := 5) B dX5_unlikeOf_61 (by decide) ?_
            rw [nI_1]
            have e := ih (k + 1) (by omega)
            rw [unF] at e
            have eb : ∀ b1 b2 : Bool, (bI b1 = bI b2) ↔ b1 = b2 := by decide
            first
              | (rw [if_neg (fun z => c22 z.1)] at e; exact e)
              | (rw [if_neg (fun z => z.2 ((eb _ _).mp (c52.trans (by rw [decide_eq_true c44]; rfl))))] at e; exact e)
              | (rw [if_neg (fun z => z.2 ((eb _ _).mp (c52.trans (by rw [decide_eq_false c44]; rfl))))] at e; exact e)
              | (rw [if_pos ⟨c22, fun z => c52 (by rw [z, decide_eq_true c44]; rfl)⟩] at e; exact e)
              | (rw [if_pos ⟨c22, fun z => c52 (by rw [z, decide_eq_false c44]; rfl)⟩] at e; exact e)
          · refine a_iinc (v := 1) B dX5_unlikeOf_55 rfl (by decide) (by decide) ?_
            refine a_iinc (v := 1) B dX5_unlikeOf_58 rfl (by decide) (by decide) ?_
            refine a_goto (tgt := 5) B dX5_unlikeOf_61 (by decide) ?_
            rw [nI_1]
            have e := ih (k + 1) (by omega)
            rw [unF] at e
            have eb : ∀ b1 b2 : Bool, (bI b1 = bI b2) ↔ b1 = b2 := by decide
            first
              | (rw [if_neg (fun z => c22 z.1)] at e; exact e)
              | (rw [if_neg (fun z => z.2 ((eb _ _).mp (c52.trans (by rw [decide_eq_true c44]; rfl))))] at e; exact e)
              | (rw [if_neg (fun z => z.2 ((eb _ _).mp (c52.trans (by rw [decide_eq_false c44]; rfl))))] at e; exact e)
              | (rw [if_pos ⟨c22, fun z => c52 (by rw [z, decide_eq_true c44]; rfl)⟩] at e; exact e)
              | (rw [if_pos ⟨c22, fun z => c52 (by rw [z, decide_eq_false c44]; rfl)⟩] at e; exact e)
        · refine a_iconst (v := 1) B dX5_unlikeOf_47 (by decide) ?_
          refine a_goto (tgt := 52) B dX5_unlikeOf_48 (by decide) ?_
          refine a_icmp_eq (tgt := 58) B dX5_unlikeOf_52 (by decide) (fun c52 => ?_) (fun c52 => ?_)
          · refine a_iinc (v := 1) B dX5_unlikeOf_58 rfl (by decide) (by decide) ?_
            refine a_goto (tgt := 5) B dX5_unlikeOf_61 (by decide) ?_
            rw [nI_1]
            have e := ih (k + 1) (by omega)
            rw [unF] at e
            have eb : ∀ b1 b2 : Bool, (bI b1 = bI b2) ↔ b1 = b2 := by decide
            first
              | (rw [if_neg (fun z => c22 z.1)] at e; exact e)
              | (rw [if_neg (fun z => z.2 ((eb _ _).mp (c52.trans (by rw [decide_eq_true c44]; rfl))))] at e; exact e)
              | (rw [if_neg (fun z => z.2 ((eb _ _).mp (c52.trans (by rw [decide_eq_false c44]; rfl))))] at e; exact e)
              | (rw [if_pos ⟨c22, fun z => c52 (by rw [z, decide_eq_true c44]; rfl)⟩] at e; exact e)
              | (rw [if_pos ⟨c22, fun z => c52 (by rw [z, decide_eq_false c44]; rfl)⟩] at e; exact e)
          · refine a_iinc (v := 1) B dX5_unlikeOf_55 rfl (by decide) (by decide) ?_
            refine a_iinc (v := 1) B dX5_unlikeOf_58 rfl (by decide) (by decide) ?_
            refine a_goto (tgt := 5) B dX5_unlikeOf_61 (by decide) ?_
            rw [nI_1]
            have e := ih (k + 1) (by omega)
            rw [unF] at e
            have eb : ∀ b1 b2 : Bool, (bI b1 = bI b2) ↔ b1 = b2 := by decide
            first
              | (rw [if_neg (fun z => c22 z.1)] at e; exact e)
              | (rw [if_neg (fun z => z.2 ((eb _ _).mp (c52.trans (by rw [decide_eq_true c44]; rfl))))] at e; exact e)
              | (rw [if_neg (fun z => z.2 ((eb _ _).mp (c52.trans (by rw [decide_eq_false c44]; rfl))))] at e; exact e)
              | (rw [if_pos ⟨c22, fun z => c52 (by rw [z, decide_eq_true c44]; rfl)⟩] at e; exact e)
              | (rw [if_pos ⟨c22, fun z => c52 (by rw [z, decide_eq_false c44]; rfl)⟩] at e; exact e)
  refine a_iconst (v := 0) B dX5_unlikeOf_0 (by decide) ?_
  refine a_istore_n B dX5_unlikeOf_1 (by decide) ?_
  refine a_iconst (v := 0) B dX5_unlikeOf_2 (by decide) ?_
  refine a_istore B dX5_unlikeOf_3 (by decide) ?_
  exact loop (kX mu) 0 (by omega)
def usX (mu : ab_mem) : Nat → Int32
  | 0 => 0
  | g + 1 => usX mu g + unF (mu 8) (mu 9) (mu 10) (nI g) (bX mu g 0 99 24) (kX mu)
abbrev rm_X7_unlike : Room := { frames := 4, cells := 0, slots := 0, locals := 89 }
set_option maxRecDepth 20000 in
theorem us_X7_unlike_7 : ∀ w ∈ u_ws RX7 TX7 9, w ∈ wsX7_unlike := by decide +kernel
set_option maxRecDepth 20000 in
theorem fl_X7_unlike_37 : FL RX7 wsX7_unlike 37 7 4 := ⟨RX7, TX7, 9, rfl, by decide, us_X7_unlike_7, by decide +kernel⟩
theorem k_X7_unlike_140 : KV RX7 wsX7_unlike rm_X7_unlike 140 RX7 yX7_hoursOf wsX7_hoursOf rm_X7_hoursOf 1 := ⟨_, _, _, _, gX7_unlike_X7_hoursOf, rfl, rfl, rfl, by decide +kernel, by decide⟩
theorem k_X7_unlike_214 : KV RX7 wsX7_unlike rm_X7_unlike 214 RX5 yX5_unlikeOf wsX5_unlikeOf rm_X5_unlikeOf 2 := ⟨_, _, _, _, gX7_unlike_X5_unlikeOf, rfl, rfl, rfl, by decide +kernel, by decide⟩

set_option maxHeartbeats 4000000 in
set_option maxRecDepth 100000 in
theorem c_X7_unlike {l : Launch} {V : ab_V} {mu : ab_mem}  (hV : OKX V) (hi : IX mu)  : CT l V ShX yX7_unlike wsX7_unlike rm_X7_unlike [.ref (aL V 0)] mu (pI (fun r mu2 => r = usX mu 3 ∧ pX mu2 = pX mu)) := by
  refine ab_enter hV.1 (by decide) rfl (Nat.le_of_ble_eq_true rfl) ?_
  intro X B E
  have B : CX X l rm_X7_unlike RX7 cX7_unlike wsX7_unlike 3 V ShX := B
  show AW X V ShX 3 0 [some (.ref (aL V 0)), none, none] [] mu
  have loop : ∀ (m j : Nat), j + m = 3 → ∀ mu1, pX mu1 = pX mu → AW X V ShX 3 4 [some (.ref (aL V 0)), some (.int (usX mu j)), some (.int (nI j))] [] mu1 := by
    intro m
    induction m with
    | zero =>
      intro j hj mu1 hp
      have e : j = 3 := by omega
      subst e
      refine a_iload_n B dX7_unlike_4 rfl ?_
      refine a_iconst (v := 3) B dX7_unlike_5 (by decide) ?_
      refine a_icmp_ge_t (tgt := 31) B dX7_unlike_6 (by decide) (by decide) ?_
      refine a_iload_n B dX7_unlike_31 rfl ?_
      refine a_ireturn B E dX7_unlike_32 ?_
      exact ⟨rfl, hp⟩
    | succ m ih =>
      intro j hj mu1 hp
      refine a_iload_n B dX7_unlike_4 rfl ?_
      refine a_iconst (v := 3) B dX7_unlike_5 (by decide) ?_
      refine a_icmp_ge_f (tgt := 31) B dX7_unlike_6 (by decide) (nI_ge (a := j) (b := 3) (by omega) (by decide)) ?_
      refine a_iload_n B dX7_unlike_9 rfl ?_
      refine a_aload_n B dX7_unlike_10 rfl ?_
      refine a_getr B fl_X7_unlike_37 (by first | rfl | assumption) rfl dX7_unlike_11 ?_
      refine a_iload_n B dX7_unlike_14 rfl ?_
      refine a_aload_n B dX7_unlike_15 rfl ?_
      refine a_iload_n B dX7_unlike_16 rfl ?_
      refine a_callVi B k_X7_unlike_140 (c_X7_hoursOf hV (IX_p hp hi) (by omega)) (by first | rfl | assumption) rfl rfl rfl (Nat.le_of_ble_eq_true rfl) dX7_unlike_17 (fun r17 mu17 h17 => ?_)
      obtain ⟨rfl, hD⟩ := h17
      rw [bX_p hp (g := j) (by omega)]
      have hp2 := hD.1.trans hp
      refine a_callVi B k_X7_unlike_214 (c_X5_unlikeOf hV (IX_p hp2 hi).2.2.1) (by first | rfl | assumption) rfl rfl rfl (Nat.le_of_ble_eq_true rfl) dX7_unlike_20 (fun r20 mu20 h20 => ?_)
      obtain ⟨rfl, rfl⟩ := h20
      rw [kX_p hp2, pX_at hp2 8 rfl, pX_at hp2 9 rfl, pX_at hp2 10 rfl]
      refine a_iadd B dX7_unlike_23 ?_
      refine a_istore_n B dX7_unlike_24 (by decide) ?_
      refine a_iinc (v := 1) B dX7_unlike_25 rfl (by decide) (by decide) ?_
      refine a_goto (tgt := 4) B dX7_unlike_28 (by decide) ?_
      rw [nI_1]
      exact ih (j + 1) (by omega) _ hp2
  refine a_iconst (v := 0) B dX7_unlike_0 (by decide) ?_
  refine a_istore_n B dX7_unlike_1 (by decide) ?_
  refine a_iconst (v := 0) B dX7_unlike_2 (by decide) ?_
  refine a_istore_n B dX7_unlike_3 (by decide) ?_
  exact loop 3 0 rfl mu rfl
abbrev rm_X7_parrot : Room := { frames := 4, cells := 0, slots := 0, locals := 89 }
theorem k_X7_parrot_140 : KV RX7 wsX7_parrot rm_X7_parrot 140 RX7 yX7_hoursOf wsX7_hoursOf rm_X7_hoursOf 1 := ⟨_, _, _, _, gX7_parrot_X7_hoursOf, rfl, rfl, rfl, by decide +kernel, by decide⟩
theorem k_X7_parrot_172 : KS RX7 wsX7_parrot rm_X7_parrot 172 yX7_isSide wsX7_isSide rm_X7_isSide 1 := ⟨_, _, _, _, gX7_parrot_X7_isSide, rfl, rfl, rfl, by decide +kernel, by decide⟩

set_option maxHeartbeats 4000000 in
set_option maxRecDepth 100000 in
theorem c_X7_parrot {l : Launch} {V : ab_V} {mu : ab_mem} {g : Nat} (hV : OKX V) (hi : IX mu) (hg : g < 2) : CT l V ShX yX7_parrot wsX7_parrot rm_X7_parrot [.ref (aL V 0), .int (nI g)] mu (pI (fun r mu2 => r = ((bX mu g 0 99 24 <<< ((1 : Int32) &&& 31)) &&& bX mu (1 - g) 0 99 24) &&& (bX mu g 0 99 24 ^^^ -1) ∧ pX mu2 = pX mu)) := by
  refine ab_enter hV.1 (by decide) rfl (Nat.le_of_ble_eq_true rfl) ?_
  intro X B E
  have B : CX X l rm_X7_parrot RX7 cX7_parrot wsX7_parrot 3 V ShX := B
  show AW X V ShX 3 0 [some (.ref (aL V 0)), some (.int (nI g)), none] [] mu
  refine a_iload_n B dX7_parrot_0 rfl ?_
  refine a_callSi B k_X7_parrot_172 (c_X7_isSide hV) rfl rfl (Nat.le_of_ble_eq_true rfl) dX7_parrot_1 (fun r1 mu1 h1 => ?_)
  obtain ⟨rfl, rfl⟩ := h1
  refine a_if_ne_t (tgt := 10) B dX7_parrot_4 (by decide) (bI_n0.mpr (inB_nI (n := 1) (by omega) (by decide))) ?_
  refine a_aload_n B dX7_parrot_10 rfl ?_
  refine a_iload_n B dX7_parrot_11 rfl ?_
  refine a_callVi B k_X7_parrot_140 (c_X7_hoursOf hV hi (by omega)) (by first | rfl | assumption) rfl rfl rfl (Nat.le_of_ble_eq_true rfl) dX7_parrot_12 (fun r12 mu12 h12 => ?_)
  obtain ⟨rfl, hD⟩ := h12
  refine a_istore_n B dX7_parrot_15 (by decide) ?_
  refine a_iload_n B dX7_parrot_16 rfl ?_
  refine a_iconst (v := 1) B dX7_parrot_17 (by decide) ?_
  refine a_ishl B dX7_parrot_18 ?_
  refine a_aload_n B dX7_parrot_19 rfl ?_
  refine a_iconst (v := 1) B dX7_parrot_20 (by decide) ?_
  refine a_iload_n B dX7_parrot_21 rfl ?_
  refine a_isub B dX7_parrot_22 ?_
  rw [show (1 : Int32) - nI g = nI (1 - g) from pk_sub (a := 1) (by omega)]
  refine a_callVi B k_X7_parrot_140 (c_X7_hoursOf hV (IX_p hD.1 hi) (by omega)) (by first | rfl | assumption) rfl rfl rfl (Nat.le_of_ble_eq_true rfl) dX7_parrot_23 (fun r23 mu23 h23 => ?_)
  obtain ⟨rfl, hD2⟩ := h23
  rw [bX_p hD.1 (g := 1 - g) (by omega)]
  refine a_iand B dX7_parrot_26 ?_
  refine a_iload_n B dX7_parrot_27 rfl ?_
  refine a_iconst (v := -1) B dX7_parrot_28 (by decide) ?_
  refine a_ixor B dX7_parrot_29 ?_
  refine a_iand B dX7_parrot_30 ?_
  refine a_ireturn B E dX7_parrot_31 ?_
  exact ⟨rfl, hD2.1.trans hD.1⟩
set_option maxHeartbeats 4000000 in
set_option maxRecDepth 100000 in
theorem c_X7_parrot_bad {l : Launch} {V : ab_V} {mu : ab_mem} {a : Int32} (hV : OKX V) (hbad : ¬ inB a 0 1 = true) : CT l V ShX yX7_parrot wsX7_parrot rm_X7_parrot [.ref (aL V 0), .int a] mu (pI (fun r mu2 => r = -2 ∧ mu = mu2)) := by
  refine ab_enter hV.1 (by decide) rfl (Nat.le_of_ble_eq_true rfl) ?_
  intro X B E
  have B : CX X l rm_X7_parrot RX7 cX7_parrot wsX7_parrot 3 V ShX := B
  show AW X V ShX 3 0 [some (.ref (aL V 0)), some (.int a), none] [] mu
  refine a_iload_n B dX7_parrot_0 rfl ?_
  refine a_callSi B k_X7_parrot_172 (c_X7_isSide hV) rfl rfl (Nat.le_of_ble_eq_true rfl) dX7_parrot_1 (fun r1 mu1 h1 => ?_)
  obtain ⟨rfl, rfl⟩ := h1
  refine a_if_ne (tgt := 10) B dX7_parrot_4 (by decide) (fun c4 => ?_) (fun c4 => ?_)
  · exfalso
    simp_all [bI_0, bI_n0]
  · refine a_bipush (v := -2) B dX7_parrot_7 (by decide) ?_
    refine a_ireturn B E dX7_parrot_9 ?_
    exact ⟨rfl, rfl⟩
def usr (x k : Int32) : Int32 := (x.toUInt32 >>> (k.toUInt32 &&& Int32.toUInt32 31)).toInt32
def bc1 (x : Int32) : Int32 := x - (usr x 1 &&& 1431655765)
def bc2 (x : Int32) : Int32 := (x &&& 858993459) + (usr x 2 &&& 858993459)
def bc3 (x : Int32) : Int32 := (x + usr x 4) &&& 252645135
def bc4 (x : Int32) : Int32 := x + usr x 8
def bc5 (x : Int32) : Int32 := x + usr x 16
def bcF (x : Int32) : Int32 := bc5 (bc4 (bc3 (bc2 (bc1 x)))) &&& 63
abbrev rm_J6_bitCount_0f7a4 : Room := { frames := 0, cells := 0, slots := 0, locals := 0 }

set_option maxHeartbeats 4000000 in
set_option maxRecDepth 100000 in
theorem c_J6_bitCount_0f7a4 {l : Launch} {V : ab_V} {mu : ab_mem} {x : Int32} (hV : OKX V)  : CT l V ShX yJ6_bitCount_0f7a4 wsJ6_bitCount_0f7a4 rm_J6_bitCount_0f7a4 [.int x] mu (pI (fun r mu2 => r = bcF x ∧ mu = mu2)) := by
  refine ab_enter hV.1 (by decide) rfl (Nat.le_of_ble_eq_true rfl) ?_
  intro X B E
  have B : CX X l rm_J6_bitCount_0f7a4 RJ6 cJ6_bitCount_0f7a4 wsJ6_bitCount_0f7a4 1 V ShX := B
  show AW X V ShX 1 0 [some (.int x)] [] mu
  refine a_iload_n B dJ6_bitCount_0f7a4_0 rfl ?_
  refine a_iload_n B dJ6_bitCount_0f7a4_1 rfl ?_
  refine a_iconst (v := 1) B dJ6_bitCount_0f7a4_2 (by decide) ?_
  refine a_iushr B dJ6_bitCount_0f7a4_3 ?_
  refine a_ldcw (v := 1431655765) B (by decide +kernel) dJ6_bitCount_0f7a4_4 ?_
  refine a_iand B dJ6_bitCount_0f7a4_7 ?_
  refine a_isub B dJ6_bitCount_0f7a4_8 ?_
  show AW _ _ _ _ _ _ [.int (bc1 x)] _
  refine a_istore_n B dJ6_bitCount_0f7a4_9 (by decide) ?_
  show AW _ _ _ _ _ [some (.int (bc1 x))] _ _
  refine a_iload_n B dJ6_bitCount_0f7a4_10 rfl ?_
  refine a_ldcw (v := 858993459) B (by decide +kernel) dJ6_bitCount_0f7a4_11 ?_
  refine a_iand B dJ6_bitCount_0f7a4_14 ?_
  refine a_iload_n B dJ6_bitCount_0f7a4_15 rfl ?_
  refine a_iconst (v := 2) B dJ6_bitCount_0f7a4_16 (by decide) ?_
  refine a_iushr B dJ6_bitCount_0f7a4_17 ?_
  refine a_ldcw (v := 858993459) B (by decide +kernel) dJ6_bitCount_0f7a4_18 ?_
  refine a_iand B dJ6_bitCount_0f7a4_21 ?_
  refine a_iadd B dJ6_bitCount_0f7a4_22 ?_
  show AW _ _ _ _ _ _ [.int (bc2 (bc1 x))] _
  refine a_istore_n B dJ6_bitCount_0f7a4_23 (by decide) ?_
  show AW _ _ _ _ _ [some (.int (bc2 (bc1 x)))] _ _
  refine a_iload_n B dJ6_bitCount_0f7a4_24 rfl ?_
  refine a_iload_n B dJ6_bitCount_0f7a4_25 rfl ?_
  refine a_iconst (v := 4) B dJ6_bitCount_0f7a4_26 (by decide) ?_
  refine a_iushr B dJ6_bitCount_0f7a4_27 ?_
  refine a_iadd B dJ6_bitCount_0f7a4_28 ?_
  refine a_ldcw (v := 252645135) B (by decide +kernel) dJ6_bitCount_0f7a4_29 ?_
  refine a_iand B dJ6_bitCount_0f7a4_32 ?_
  show AW _ _ _ _ _ _ [.int (bc3 (bc2 (bc1 x)))] _
  refine a_istore_n B dJ6_bitCount_0f7a4_33 (by decide) ?_
  show AW _ _ _ _ _ [some (.int (bc3 (bc2 (bc1 x))))] _ _
  refine a_iload_n B dJ6_bitCount_0f7a4_34 rfl ?_
  refine a_iload_n B dJ6_bitCount_0f7a4_35 rfl ?_
  refine a_bipush (v := 8) B dJ6_bitCount_0f7a4_36 (by decide) ?_
  refine a_iushr B dJ6_bitCount_0f7a4_38 ?_
  refine a_iadd B dJ6_bitCount_0f7a4_39 ?_
  show AW _ _ _ _ _ _ [.int (bc4 (bc3 (bc2 (bc1 x))))] _
  refine a_istore_n B dJ6_bitCount_0f7a4_40 (by decide) ?_
  show AW _ _ _ _ _ [some (.int (bc4 (bc3 (bc2 (bc1 x)))))] _ _
  refine a_iload_n B dJ6_bitCount_0f7a4_41 rfl ?_
  refine a_iload_n B dJ6_bitCount_0f7a4_42 rfl ?_
  refine a_bipush (v := 16) B dJ6_bitCount_0f7a4_43 (by decide) ?_
  refine a_iushr B dJ6_bitCount_0f7a4_45 ?_
  refine a_iadd B dJ6_bitCount_0f7a4_46 ?_
  show AW _ _ _ _ _ _ [.int (bc5 (bc4 (bc3 (bc2 (bc1 x)))))] _
  refine a_istore_n B dJ6_bitCount_0f7a4_47 (by decide) ?_
  show AW _ _ _ _ _ [some (.int (bc5 (bc4 (bc3 (bc2 (bc1 x))))))] _ _
  refine a_iload_n B dJ6_bitCount_0f7a4_48 rfl ?_
  refine a_bipush (v := 63) B dJ6_bitCount_0f7a4_49 (by decide) ?_
  refine a_iand B dJ6_bitCount_0f7a4_51 ?_
  refine a_ireturn B E dJ6_bitCount_0f7a4_52 ?_
  exact ⟨rfl, rfl⟩
def lkX2 (mu : ab_mem) (x : Int32) (k : Nat) : Int32 := 24 - bcF (x ^^^ bX mu 2 k 99 24)
theorem DL_11 : DL 11 := Or.inl rfl
/-- the hours counted over a day that was laid and lived -/
theorem hh_ok {mu mu2 : ab_mem} {d g o : Nat} (h : pX mu2 = pX mu ∧ (∀ h, h < 24 → mu2 (d + 1) h = dX mu g o 99 h) ∧ (∀ h, h < 24 → mu2 (d + 2) h = lX mu g o 99 (h + 1)) ∧ mu2 d 2 = mu (19 + 2 * g) 3 ∧ ∀ q, q ≠ d → q ≠ d + 1 → q ≠ d + 2 → mu2 q = mu q) : hhF (mu2 4 2) (mu2 (d + 2)) (mu2 (d + 1)) 24 = bX mu g o 99 24 := by
  rw [pX_at h.1 4 rfl]
  exact hhF_bt 24 h.2.2.1 h.2.1
abbrev rm_X7_likeHours : Room := { frames := 2, cells := 0, slots := 0, locals := 46 }
set_option maxRecDepth 20000 in
theorem us_X7_likeHours_7 : ∀ w ∈ u_ws RX7 TX7 9, w ∈ wsX7_likeHours := by decide +kernel
set_option maxRecDepth 20000 in
theorem fl_X7_likeHours_11 : FL RX7 wsX7_likeHours 11 7 0 := ⟨RX7, TX7, 9, rfl, by decide, us_X7_likeHours_7, by decide +kernel⟩
set_option maxRecDepth 20000 in
theorem fl_X7_likeHours_30 : FL RX7 wsX7_likeHours 30 7 3 := ⟨RX7, TX7, 9, rfl, by decide, us_X7_likeHours_7, by decide +kernel⟩
set_option maxRecDepth 20000 in
theorem fl_X7_likeHours_42 : FL RX7 wsX7_likeHours 42 7 5 := ⟨RX7, TX7, 9, rfl, by decide, us_X7_likeHours_7, by decide +kernel⟩
theorem k_X7_likeHours_202 : KV RX7 wsX7_likeHours rm_X7_likeHours 202 RX0 yX0_lay wsX0_lay rm_X0_lay 2 := ⟨_, _, _, _, gX7_likeHours_X0_lay, rfl, rfl, rfl, by decide +kernel, by decide⟩
theorem k_X7_likeHours_206 : KV RX7 wsX7_likeHours rm_X7_likeHours 206 RX0 yX0_live wsX0_live rm_X0_live 1 := ⟨_, _, _, _, gX7_likeHours_X0_live, rfl, rfl, rfl, by decide +kernel, by decide⟩
theorem k_X7_likeHours_210 : KV RX7 wsX7_likeHours rm_X7_likeHours 210 RX0 yX0_hiccupHours wsX0_hiccupHours rm_X0_hiccupHours 1 := ⟨_, _, _, _, gX7_likeHours_X0_hiccupHours, rfl, rfl, rfl, by decide +kernel, by decide⟩
theorem k_X7_likeHours_264 : KS RX7 wsX7_likeHours rm_X7_likeHours 264 yJ6_bitCount_0f7a4 wsJ6_bitCount_0f7a4 rm_J6_bitCount_0f7a4 1 := ⟨_, _, _, _, gX7_likeHours_J6_bitCount_0f7a4, rfl, rfl, rfl, by decide +kernel, by decide⟩

set_option maxHeartbeats 4000000 in
set_option maxRecDepth 100000 in
theorem c_X7_likeHours {l : Launch} {V : ab_V} {mu : ab_mem} {x : Int32} {k : Nat} (hV : OKX V) (hi : IX mu) (hk : k < 24) : CT l V ShX yX7_likeHours wsX7_likeHours rm_X7_likeHours [.ref (aL V 0), .int x, .int (nI k)] mu (pI (fun r mu2 => r = lkX2 mu x k ∧ pX mu2 = pX mu)) := by
  refine ab_enter hV.1 (by decide) rfl (Nat.le_of_ble_eq_true rfl) ?_
  intro X B E
  have B : CX X l rm_X7_likeHours RX7 cX7_likeHours wsX7_likeHours 3 V ShX := B
  show AW X V ShX 3 0 [some (.ref (aL V 0)), some (.int x), some (.int (nI k))] [] mu
  refine a_aload_n B dX7_likeHours_0 rfl ?_
  refine a_getr B fl_X7_likeHours_42 (by first | rfl | assumption) rfl dX7_likeHours_1 ?_
  refine a_aload_n B dX7_likeHours_4 rfl ?_
  refine a_getr B fl_X7_likeHours_11 (by first | rfl | assumption) rfl dX7_likeHours_5 ?_
  refine a_iconst (v := 2) B dX7_likeHours_8 (by decide) ?_
  refine a_aald B (2) (by first | rfl | assumption) rfl rfl rfl (by decide) dX7_likeHours_9 ?_
  refine a_iload_n B dX7_likeHours_10 rfl ?_
  refine a_callVv B k_X7_likeHours_202 (c_X0_lay (g := 2) hV DL_11 hi (by decide) hk) (by first | rfl | assumption) rfl rfl rfl (Nat.le_of_ble_eq_true rfl) dX7_likeHours_11 (fun mu11 h11 => ?_)
  refine a_aload_n B dX7_likeHours_14 rfl ?_
  refine a_getr B fl_X7_likeHours_42 (by first | rfl | assumption) rfl dX7_likeHours_15 ?_
  refine a_aload_n B dX7_likeHours_18 rfl ?_
  refine a_getr B fl_X7_likeHours_30 (by first | rfl | assumption) rfl dX7_likeHours_19 ?_
  refine a_callVv B k_X7_likeHours_206 (c_X0_live hV DL_11 (fun h hh => by rw [h11.2.1 h hh]; exact dX_in hi (by decide) k 99 h)) (by first | rfl | assumption) rfl rfl rfl (Nat.le_of_ble_eq_true rfl) dX7_likeHours_22 (fun mu22 h22 => ?_)
  have hd := day_ok DL_11 h11 h22
  refine a_bipush (v := 24) B dX7_likeHours_25 (by decide) ?_
  refine a_iload_n B dX7_likeHours_27 rfl ?_
  refine a_aload_n B dX7_likeHours_28 rfl ?_
  refine a_getr B fl_X7_likeHours_42 (by first | rfl | assumption) rfl dX7_likeHours_29 ?_
  refine a_aload_n B dX7_likeHours_32 rfl ?_
  refine a_getr B fl_X7_likeHours_30 (by first | rfl | assumption) rfl dX7_likeHours_33 ?_
  refine a_callVi B k_X7_likeHours_210 (c_X0_hiccupHours hV DL_11) (by first | rfl | assumption) rfl rfl rfl (Nat.le_of_ble_eq_true rfl) dX7_likeHours_36 (fun r36 mu36 h36 => ?_)
  obtain ⟨rfl, rfl⟩ := h36
  rw [hh_ok hd]
  refine a_ixor B dX7_likeHours_39 ?_
  refine a_callSi B k_X7_likeHours_264 (c_J6_bitCount_0f7a4 hV) rfl rfl (Nat.le_of_ble_eq_true rfl) dX7_likeHours_40 (fun r40 mu40 h40 => ?_)
  obtain ⟨rfl, rfl⟩ := h40
  refine a_isub B dX7_likeHours_43 ?_
  refine a_ireturn B E dX7_likeHours_44 ?_
  exact ⟨rfl, hd.1⟩
def trX (lk : Nat → Int32) : Nat → Int32 × Int32
  | 0 => (0, -1)
  | k + 1 => if (trX lk k).2 < lk k then (nI k, lk k) else trX lk k
def lkX3 (mu : ab_mem) (g : Nat) : Nat → Int32 := lkX2 mu (bX mu g 0 99 24)
theorem lkX2_p {mu mu2 : ab_mem} (h : pX mu2 = pX mu) : lkX2 mu2 = lkX2 mu := by funext x k; unfold lkX2; rw [bX_p h (by decide)]
abbrev rm_X7_trained : Room := { frames := 4, cells := 0, slots := 0, locals := 89 }
theorem k_X7_trained_70 : KS RX7 wsX7_trained rm_X7_trained 70 yX7_within wsX7_within rm_X7_within 3 := ⟨_, _, _, _, gX7_trained_X7_within, rfl, rfl, rfl, by decide +kernel, by decide⟩
theorem k_X7_trained_140 : KV RX7 wsX7_trained rm_X7_trained 140 RX7 yX7_hoursOf wsX7_hoursOf rm_X7_hoursOf 1 := ⟨_, _, _, _, gX7_trained_X7_hoursOf, rfl, rfl, rfl, by decide +kernel, by decide⟩
theorem k_X7_trained_172 : KS RX7 wsX7_trained rm_X7_trained 172 yX7_isSide wsX7_isSide rm_X7_isSide 1 := ⟨_, _, _, _, gX7_trained_X7_isSide, rfl, rfl, rfl, by decide +kernel, by decide⟩
theorem k_X7_trained_217 : KV RX7 wsX7_trained rm_X7_trained 217 RX7 yX7_likeHours wsX7_likeHours rm_X7_likeHours 2 := ⟨_, _, _, _, gX7_trained_X7_likeHours, rfl, rfl, rfl, by decide +kernel, by decide⟩

set_option maxHeartbeats 4000000 in
set_option maxRecDepth 100000 in
theorem c_X7_trained {l : Launch} {V : ab_V} {mu : ab_mem} {g : Nat} {w : Int32} (hV : OKX V) (hi : IX mu) (hg : g < 2) (hw : inB w 0 2 = true) : CT l V ShX yX7_trained wsX7_trained rm_X7_trained [.ref (aL V 0), .int (nI g), .int w] mu (pI (fun r mu2 => r = (if w = 0 then lkX3 mu g 0 else if w = 1 then (trX (lkX3 mu g) 24).2 else (trX (lkX3 mu g) 24).1) ∧ pX mu2 = pX mu)) := by
  refine ab_enter hV.1 (by decide) rfl (Nat.le_of_ble_eq_true rfl) ?_
  intro X B E
  have B : CX X l rm_X7_trained RX7 cX7_trained wsX7_trained 8 V ShX := B
  show AW X V ShX 8 0 [some (.ref (aL V 0)), some (.int (nI g)), some (.int w), none, none, none, none, none] [] mu
  have loop : ¬ w = 0 → ∀ (m k : Nat), k + m = 24 → ∀ mu1, pX mu1 = pX mu → AW X V ShX 8 45 [some (.ref (aL V 0)), some (.int (nI g)), some (.int w), some (.int (bX mu g 0 99 24)), some (.int (trX (lkX3 mu g) k).2), some (.int (trX (lkX3 mu g) k).1), some (.int (nI k)), none] [] mu1 := by
    intro hw0 m
    induction m with
    | zero =>
      intro k hk mu1 hp
      have e : k = 24 := by omega
      subst e
      refine a_iload B dX7_trained_45 rfl ?_
      refine a_bipush (v := 24) B dX7_trained_47 (by decide) ?_
      refine a_icmp_ge_t (tgt := 82) B dX7_trained_49 (by decide) (by decide) ?_
      refine a_iload_n B dX7_trained_82 rfl ?_
      refine a_iconst (v := 1) B dX7_trained_83 (by decide) ?_
      refine a_icmp_ne (tgt := 92) B dX7_trained_84 (by decide) (fun c84 => ?_) (fun c84 => ?_)
      · refine a_iload B dX7_trained_92 rfl ?_
        refine a_ireturn B E dX7_trained_94 ?_
        refine ⟨?_, hp⟩
        rw [if_neg hw0]
        first | rw [if_pos c84] | rw [if_neg c84]
      · refine a_iload B dX7_trained_87 rfl ?_
        refine a_goto (tgt := 94) B dX7_trained_89 (by decide) ?_
        refine a_ireturn B E dX7_trained_94 ?_
        refine ⟨?_, hp⟩
        rw [if_neg hw0]
        first | rw [if_pos c84] | rw [if_neg c84]
    | succ m ih =>
      intro k hk mu1 hp
      refine a_iload B dX7_trained_45 rfl ?_
      refine a_bipush (v := 24) B dX7_trained_47 (by decide) ?_
      refine a_icmp_ge_f (tgt := 82) B dX7_trained_49 (by decide) (nI_ge (a := k) (b := 24) (by omega) (by decide)) ?_
      refine a_aload_n B dX7_trained_52 rfl ?_
      refine a_iload_n B dX7_trained_53 rfl ?_
      refine a_iload B dX7_trained_54 rfl ?_
      refine a_callVi B k_X7_trained_217 (c_X7_likeHours hV (IX_p hp hi) (by omega)) (by first | rfl | assumption) rfl rfl rfl (Nat.le_of_ble_eq_true rfl) dX7_trained_56 (fun r56 mu56 h56 => ?_)
      obtain ⟨rfl, hq⟩ := h56
      rw [lkX2_p hp, show lkX2 mu (bX mu g 0 99 24) k = lkX3 mu g k from rfl]
      have hp2 := hq.trans hp
      refine a_istore B dX7_trained_59 (by decide) ?_
      refine a_iload B dX7_trained_61 rfl ?_
      refine a_iload B dX7_trained_63 rfl ?_
      refine a_icmp_le (tgt := 76) B dX7_trained_65 (by decide) (fun c65 => ?_) (fun c65 => ?_)
      · refine a_iinc (v := 1) B dX7_trained_76 rfl (by decide) (by decide) ?_
        refine a_goto (tgt := 45) B dX7_trained_79 (by decide) ?_
        refine a_fg 7 ?_
        rw [nI_1]
        have e := ih (k + 1) (by omega) _ hp2
        rw [trX] at e
        first
          | (rw [if_pos (Int32.not_le.mp c65)] at e; exact e)
          | (rw [if_neg (Int32.not_lt.mpr c65)] at e; exact e)
      · refine a_iload B dX7_trained_68 rfl ?_
        refine a_istore B dX7_trained_70 (by decide) ?_
        refine a_iload B dX7_trained_72 rfl ?_
        refine a_istore B dX7_trained_74 (by decide) ?_
        refine a_iinc (v := 1) B dX7_trained_76 rfl (by decide) (by decide) ?_
        refine a_goto (tgt := 45) B dX7_trained_79 (by decide) ?_
        refine a_fg 7 ?_
        rw [nI_1]
        have e := ih (k + 1) (by omega) _ hp2
        rw [trX] at e
        first
          | (rw [if_pos (Int32.not_le.mp c65)] at e; exact e)
          | (rw [if_neg (Int32.not_lt.mpr c65)] at e; exact e)
  refine a_iload_n B dX7_trained_0 rfl ?_
  refine a_callSi B k_X7_trained_172 (c_X7_isSide hV) rfl rfl (Nat.le_of_ble_eq_true rfl) dX7_trained_1 (fun r1 mu1 h1 => ?_)
  obtain ⟨rfl, rfl⟩ := h1
  refine a_if_eq_f (tgt := 16) B dX7_trained_4 (by decide) (bI_n0.mpr (inB_nI (n := 1) (by omega) (by decide))) ?_
  refine a_iload_n B dX7_trained_7 rfl ?_
  refine a_iconst (v := 0) B dX7_trained_8 (by decide) ?_
  refine a_iconst (v := 2) B dX7_trained_9 (by decide) ?_
  refine a_callSi B k_X7_trained_70 (c_X7_within hV) rfl rfl (Nat.le_of_ble_eq_true rfl) dX7_trained_10 (fun r10 mu10 h10 => ?_)
  obtain ⟨rfl, rfl⟩ := h10
  refine a_if_ne_t (tgt := 19) B dX7_trained_13 (by decide) (bI_n0.mpr hw) ?_
  refine a_aload_n B dX7_trained_19 rfl ?_
  refine a_iload_n B dX7_trained_20 rfl ?_
  refine a_callVi B k_X7_trained_140 (c_X7_hoursOf hV hi (by omega)) (by first | rfl | assumption) rfl rfl rfl (Nat.le_of_ble_eq_true rfl) dX7_trained_21 (fun r21 mu21 h21 => ?_)
  obtain ⟨rfl, hD⟩ := h21
  refine a_istore_n B dX7_trained_24 (by decide) ?_
  refine a_iload_n B dX7_trained_25 rfl ?_
  refine a_if_ne (tgt := 36) B dX7_trained_26 (by decide) (fun c26 => ?_) (fun c26 => ?_)
  · refine a_iconst (v := -1) B dX7_trained_36 (by decide) ?_
    refine a_istore B dX7_trained_37 (by decide) ?_
    refine a_iconst (v := 0) B dX7_trained_39 (by decide) ?_
    refine a_istore B dX7_trained_40 (by decide) ?_
    refine a_iconst (v := 0) B dX7_trained_42 (by decide) ?_
    refine a_istore B dX7_trained_43 (by decide) ?_
    exact loop c26 24 0 rfl _ hD.1
  · refine a_aload_n B dX7_trained_29 rfl ?_
    refine a_iload_n B dX7_trained_30 rfl ?_
    refine a_iconst (v := 0) B dX7_trained_31 (by decide) ?_
    refine a_callVi B k_X7_trained_217 (c_X7_likeHours (k := 0) hV (IX_p hD.1 hi) (by decide)) (by first | rfl | assumption) rfl rfl rfl (Nat.le_of_ble_eq_true rfl) dX7_trained_32 (fun r32 mu32 h32 => ?_)
    obtain ⟨rfl, hq⟩ := h32
    rw [lkX2_p hD.1]
    refine a_ireturn B E dX7_trained_35 ?_
    rw [if_pos c26]
    exact ⟨rfl, hq.trans hD.1⟩
set_option maxHeartbeats 4000000 in
set_option maxRecDepth 100000 in
theorem c_X7_trained_bad {l : Launch} {V : ab_V} {mu : ab_mem} {a w : Int32} (hV : OKX V) (hbad : ¬ (inB a 0 1 = true ∧ inB w 0 2 = true)) : CT l V ShX yX7_trained wsX7_trained rm_X7_trained [.ref (aL V 0), .int a, .int w] mu (pI (fun r mu2 => r = -2 ∧ mu = mu2)) := by
  refine ab_enter hV.1 (by decide) rfl (Nat.le_of_ble_eq_true rfl) ?_
  intro X B E
  have B : CX X l rm_X7_trained RX7 cX7_trained wsX7_trained 8 V ShX := B
  show AW X V ShX 8 0 [some (.ref (aL V 0)), some (.int a), some (.int w), none, none, none, none, none] [] mu
  refine a_iload_n B dX7_trained_0 rfl ?_
  refine a_callSi B k_X7_trained_172 (c_X7_isSide hV) rfl rfl (Nat.le_of_ble_eq_true rfl) dX7_trained_1 (fun r1 mu1 h1 => ?_)
  obtain ⟨rfl, rfl⟩ := h1
  refine a_if_eq (tgt := 16) B dX7_trained_4 (by decide) (fun c4 => ?_) (fun c4 => ?_)
  · refine a_bipush (v := -2) B dX7_trained_16 (by decide) ?_
    refine a_ireturn B E dX7_trained_18 ?_
    exact ⟨rfl, rfl⟩
  · refine a_iload_n B dX7_trained_7 rfl ?_
    refine a_iconst (v := 0) B dX7_trained_8 (by decide) ?_
    refine a_iconst (v := 2) B dX7_trained_9 (by decide) ?_
    refine a_callSi B k_X7_trained_70 (c_X7_within hV) rfl rfl (Nat.le_of_ble_eq_true rfl) dX7_trained_10 (fun r10 mu10 h10 => ?_)
    obtain ⟨rfl, rfl⟩ := h10
    refine a_if_ne (tgt := 19) B dX7_trained_13 (by decide) (fun c13 => ?_) (fun c13 => ?_)
    · exfalso
      simp_all [bI_0, bI_n0]
    · refine a_bipush (v := -2) B dX7_trained_16 (by decide) ?_
      refine a_ireturn B E dX7_trained_18 ?_
      exact ⟨rfl, rfl⟩
def psX (mu : ab_mem) (g : Nat) : Int32 := psF (mu 6) (fX mu g) (tX mu g)
abbrev rm_X7_pricesTold : Room := { frames := 3, cells := 0, slots := 0, locals := 63 }
set_option maxRecDepth 20000 in
theorem us_X7_pricesTold_7 : ∀ w ∈ u_ws RX7 TX7 9, w ∈ wsX7_pricesTold := by decide +kernel
set_option maxRecDepth 20000 in
theorem fl_X7_pricesTold_11 : FL RX7 wsX7_pricesTold 11 7 0 := ⟨RX7, TX7, 9, rfl, by decide, us_X7_pricesTold_7, by decide +kernel⟩
set_option maxRecDepth 20000 in
theorem fl_X7_pricesTold_30 : FL RX7 wsX7_pricesTold 30 7 3 := ⟨RX7, TX7, 9, rfl, by decide, us_X7_pricesTold_7, by decide +kernel⟩
theorem k_X7_pricesTold_255 : KV RX7 wsX7_pricesTold rm_X7_pricesTold 255 RX1 yX1_dishesTold wsX1_dishesTold rm_X1_dishesTold 0 := ⟨_, _, _, _, gX7_pricesTold_X1_dishesTold, rfl, rfl, rfl, by decide +kernel, by decide⟩
theorem k_X7_pricesTold_323 : KV RX7 wsX7_pricesTold rm_X7_pricesTold 323 RX1 yX1_dishAt wsX1_dishAt rm_X1_dishAt 1 := ⟨_, _, _, _, gX7_pricesTold_X1_dishAt, rfl, rfl, rfl, by decide +kernel, by decide⟩
theorem k_X7_pricesTold_326 : KV RX7 wsX7_pricesTold rm_X7_pricesTold 326 RX3 yX3_priceOf wsX3_priceOf rm_X3_priceOf 1 := ⟨_, _, _, _, gX7_pricesTold_X3_priceOf, rfl, rfl, rfl, by decide +kernel, by decide⟩

set_option maxHeartbeats 4000000 in
set_option maxRecDepth 100000 in
theorem c_X7_pricesTold {l : Launch} {V : ab_V} {mu : ab_mem} {g : Nat} (hV : OKX V) (hi : IX mu) (hg : g < 3)  : CT l V ShX yX7_pricesTold wsX7_pricesTold rm_X7_pricesTold [.ref (aL V 0), .int (nI g)] mu (pI (fun r mu2 => r = psX mu g ∧ mu = mu2)) := by
  refine ab_enter hV.1 (by decide) rfl (Nat.le_of_ble_eq_true rfl) ?_
  intro X B E
  have B : CX X l rm_X7_pricesTold RX7 cX7_pricesTold wsX7_pricesTold 6 V ShX := B
  show AW X V ShX 6 0 [some (.ref (aL V 0)), some (.int (nI g)), none, none, none, none] [] mu
  have q1 := shG hg
  have q2 := shGm hg
  have hn1 := hi.1 g hg
  have ht24 := tX_le hi hg
  have htn := tX_n (mu := mu) (g := g)
  have loop : ∀ (m k : Nat), k + m = tX mu g → AW X V ShX 6 18 [some (.ref (aL V 0)), some (.int (nI g)), some (.ref (aL V (19 + 2 * g))), some (.int (nI (tX mu g))), some (.int (psF (mu 6) (fX mu g) k)), some (.int (nI k))] [] mu := by
    intro m
    induction m with
    | zero =>
      intro k hk
      refine a_iload B dX7_pricesTold_18 rfl ?_
      refine a_iload_n B dX7_pricesTold_20 rfl ?_
      refine a_icmp_ge_t (tgt := 48) B dX7_pricesTold_21 (by decide) (nI_le (by omega) (by omega)) ?_
      refine a_iload B dX7_pricesTold_48 rfl ?_
      refine a_ireturn B E dX7_pricesTold_50 ?_
      rw [show k = tX mu g by omega]
      exact ⟨rfl, rfl⟩
    | succ m ih =>
      intro k hk
      refine a_iload B dX7_pricesTold_18 rfl ?_
      refine a_iload_n B dX7_pricesTold_20 rfl ?_
      refine a_icmp_ge_f (tgt := 48) B dX7_pricesTold_21 (by decide) (nI_ge (by omega) (by omega)) ?_
      refine a_iload B dX7_pricesTold_24 rfl ?_
      refine a_aload_n B dX7_pricesTold_26 rfl ?_
      refine a_getr B fl_X7_pricesTold_30 (by first | rfl | assumption) rfl dX7_pricesTold_27 ?_
      refine a_aload_n B dX7_pricesTold_30 rfl ?_
      refine a_iload B dX7_pricesTold_31 rfl ?_
      refine a_callVi B k_X7_pricesTold_323 (c_X1_dishAt hV hg hn1.1 hn1.2.1 (by omega)) (by first | rfl | assumption) rfl rfl rfl (Nat.le_of_ble_eq_true rfl) dX7_pricesTold_33 (fun r33 mu33 h33 => ?_)
      obtain ⟨rfl, rfl⟩ := h33
      obtain ⟨dd, hdd, ed⟩ := vp_in_of (fX_in hi hg k (by omega)) (by decide)
      rw [ed]
      refine a_callVi B k_X7_pricesTold_326 (c_X3_priceOf hV hdd) (by first | rfl | assumption) rfl rfl rfl (Nat.le_of_ble_eq_true rfl) dX7_pricesTold_36 (fun r36 mu36 h36 => ?_)
      obtain ⟨rfl, rfl⟩ := h36
      refine a_iadd B dX7_pricesTold_39 ?_
      refine a_istore B dX7_pricesTold_40 (by decide) ?_
      refine a_iinc (v := 1) B dX7_pricesTold_42 rfl (by decide) (by decide) ?_
      refine a_goto (tgt := 18) B dX7_pricesTold_45 (by decide) ?_
      rw [nI_1]
      have e := ih (k + 1) (by omega)
      rw [psF, ed, nI_clamp (by omega)] at e
      exact e
  refine a_aload_n B dX7_pricesTold_0 rfl ?_
  refine a_getr B fl_X7_pricesTold_11 (by first | rfl | assumption) rfl dX7_pricesTold_1 ?_
  refine a_iload_n B dX7_pricesTold_4 rfl ?_
  refine a_aald B (g) (by first | rfl | assumption) rfl rfl (elG hg) (by decide) dX7_pricesTold_5 ?_
  refine a_astore_n B dX7_pricesTold_6 (by decide) ?_
  refine a_aload_n B dX7_pricesTold_7 rfl ?_
  refine a_callVi B k_X7_pricesTold_255 (c_X1_dishesTold hV hg hn1.1) (by first | rfl | assumption) rfl rfl rfl (Nat.le_of_ble_eq_true rfl) dX7_pricesTold_8 (fun r8 mu8 h8 => ?_)
  obtain ⟨rfl, rfl⟩ := h8
  refine a_istore_n B dX7_pricesTold_11 (by decide) ?_
  refine a_iconst (v := 0) B dX7_pricesTold_12 (by decide) ?_
  refine a_istore B dX7_pricesTold_13 (by decide) ?_
  refine a_iconst (v := 0) B dX7_pricesTold_15 (by decide) ?_
  refine a_istore B dX7_pricesTold_16 (by decide) ?_
  exact loop (tX mu g) 0 (by omega)
def cntX (mu : ab_mem) (j : Nat) : Int32 := if j < 3 then nI (tX mu j) else if j = 3 then mu 4 2 else if j = 4 then mu 4 3 else if j = 5 then mu 7 3 else if j = 6 then psX mu 0 + psX mu 1 else if j = 7 then bcF (mu 4 4) else mu 0 8
abbrev rm_X7_count : Room := { frames := 4, cells := 0, slots := 0, locals := 88 }
set_option maxRecDepth 20000 in
theorem us_X7_count_3 : ∀ w ∈ u_ws RX3 TX3 5, w ∈ wsX7_count := by decide +kernel
set_option maxRecDepth 20000 in
theorem us_X7_count_5 : ∀ w ∈ u_ws RX5 TX5 4, w ∈ wsX7_count := by decide +kernel
set_option maxRecDepth 20000 in
theorem us_X7_count_7 : ∀ w ∈ u_ws RX7 TX7 9, w ∈ wsX7_count := by decide +kernel
set_option maxRecDepth 20000 in
theorem fl_X7_count_11 : FL RX7 wsX7_count 11 7 0 := ⟨RX7, TX7, 9, rfl, by decide, us_X7_count_7, by decide +kernel⟩
set_option maxRecDepth 20000 in
theorem fl_X7_count_30 : FL RX7 wsX7_count 30 7 3 := ⟨RX7, TX7, 9, rfl, by decide, us_X7_count_7, by decide +kernel⟩
set_option maxRecDepth 20000 in
theorem fl_X7_count_37 : FL RX7 wsX7_count 37 7 4 := ⟨RX7, TX7, 9, rfl, by decide, us_X7_count_7, by decide +kernel⟩
set_option maxRecDepth 20000 in
theorem fl_X7_count_60 : FL RX7 wsX7_count 60 7 8 := ⟨RX7, TX7, 9, rfl, by decide, us_X7_count_7, by decide +kernel⟩
set_option maxRecDepth 20000 in
theorem fl_X7_count_146 : FL RX7 wsX7_count 146 3 3 := ⟨RX3, TX3, 5, rfl, by decide, us_X7_count_3, by decide +kernel⟩
set_option maxRecDepth 20000 in
theorem fl_X7_count_159 : FL RX7 wsX7_count 159 3 2 := ⟨RX3, TX3, 5, rfl, by decide, us_X7_count_3, by decide +kernel⟩
set_option maxRecDepth 20000 in
theorem fl_X7_count_199 : FL RX7 wsX7_count 199 5 3 := ⟨RX5, TX5, 4, rfl, by decide, us_X7_count_5, by decide +kernel⟩
set_option maxRecDepth 20000 in
theorem fl_X7_count_261 : FL RX7 wsX7_count 261 3 4 := ⟨RX3, TX3, 5, rfl, by decide, us_X7_count_3, by decide +kernel⟩
theorem k_X7_count_255 : KV RX7 wsX7_count rm_X7_count 255 RX1 yX1_dishesTold wsX1_dishesTold rm_X1_dishesTold 0 := ⟨_, _, _, _, gX7_count_X1_dishesTold, rfl, rfl, rfl, by decide +kernel, by decide⟩
theorem k_X7_count_258 : KV RX7 wsX7_count rm_X7_count 258 RX7 yX7_pricesTold wsX7_pricesTold rm_X7_pricesTold 1 := ⟨_, _, _, _, gX7_count_X7_pricesTold, rfl, rfl, rfl, by decide +kernel, by decide⟩
theorem k_X7_count_264 : KS RX7 wsX7_count rm_X7_count 264 yJ6_bitCount_0f7a4 wsJ6_bitCount_0f7a4 rm_J6_bitCount_0f7a4 1 := ⟨_, _, _, _, gX7_count_J6_bitCount_0f7a4, rfl, rfl, rfl, by decide +kernel, by decide⟩

set_option maxHeartbeats 4000000 in
set_option maxRecDepth 100000 in
theorem c_X7_count_0 {l : Launch} {V : ab_V} {mu : ab_mem}  (hV : OKX V) (hi : IX mu)  : CT l V ShX yX7_count wsX7_count rm_X7_count [.ref (aL V 0), .int (nI 0)] mu (pI (fun r mu2 => r = cntX mu 0 ∧ mu = mu2)) := by
  refine ab_enter hV.1 (by decide) rfl (Nat.le_of_ble_eq_true rfl) ?_
  intro X B E
  have B : CX X l rm_X7_count RX7 cX7_count wsX7_count 2 V ShX := B
  show AW X V ShX 2 0 [some (.ref (aL V 0)), some (.int (nI 0))] [] mu
  refine a_iload_n B dX7_count_0 rfl ?_
  refine a_tableIn (off := 51) (tgt := 52) B dX7_count_1 (by decide) (by decide) (by decide) (by decide) ?_
  refine a_aload_n B dX7_count_52 rfl ?_
  refine a_getr B fl_X7_count_11 (by first | rfl | assumption) rfl dX7_count_53 ?_
  refine a_iload_n B dX7_count_56 rfl ?_
  refine a_aald B (0) (by first | rfl | assumption) rfl rfl rfl (by decide) dX7_count_57 ?_
  refine a_callVi B k_X7_count_255 (c_X1_dishesTold (g := 0) hV (by decide) (hi.1 0 (by decide)).1) (by first | rfl | assumption) rfl rfl rfl (Nat.le_of_ble_eq_true rfl) dX7_count_58 (fun r58 mu58 h58 => ?_)
  refine a_ireturn B E dX7_count_61 ?_
  exact h58
set_option maxHeartbeats 4000000 in
set_option maxRecDepth 100000 in
theorem c_X7_count_1 {l : Launch} {V : ab_V} {mu : ab_mem}  (hV : OKX V) (hi : IX mu)  : CT l V ShX yX7_count wsX7_count rm_X7_count [.ref (aL V 0), .int (nI 1)] mu (pI (fun r mu2 => r = cntX mu 1 ∧ mu = mu2)) := by
  refine ab_enter hV.1 (by decide) rfl (Nat.le_of_ble_eq_true rfl) ?_
  intro X B E
  have B : CX X l rm_X7_count RX7 cX7_count wsX7_count 2 V ShX := B
  show AW X V ShX 2 0 [some (.ref (aL V 0)), some (.int (nI 1))] [] mu
  refine a_iload_n B dX7_count_0 rfl ?_
  refine a_tableIn (off := 51) (tgt := 52) B dX7_count_1 (by decide) (by decide) (by decide) (by decide) ?_
  refine a_aload_n B dX7_count_52 rfl ?_
  refine a_getr B fl_X7_count_11 (by first | rfl | assumption) rfl dX7_count_53 ?_
  refine a_iload_n B dX7_count_56 rfl ?_
  refine a_aald B (1) (by first | rfl | assumption) rfl rfl rfl (by decide) dX7_count_57 ?_
  refine a_callVi B k_X7_count_255 (c_X1_dishesTold (g := 1) hV (by decide) (hi.1 1 (by decide)).1) (by first | rfl | assumption) rfl rfl rfl (Nat.le_of_ble_eq_true rfl) dX7_count_58 (fun r58 mu58 h58 => ?_)
  refine a_ireturn B E dX7_count_61 ?_
  exact h58
set_option maxHeartbeats 4000000 in
set_option maxRecDepth 100000 in
theorem c_X7_count_2 {l : Launch} {V : ab_V} {mu : ab_mem}  (hV : OKX V) (hi : IX mu)  : CT l V ShX yX7_count wsX7_count rm_X7_count [.ref (aL V 0), .int (nI 2)] mu (pI (fun r mu2 => r = cntX mu 2 ∧ mu = mu2)) := by
  refine ab_enter hV.1 (by decide) rfl (Nat.le_of_ble_eq_true rfl) ?_
  intro X B E
  have B : CX X l rm_X7_count RX7 cX7_count wsX7_count 2 V ShX := B
  show AW X V ShX 2 0 [some (.ref (aL V 0)), some (.int (nI 2))] [] mu
  refine a_iload_n B dX7_count_0 rfl ?_
  refine a_tableIn (off := 51) (tgt := 52) B dX7_count_1 (by decide) (by decide) (by decide) (by decide) ?_
  refine a_aload_n B dX7_count_52 rfl ?_
  refine a_getr B fl_X7_count_11 (by first | rfl | assumption) rfl dX7_count_53 ?_
  refine a_iload_n B dX7_count_56 rfl ?_
  refine a_aald B (2) (by first | rfl | assumption) rfl rfl rfl (by decide) dX7_count_57 ?_
  refine a_callVi B k_X7_count_255 (c_X1_dishesTold (g := 2) hV (by decide) (hi.1 2 (by decide)).1) (by first | rfl | assumption) rfl rfl rfl (Nat.le_of_ble_eq_true rfl) dX7_count_58 (fun r58 mu58 h58 => ?_)
  refine a_ireturn B E dX7_count_61 ?_
  exact h58
set_option maxHeartbeats 4000000 in
set_option maxRecDepth 100000 in
theorem c_X7_count_3 {l : Launch} {V : ab_V} {mu : ab_mem}  (hV : OKX V) (hi : IX mu)  : CT l V ShX yX7_count wsX7_count rm_X7_count [.ref (aL V 0), .int (nI 3)] mu (pI (fun r mu2 => r = cntX mu 3 ∧ mu = mu2)) := by
  refine ab_enter hV.1 (by decide) rfl (Nat.le_of_ble_eq_true rfl) ?_
  intro X B E
  have B : CX X l rm_X7_count RX7 cX7_count wsX7_count 2 V ShX := B
  show AW X V ShX 2 0 [some (.ref (aL V 0)), some (.int (nI 3))] [] mu
  refine a_iload_n B dX7_count_0 rfl ?_
  refine a_tableIn (off := 61) (tgt := 62) B dX7_count_1 (by decide) (by decide) (by decide) (by decide) ?_
  refine a_aload_n B dX7_count_62 rfl ?_
  refine a_getr B fl_X7_count_30 (by first | rfl | assumption) rfl dX7_count_63 ?_
  refine a_geti B fl_X7_count_159 (by first | rfl | assumption) rfl dX7_count_66 ?_
  refine a_ireturn B E dX7_count_69 ?_
  exact ⟨rfl, rfl⟩
set_option maxHeartbeats 4000000 in
set_option maxRecDepth 100000 in
theorem c_X7_count_4 {l : Launch} {V : ab_V} {mu : ab_mem}  (hV : OKX V) (hi : IX mu)  : CT l V ShX yX7_count wsX7_count rm_X7_count [.ref (aL V 0), .int (nI 4)] mu (pI (fun r mu2 => r = cntX mu 4 ∧ mu = mu2)) := by
  refine ab_enter hV.1 (by decide) rfl (Nat.le_of_ble_eq_true rfl) ?_
  intro X B E
  have B : CX X l rm_X7_count RX7 cX7_count wsX7_count 2 V ShX := B
  show AW X V ShX 2 0 [some (.ref (aL V 0)), some (.int (nI 4))] [] mu
  refine a_iload_n B dX7_count_0 rfl ?_
  refine a_tableIn (off := 69) (tgt := 70) B dX7_count_1 (by decide) (by decide) (by decide) (by decide) ?_
  refine a_aload_n B dX7_count_70 rfl ?_
  refine a_getr B fl_X7_count_30 (by first | rfl | assumption) rfl dX7_count_71 ?_
  refine a_geti B fl_X7_count_146 (by first | rfl | assumption) rfl dX7_count_74 ?_
  refine a_ireturn B E dX7_count_77 ?_
  exact ⟨rfl, rfl⟩
set_option maxHeartbeats 4000000 in
set_option maxRecDepth 100000 in
theorem c_X7_count_5 {l : Launch} {V : ab_V} {mu : ab_mem}  (hV : OKX V) (hi : IX mu)  : CT l V ShX yX7_count wsX7_count rm_X7_count [.ref (aL V 0), .int (nI 5)] mu (pI (fun r mu2 => r = cntX mu 5 ∧ mu = mu2)) := by
  refine ab_enter hV.1 (by decide) rfl (Nat.le_of_ble_eq_true rfl) ?_
  intro X B E
  have B : CX X l rm_X7_count RX7 cX7_count wsX7_count 2 V ShX := B
  show AW X V ShX 2 0 [some (.ref (aL V 0)), some (.int (nI 5))] [] mu
  refine a_iload_n B dX7_count_0 rfl ?_
  refine a_tableIn (off := 77) (tgt := 78) B dX7_count_1 (by decide) (by decide) (by decide) (by decide) ?_
  refine a_aload_n B dX7_count_78 rfl ?_
  refine a_getr B fl_X7_count_37 (by first | rfl | assumption) rfl dX7_count_79 ?_
  refine a_geti B fl_X7_count_199 (by first | rfl | assumption) rfl dX7_count_82 ?_
  refine a_ireturn B E dX7_count_85 ?_
  exact ⟨rfl, rfl⟩
set_option maxHeartbeats 4000000 in
set_option maxRecDepth 100000 in
theorem c_X7_count_6 {l : Launch} {V : ab_V} {mu : ab_mem}  (hV : OKX V) (hi : IX mu)  : CT l V ShX yX7_count wsX7_count rm_X7_count [.ref (aL V 0), .int (nI 6)] mu (pI (fun r mu2 => r = cntX mu 6 ∧ mu = mu2)) := by
  refine ab_enter hV.1 (by decide) rfl (Nat.le_of_ble_eq_true rfl) ?_
  intro X B E
  have B : CX X l rm_X7_count RX7 cX7_count wsX7_count 2 V ShX := B
  show AW X V ShX 2 0 [some (.ref (aL V 0)), some (.int (nI 6))] [] mu
  refine a_iload_n B dX7_count_0 rfl ?_
  refine a_tableIn (off := 85) (tgt := 86) B dX7_count_1 (by decide) (by decide) (by decide) (by decide) ?_
  refine a_aload_n B dX7_count_86 rfl ?_
  refine a_iconst (v := 0) B dX7_count_87 (by decide) ?_
  refine a_callVi B k_X7_count_258 (c_X7_pricesTold (g := 0) hV hi (by decide)) (by first | rfl | assumption) rfl rfl rfl (Nat.le_of_ble_eq_true rfl) dX7_count_88 (fun r88 mu88 h88 => ?_)
  obtain ⟨rfl, rfl⟩ := h88
  refine a_aload_n B dX7_count_91 rfl ?_
  refine a_iconst (v := 1) B dX7_count_92 (by decide) ?_
  refine a_callVi B k_X7_count_258 (c_X7_pricesTold (g := 1) hV hi (by decide)) (by first | rfl | assumption) rfl rfl rfl (Nat.le_of_ble_eq_true rfl) dX7_count_93 (fun r93 mu93 h93 => ?_)
  obtain ⟨rfl, rfl⟩ := h93
  refine a_iadd B dX7_count_96 ?_
  refine a_ireturn B E dX7_count_97 ?_
  exact ⟨rfl, rfl⟩
set_option maxHeartbeats 4000000 in
set_option maxRecDepth 100000 in
theorem c_X7_count_7 {l : Launch} {V : ab_V} {mu : ab_mem}  (hV : OKX V) (hi : IX mu)  : CT l V ShX yX7_count wsX7_count rm_X7_count [.ref (aL V 0), .int (nI 7)] mu (pI (fun r mu2 => r = cntX mu 7 ∧ mu = mu2)) := by
  refine ab_enter hV.1 (by decide) rfl (Nat.le_of_ble_eq_true rfl) ?_
  intro X B E
  have B : CX X l rm_X7_count RX7 cX7_count wsX7_count 2 V ShX := B
  show AW X V ShX 2 0 [some (.ref (aL V 0)), some (.int (nI 7))] [] mu
  refine a_iload_n B dX7_count_0 rfl ?_
  refine a_tableIn (off := 97) (tgt := 98) B dX7_count_1 (by decide) (by decide) (by decide) (by decide) ?_
  refine a_aload_n B dX7_count_98 rfl ?_
  refine a_getr B fl_X7_count_30 (by first | rfl | assumption) rfl dX7_count_99 ?_
  refine a_geti B fl_X7_count_261 (by first | rfl | assumption) rfl dX7_count_102 ?_
  refine a_callSi B k_X7_count_264 (c_J6_bitCount_0f7a4 hV) rfl rfl (Nat.le_of_ble_eq_true rfl) dX7_count_105 (fun r105 mu105 h105 => ?_)
  refine a_ireturn B E dX7_count_108 ?_
  exact h105
set_option maxHeartbeats 4000000 in
set_option maxRecDepth 100000 in
theorem c_X7_count_8 {l : Launch} {V : ab_V} {mu : ab_mem}  (hV : OKX V) (hi : IX mu)  : CT l V ShX yX7_count wsX7_count rm_X7_count [.ref (aL V 0), .int (nI 8)] mu (pI (fun r mu2 => r = cntX mu 8 ∧ mu = mu2)) := by
  refine ab_enter hV.1 (by decide) rfl (Nat.le_of_ble_eq_true rfl) ?_
  intro X B E
  have B : CX X l rm_X7_count RX7 cX7_count wsX7_count 2 V ShX := B
  show AW X V ShX 2 0 [some (.ref (aL V 0)), some (.int (nI 8))] [] mu
  refine a_iload_n B dX7_count_0 rfl ?_
  refine a_tableIn (off := 108) (tgt := 109) B dX7_count_1 (by decide) (by decide) (by decide) (by decide) ?_
  refine a_aload_n B dX7_count_109 rfl ?_
  refine a_geti B fl_X7_count_60 (by first | rfl | assumption) rfl dX7_count_110 ?_
  refine a_ireturn B E dX7_count_113 ?_
  exact ⟨rfl, rfl⟩
set_option maxHeartbeats 4000000 in
set_option maxRecDepth 100000 in
theorem c_X7_count_bad {l : Launch} {V : ab_V} {mu : ab_mem} {a : Int32} (hV : OKX V) (hbad : a.toInt < 0 ∨ 8 < a.toInt) : CT l V ShX yX7_count wsX7_count rm_X7_count [.ref (aL V 0), .int a] mu (pI (fun r mu2 => r = -2 ∧ mu = mu2)) := by
  refine ab_enter hV.1 (by decide) rfl (Nat.le_of_ble_eq_true rfl) ?_
  intro X B E
  have B : CX X l rm_X7_count RX7 cX7_count wsX7_count 2 V ShX := B
  show AW X V ShX 2 0 [some (.ref (aL V 0)), some (.int a)] [] mu
  refine a_iload_n B dX7_count_0 rfl ?_
  refine a_tableOut (tgt := 114) B dX7_count_1 hbad (by decide) ?_
  refine a_bipush (v := -2) B dX7_count_114 (by decide) ?_
  refine a_ireturn B E dX7_count_116 ?_
  exact ⟨rfl, rfl⟩
theorem c_X7_countN {l : Launch} {V : ab_V} {mu : ab_mem} {j : Nat} (hV : OKX V) (hi : IX mu) (hj : j < 9) : CT l V ShX yX7_count wsX7_count rm_X7_count [.ref (aL V 0), .int (nI j)] mu (pI (fun r mu2 => r = cntX mu j ∧ mu = mu2)) := by
  rcases (show j = 0 ∨ j = 1 ∨ j = 2 ∨ j = 3 ∨ j = 4 ∨ j = 5 ∨ j = 6 ∨ j = 7 ∨ j = 8 by omega) with rfl | rfl | rfl | rfl | rfl | rfl | rfl | rfl | rfl
  · exact c_X7_count_0 hV hi
  · exact c_X7_count_1 hV hi
  · exact c_X7_count_2 hV hi
  · exact c_X7_count_3 hV hi
  · exact c_X7_count_4 hV hi
  · exact c_X7_count_5 hV hi
  · exact c_X7_count_6 hV hi
  · exact c_X7_count_7 hV hi
  · exact c_X7_count_8 hV hi
