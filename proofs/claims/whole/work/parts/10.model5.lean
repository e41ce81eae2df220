abbrev rm_X8_seen : Room := { frames := 2, cells := 0, slots := 0, locals := 42 }
set_option maxRecDepth 20000 in
theorem us_X8_seen_8 : ∀ w ∈ u_ws RX8 TX8 23, w ∈ wsX8_seen := by decide +kernel
set_option maxRecDepth 20000 in
theorem fl_X8_seen_41 : FL RX8 wsX8_seen 41 8 14 := ⟨RX8, TX8, 23, rfl, by decide, us_X8_seen_8, by decide +kernel⟩
set_option maxRecDepth 20000 in
theorem fl_X8_seen_44 : FL RX8 wsX8_seen 44 8 15 := ⟨RX8, TX8, 23, rfl, by decide, us_X8_seen_8, by decide +kernel⟩
set_option maxRecDepth 20000 in
theorem fl_X8_seen_47 : FL RX8 wsX8_seen 47 8 16 := ⟨RX8, TX8, 23, rfl, by decide, us_X8_seen_8, by decide +kernel⟩
set_option maxRecDepth 20000 in
theorem fl_X8_seen_189 : FL RX8 wsX8_seen 189 8 13 := ⟨RX8, TX8, 23, rfl, by decide, us_X8_seen_8, by decide +kernel⟩
set_option maxRecDepth 20000 in
theorem fp_X8_seen_189 : FP RX8 wsX8_seen 189 8 13 .int := ⟨RX8, TX8, 23, tyX8, rfl, by decide, us_X8_seen_8, by decide +kernel, tyX8_ok, nmX8, rfl, rfl⟩
theorem k_X8_seen_71 : KS RX8 wsX8_seen rm_X8_seen 71 yX8_in wsX8_in rm_X8_in 3 := ⟨_, _, _, _, gX8_seen_X8_in, rfl, rfl, rfl, by decide +kernel, by decide⟩
theorem k_X8_seen_75 : KS RX8 wsX8_seen rm_X8_seen 75 yX8_isGeneral wsX8_isGeneral rm_X8_isGeneral 1 := ⟨_, _, _, _, gX8_seen_X8_isGeneral, rfl, rfl, rfl, by decide +kernel, by decide⟩
theorem k_X8_seen_122 : KS RX8 wsX8_seen rm_X8_seen 122 yX8_isHour wsX8_isHour rm_X8_isHour 1 := ⟨_, _, _, _, gX8_seen_X8_isHour, rfl, rfl, rfl, by decide +kernel, by decide⟩

set_option maxHeartbeats 4000000 in
set_option maxRecDepth 100000 in
theorem c_X8_seen {l : Launch} {V : ab_V} {mu : ab_mem} {g h k : Nat} {w : Int32} (hV : ab_OK V ShM) (hg : g < 3) (hh : h < 24) (hw : inB w 0 1 = true) (hk : k ≤ 8) (hm : mu 0 13 = nI k) : CT l V ShM yX8_seen wsX8_seen rm_X8_seen [.ref (aL V 0), .int (nI g), .int (nI h), .int w] mu (pI (fun r mu2 => if k = 8 then r = -4 ∧ mu = mu2 else r = nI (k + 1) ∧ mu2 = ab_up (ab_up (ab_up (ab_up mu 11 k (nI g)) 12 k (nI h)) 13 k w) 0 13 (nI (k + 1)))) := by
  refine ab_enter hV (by decide) rfl (Nat.le_of_ble_eq_true rfl) ?_
  intro X B E
  have B : CX X l rm_X8_seen RX8 cX8_seen wsX8_seen 4 V ShM := B
  show AW X V ShM 4 0 [some (.ref (aL V 0)), some (.int (nI g)), some (.int (nI h)), some (.int w)] [] mu
  refine a_iload_n B dX8_seen_0 rfl ?_
  refine a_callSi B k_X8_seen_75 (c_X8_isGeneral hV) rfl rfl (Nat.le_of_ble_eq_true rfl) dX8_seen_1 (fun r1 mu1 h1 => ?_)
  obtain ⟨rfl, rfl⟩ := h1
  refine a_if_eq_f (tgt := 23) B dX8_seen_4 (by decide) (bI_n0.mpr (inB_nI (n := 2) (by omega) (by decide))) ?_
  refine a_iload_n B dX8_seen_7 rfl ?_
  refine a_callSi B k_X8_seen_122 (c_X8_isHour hV) rfl rfl (Nat.le_of_ble_eq_true rfl) dX8_seen_8 (fun r8 mu8 h8 => ?_)
  obtain ⟨rfl, rfl⟩ := h8
  refine a_if_eq_f (tgt := 23) B dX8_seen_11 (by decide) (bI_n0.mpr (inB_nI (n := 23) (by omega) (by decide))) ?_
  refine a_iload_n B dX8_seen_14 rfl ?_
  refine a_iconst (v := 0) B dX8_seen_15 (by decide) ?_
  refine a_iconst (v := 1) B dX8_seen_16 (by decide) ?_
  refine a_callSi B k_X8_seen_71 (c_X8_in hV) rfl rfl (Nat.le_of_ble_eq_true rfl) dX8_seen_17 (fun r17 mu17 h17 => ?_)
  obtain ⟨rfl, rfl⟩ := h17
  refine a_if_ne_t (tgt := 26) B dX8_seen_20 (by decide) (bI_n0.mpr hw) ?_
  refine a_aload_n B dX8_seen_26 rfl ?_
  refine a_geti B fl_X8_seen_189 (by first | rfl | assumption) rfl dX8_seen_27 ?_
  refine a_bipush (v := 8) B dX8_seen_30 (by decide) ?_
  rw [hm]
  refine a_icmp_ne (tgt := 38) B dX8_seen_32 (by decide) (fun c32 => ?_) (fun c32 => ?_)
  · refine a_aload_n B dX8_seen_38 rfl ?_
    refine a_getr B fl_X8_seen_41 (by first | rfl | assumption) rfl dX8_seen_39 ?_
    refine a_aload_n B dX8_seen_42 rfl ?_
    refine a_geti B fl_X8_seen_189 (by first | rfl | assumption) rfl dX8_seen_43 ?_
    refine a_iload_n B dX8_seen_46 rfl ?_
    have hk8 : k < 8 := by have : k ≠ 8 := (fun e => c32 (by rw [e]; rfl)); omega
    refine a_iastN B (k) (by first | rfl | assumption) hm (by omega) (by decide)  dX8_seen_47 ?_
    refine a_aload_n B dX8_seen_48 rfl ?_
    refine a_getr B fl_X8_seen_44 (by first | rfl | assumption) rfl dX8_seen_49 ?_
    refine a_aload_n B dX8_seen_52 rfl ?_
    refine a_geti B fl_X8_seen_189 (by first | rfl | assumption) rfl dX8_seen_53 ?_
    refine a_iload_n B dX8_seen_56 rfl ?_
    refine a_iastN B (k) (by first | rfl | assumption) (by rw [ab_up_o (by decide), hm]) (by omega) (by decide)  dX8_seen_57 ?_
    refine a_aload_n B dX8_seen_58 rfl ?_
    refine a_getr B fl_X8_seen_47 (by first | rfl | assumption) rfl dX8_seen_59 ?_
    refine a_aload_n B dX8_seen_62 rfl ?_
    refine a_geti B fl_X8_seen_189 (by first | rfl | assumption) rfl dX8_seen_63 ?_
    refine a_iload_n B dX8_seen_66 rfl ?_
    refine a_iastN B (k) (by first | rfl | assumption) (by rw [ab_up_o (by decide), ab_up_o (by decide), hm]) (by omega) (by decide)  dX8_seen_67 ?_
    refine a_aload_n B dX8_seen_68 rfl ?_
    refine a_dup B dX8_seen_69 rfl ?_
    refine a_geti B fl_X8_seen_189 (by first | rfl | assumption) rfl dX8_seen_70 ?_
    refine a_iconst (v := 1) B dX8_seen_73 (by decide) ?_
    refine a_iadd B dX8_seen_74 ?_
    refine a_put B fp_X8_seen_189 (by first | rfl | assumption) rfl rfl rfl dX8_seen_75 ?_
    refine a_aload_n B dX8_seen_78 rfl ?_
    refine a_geti B fl_X8_seen_189 (by first | rfl | assumption) rfl dX8_seen_79 ?_
    refine a_ireturn B E dX8_seen_82 ?_
    rw [if_neg (by omega)]
    have e1 : ab_up (ab_up (ab_up mu 11 k (nI g)) 12 k (nI h)) 13 k w 0 13 + 1 = nI (k + 1) := by rw [ab_up_o (by decide), ab_up_o (by decide), ab_up_o (by decide), hm]; exact nI_1 k
    rw [e1]
    exact ⟨ab_up_k, rfl⟩
  · refine a_bipush (v := -4) B dX8_seen_35 (by decide) ?_
    refine a_ireturn B E dX8_seen_37 ?_
    have e : k = 8 := (nI_eq (a := k) (b := 8) (by omega) (by decide)).mp c32
    rw [if_pos e]
    exact ⟨rfl, rfl⟩
set_option maxHeartbeats 4000000 in
set_option maxRecDepth 100000 in
theorem c_X8_seen_bad {l : Launch} {V : ab_V} {mu : ab_mem} {a b w : Int32} (hV : ab_OK V ShM) (hbad : ¬ (inB a 0 2 = true ∧ inB b 0 23 = true ∧ inB w 0 1 = true)) : CT l V ShM yX8_seen wsX8_seen rm_X8_seen [.ref (aL V 0), .int a, .int b, .int w] mu (pI (fun r mu2 => r = -2 ∧ mu = mu2)) := by
  refine ab_enter hV (by decide) rfl (Nat.le_of_ble_eq_true rfl) ?_
  intro X B E
  have B : CX X l rm_X8_seen RX8 cX8_seen wsX8_seen 4 V ShM := B
  show AW X V ShM 4 0 [some (.ref (aL V 0)), some (.int a), some (.int b), some (.int w)] [] mu
  refine a_iload_n B dX8_seen_0 rfl ?_
  refine a_callSi B k_X8_seen_75 (c_X8_isGeneral hV) rfl rfl (Nat.le_of_ble_eq_true rfl) dX8_seen_1 (fun r1 mu1 h1 => ?_)
  obtain ⟨rfl, rfl⟩ := h1
  refine a_if_eq (tgt := 23) B dX8_seen_4 (by decide) (fun c4 => ?_) (fun c4 => ?_)
  · refine a_bipush (v := -2) B dX8_seen_23 (by decide) ?_
    refine a_ireturn B E dX8_seen_25 ?_
    exact ⟨rfl, rfl⟩
  · refine a_iload_n B dX8_seen_7 rfl ?_
    refine a_callSi B k_X8_seen_122 (c_X8_isHour hV) rfl rfl (Nat.le_of_ble_eq_true rfl) dX8_seen_8 (fun r8 mu8 h8 => ?_)
    obtain ⟨rfl, rfl⟩ := h8
    refine a_if_eq (tgt := 23) B dX8_seen_11 (by decide) (fun c11 => ?_) (fun c11 => ?_)
    · refine a_bipush (v := -2) B dX8_seen_23 (by decide) ?_
      refine a_ireturn B E dX8_seen_25 ?_
      exact ⟨rfl, rfl⟩
    · refine a_iload_n B dX8_seen_14 rfl ?_
      refine a_iconst (v := 0) B dX8_seen_15 (by decide) ?_
      refine a_iconst (v := 1) B dX8_seen_16 (by decide) ?_
      refine a_callSi B k_X8_seen_71 (c_X8_in hV) rfl rfl (Nat.le_of_ble_eq_true rfl) dX8_seen_17 (fun r17 mu17 h17 => ?_)
      obtain ⟨rfl, rfl⟩ := h17
      refine a_if_ne (tgt := 26) B dX8_seen_20 (by decide) (fun c20 => ?_) (fun c20 => ?_)
      · exfalso
        simp_all [bI_0, bI_n0]
      · refine a_bipush (v := -2) B dX8_seen_23 (by decide) ?_
        refine a_ireturn B E dX8_seen_25 ?_
        exact ⟨rfl, rfl⟩
abbrev rm_X8_forget : Room := { frames := 0, cells := 0, slots := 0, locals := 0 }
set_option maxRecDepth 20000 in
theorem us_X8_forget_8 : ∀ w ∈ u_ws RX8 TX8 23, w ∈ wsX8_forget := by decide +kernel
set_option maxRecDepth 20000 in
theorem fl_X8_forget_189 : FL RX8 wsX8_forget 189 8 13 := ⟨RX8, TX8, 23, rfl, by decide, us_X8_forget_8, by decide +kernel⟩
set_option maxRecDepth 20000 in
theorem fp_X8_forget_189 : FP RX8 wsX8_forget 189 8 13 .int := ⟨RX8, TX8, 23, tyX8, rfl, by decide, us_X8_forget_8, by decide +kernel, tyX8_ok, nmX8, rfl, rfl⟩

set_option maxHeartbeats 4000000 in
set_option maxRecDepth 100000 in
theorem c_X8_forget {l : Launch} {V : ab_V} {mu : ab_mem}  (hV : ab_OK V ShM)  : CT l V ShM yX8_forget wsX8_forget rm_X8_forget [.ref (aL V 0)] mu (pI (fun r mu2 => r = mu 0 13 ∧ mu2 = ab_up mu 0 13 0)) := by
  refine ab_enter hV (by decide) rfl (Nat.le_of_ble_eq_true rfl) ?_
  intro X B E
  have B : CX X l rm_X8_forget RX8 cX8_forget wsX8_forget 2 V ShM := B
  show AW X V ShM 2 0 [some (.ref (aL V 0)), none] [] mu
  refine a_aload_n B dX8_forget_0 rfl ?_
  refine a_geti B fl_X8_forget_189 (by first | rfl | assumption) rfl dX8_forget_1 ?_
  refine a_istore_n B dX8_forget_4 (by decide) ?_
  refine a_aload_n B dX8_forget_5 rfl ?_
  refine a_iconst (v := 0) B dX8_forget_6 (by decide) ?_
  refine a_put B fp_X8_forget_189 (by first | rfl | assumption) rfl rfl rfl dX8_forget_7 ?_
  refine a_iload_n B dX8_forget_10 rfl ?_
  refine a_ireturn B E dX8_forget_11 ?_
  exact ⟨rfl, rfl⟩
/-- whether the first k sightings of g agree with the hours x -/
def agF (who hr is : Nat → Int32) (g : Int32) (x : Int32) : Nat → Bool
  | 0 => true
  | k + 1 => agF who hr is g x k && (!decide (who k = g) || decide ((x >>> (hr k &&& 31)) &&& 1 = is k))
def frF (ag : Nat → Bool) : Nat → Int32
  | 0 => 0
  | j + 1 => frF ag j ||| (if ag j then 1 <<< (nI j &&& 31) else 0)
def kM (mu : ab_mem) : Nat := (mu 0 13).toNatClampNeg
theorem kM_ok {mu : ab_mem} (i : IM mu) : kM mu ≤ 8 ∧ mu 0 13 = nI (kM mu) := by
  obtain ⟨k, hk, e⟩ := i.2.2.1
  unfold kM
  rw [e, nI_clamp (by omega)]
  exact ⟨hk, rfl⟩
def agM (mu : ab_mem) (g : Nat) (j : Nat) : Bool := agF (mu 11) (mu 12) (mu 13) (nI g) (bM mu g 0 j 24) (kM mu)

abbrev rm_X8_frightOf : Room := { frames := 4, cells := 0, slots := 0, locals := 91 }
set_option maxRecDepth 20000 in
theorem us_X8_frightOf_8 : ∀ w ∈ u_ws RX8 TX8 23, w ∈ wsX8_frightOf := by decide +kernel
set_option maxRecDepth 20000 in
theorem fl_X8_frightOf_31 : FL RX8 wsX8_frightOf 31 8 10 := ⟨RX8, TX8, 23, rfl, by decide, us_X8_frightOf_8, by decide +kernel⟩
set_option maxRecDepth 20000 in
theorem fl_X8_frightOf_41 : FL RX8 wsX8_frightOf 41 8 14 := ⟨RX8, TX8, 23, rfl, by decide, us_X8_frightOf_8, by decide +kernel⟩
set_option maxRecDepth 20000 in
theorem fl_X8_frightOf_44 : FL RX8 wsX8_frightOf 44 8 15 := ⟨RX8, TX8, 23, rfl, by decide, us_X8_frightOf_8, by decide +kernel⟩
set_option maxRecDepth 20000 in
theorem fl_X8_frightOf_47 : FL RX8 wsX8_frightOf 47 8 16 := ⟨RX8, TX8, 23, rfl, by decide, us_X8_frightOf_8, by decide +kernel⟩
set_option maxRecDepth 20000 in
theorem fl_X8_frightOf_189 : FL RX8 wsX8_frightOf 189 8 13 := ⟨RX8, TX8, 23, rfl, by decide, us_X8_frightOf_8, by decide +kernel⟩
theorem k_X8_frightOf_115 : KV RX8 wsX8_frightOf rm_X8_frightOf 115 RX8 yX8_lays wsX8_lays rm_X8_lays 3 := ⟨_, _, _, _, gX8_frightOf_X8_lays, rfl, rfl, rfl, by decide +kernel, by decide⟩

set_option maxHeartbeats 4000000 in
set_option maxRecDepth 100000 in
theorem c_X8_frightOf {l : Launch} {V : ab_V} {mu : ab_mem} {g : Nat} (hV : ab_OK V ShM) (hi : IM mu) (hg : g < 3) : CT l V ShM yX8_frightOf wsX8_frightOf rm_X8_frightOf [.ref (aL V 0), .int (nI g)] mu (pI (fun r mu2 => r = frF (agM mu g) 24 ∧ pM mu2 = pM mu)) := by
  refine ab_enter hV (by decide) rfl (Nat.le_of_ble_eq_true rfl) ?_
  intro X B E
  have B : CX X l rm_X8_frightOf RX8 cX8_frightOf wsX8_frightOf 6 V ShM := B
  show AW X V ShM 6 0 [some (.ref (aL V 0)), some (.int (nI g)), none, none, none, none] [] mu
  have hK := kM_ok hi
  have loop : ∀ (m j : Nat), j + m = 24 → ∀ (mu1 : ab_mem), pM mu1 = pM mu → AW X V ShM 6 4 [some (.ref (aL V 0)), some (.int (nI g)), some (.int (frF (agM mu g) j)), some (.int (nI j)), none, none] [] mu1 := by
    intro m
    induction m with
    | zero =>
      intro j hj mu1 hp
      have e : j = 24 := by omega
      subst e
      refine a_iload_n B dX8_frightOf_4 rfl ?_
      refine a_bipush (v := 24) B dX8_frightOf_5 (by decide) ?_
      refine a_icmp_ge_t (tgt := 108) B dX8_frightOf_7 (by decide) (by decide) ?_
      refine a_iload_n B dX8_frightOf_108 rfl ?_
      refine a_ireturn B E dX8_frightOf_109 ?_
      exact ⟨rfl, hp⟩
    | succ m ih =>
      intro j hj mu1 hp
      have inn : ∀ mu2, LY mu1 g 0 j 24 mu2 → ∀ (m2 k : Nat), k + m2 = kM mu → AW X V ShM 6 23 [some (.ref (aL V 0)), some (.int (nI g)), some (.int (frF (agM mu g) j)), some (.int (nI j)), some (.int (bI (agF (mu 11) (mu 12) (mu 13) (nI g) (bM mu g 0 j 24) k))), some (.int (nI k))] [] mu2 := by
        intro mu2 h14
        have hp2 : pM mu2 = pM mu := h14.1.trans hp
        have t100 : ∀ x v : Int32, x = (if agM mu g j then 1 <<< (nI j &&& 31) else 0) → AW X V ShM 6 100 [some (.ref (aL V 0)), some (.int (nI g)), some (.int (frF (agM mu g) j)), some (.int (nI j)), some (.int v), none] [.int x, .int (frF (agM mu g) j)] mu2 := by
          intro x v hx
          refine a_ior B dX8_frightOf_100 ?_
          refine a_istore_n B dX8_frightOf_101 (by decide) ?_
          refine a_iinc (v := 1) B dX8_frightOf_102 rfl (by decide) (by decide) ?_
          refine a_goto (tgt := 4) B dX8_frightOf_105 (by decide) ?_
          refine a_fg 4 ?_
          refine a_fg 5 ?_
          rw [nI_1]
          have e := ih (j + 1) (by omega) mu2 hp2
          rw [frF, ← hx] at e
          exact e
        intro m2
        induction m2 with
        | zero =>
          intro k hk
          refine a_iload B dX8_frightOf_23 rfl ?_
          refine a_aload_n B dX8_frightOf_25 rfl ?_
          refine a_geti B fl_X8_frightOf_189 (by first | rfl | assumption) rfl dX8_frightOf_26 ?_
          refine a_icmp_ge_t (tgt := 87) B dX8_frightOf_29 (by decide) (by rw [pM_at hp2 0 rfl, hK.2]; exact nI_le (by omega) (by omega)) ?_
          refine a_iload_n B dX8_frightOf_87 rfl ?_
          refine a_iload B dX8_frightOf_88 rfl ?_
          refine a_if_eq (tgt := 99) B dX8_frightOf_90 (by decide) (fun c90 => ?_) (fun c90 => ?_)
          · refine a_iconst (v := 0) B dX8_frightOf_99 (by decide) ?_
            refine a_fg 5 ?_
            first
              | exact t100 _ _ (by rw [agM, show kM mu = k by omega, if_pos (bI_n0.mp c90)])
              | exact t100 _ _ (by rw [agM, show kM mu = k by omega, if_neg (by rw [bI_0.mp c90]; decide)])
          · refine a_iconst (v := 1) B dX8_frightOf_93 (by decide) ?_
            refine a_iload_n B dX8_frightOf_94 rfl ?_
            refine a_ishl B dX8_frightOf_95 ?_
            refine a_goto (tgt := 100) B dX8_frightOf_96 (by decide) ?_
            refine a_fg 5 ?_
            first
              | exact t100 _ _ (by rw [agM, show kM mu = k by omega, if_pos (bI_n0.mp c90)])
              | exact t100 _ _ (by rw [agM, show kM mu = k by omega, if_neg (by rw [bI_0.mp c90]; decide)])
        | succ m2 ih2 =>
          intro k hk
          have t79 : ∀ b : Bool, b = ((agF (mu 11) (mu 12) (mu 13) (nI g) (bM mu g 0 j 24) k) && (!decide (mu 11 k = nI g) || decide ((bM mu g 0 j 24 >>> (mu 12 k &&& 31)) &&& 1 = mu 13 k))) → AW X V ShM 6 79 [some (.ref (aL V 0)), some (.int (nI g)), some (.int (frF (agM mu g) j)), some (.int (nI j)), some (.int (bI (agF (mu 11) (mu 12) (mu 13) (nI g) (bM mu g 0 j 24) k))), some (.int (nI k))] [.int (bI b)] mu2 := by
            intro b hb
            refine a_istore B dX8_frightOf_79 (by decide) ?_
            refine a_iinc (v := 1) B dX8_frightOf_81 rfl (by decide) (by decide) ?_
            refine a_goto (tgt := 23) B dX8_frightOf_84 (by decide) ?_
            rw [nI_1]
            have e := ih2 (k + 1) (by omega)
            rw [agF, ← hb] at e
            exact e
          refine a_iload B dX8_frightOf_23 rfl ?_
          refine a_aload_n B dX8_frightOf_25 rfl ?_
          refine a_geti B fl_X8_frightOf_189 (by first | rfl | assumption) rfl dX8_frightOf_26 ?_
          refine a_icmp_ge_f (tgt := 87) B dX8_frightOf_29 (by decide) (by rw [pM_at hp2 0 rfl, hK.2]; exact nI_ge (by omega) (by omega)) ?_
          refine a_iload B dX8_frightOf_32 rfl ?_
          refine a_if_eq (tgt := 78) B dX8_frightOf_34 (by decide) (fun c34 => ?_) (fun c34 => ?_)
          · refine a_iconst (v := 0) B dX8_frightOf_78 (by decide) ?_
            first
              | exact t79 false (by rw [bI_0.mp c34, Bool.false_and])
              | (rw [pM_at hp2 11 rfl] at c45
                 first
                   | exact t79 true (by rw [bI_n0.mp c34, decide_eq_false c45]; rfl)
                   | (rw [h14.2.2.2.1, bM_p hp, pM_at hp2 12 rfl, pM_at hp2 13 rfl] at c71
                      first
                        | exact t79 false (by rw [bI_n0.mp c34, decide_eq_true c45, decide_eq_false c71]; rfl)
                        | exact t79 true (by rw [bI_n0.mp c34, decide_eq_true c45, decide_eq_true c71]; rfl)))
          · refine a_aload_n B dX8_frightOf_37 rfl ?_
            refine a_getr B fl_X8_frightOf_41 (by first | rfl | assumption) rfl dX8_frightOf_38 ?_
            refine a_iload B dX8_frightOf_41 rfl ?_
            refine a_ialdN B (k) (by first | rfl | assumption) rfl (by omega) (by decide) dX8_frightOf_43 ?_
            refine a_iload_n B dX8_frightOf_44 rfl ?_
            refine a_icmp_ne (tgt := 74) B dX8_frightOf_45 (by decide) (fun c45 => ?_) (fun c45 => ?_)
            · refine a_iconst (v := 1) B dX8_frightOf_74 (by decide) ?_
              refine a_goto (tgt := 79) B dX8_frightOf_75 (by decide) ?_
              first
                | exact t79 false (by rw [bI_0.mp c34, Bool.false_and])
                | (rw [pM_at hp2 11 rfl] at c45
                   first
                     | exact t79 true (by rw [bI_n0.mp c34, decide_eq_false c45]; rfl)
                     | (rw [h14.2.2.2.1, bM_p hp, pM_at hp2 12 rfl, pM_at hp2 13 rfl] at c71
                        first
                          | exact t79 false (by rw [bI_n0.mp c34, decide_eq_true c45, decide_eq_false c71]; rfl)
                          | exact t79 true (by rw [bI_n0.mp c34, decide_eq_true c45, decide_eq_true c71]; rfl)))
            · refine a_aload_n B dX8_frightOf_48 rfl ?_
              refine a_getr B fl_X8_frightOf_31 (by first | rfl | assumption) rfl dX8_frightOf_49 ?_
              refine a_iload_n B dX8_frightOf_52 rfl ?_
              refine a_ialdN B (g) (by first | rfl | assumption) rfl (by omega) (by decide) dX8_frightOf_53 ?_
              refine a_aload_n B dX8_frightOf_54 rfl ?_
              refine a_getr B fl_X8_frightOf_44 (by first | rfl | assumption) rfl dX8_frightOf_55 ?_
              refine a_iload B dX8_frightOf_58 rfl ?_
              refine a_ialdN B (k) (by first | rfl | assumption) rfl (by omega) (by decide) dX8_frightOf_60 ?_
              refine a_ishr B dX8_frightOf_61 ?_
              refine a_iconst (v := 1) B dX8_frightOf_62 (by decide) ?_
              refine a_iand B dX8_frightOf_63 ?_
              refine a_aload_n B dX8_frightOf_64 rfl ?_
              refine a_getr B fl_X8_frightOf_47 (by first | rfl | assumption) rfl dX8_frightOf_65 ?_
              refine a_iload B dX8_frightOf_68 rfl ?_
              refine a_ialdN B (k) (by first | rfl | assumption) rfl (by omega) (by decide) dX8_frightOf_70 ?_
              refine a_icmp_ne (tgt := 78) B dX8_frightOf_71 (by decide) (fun c71 => ?_) (fun c71 => ?_)
              · refine a_iconst (v := 0) B dX8_frightOf_78 (by decide) ?_
                first
                  | exact t79 false (by rw [bI_0.mp c34, Bool.false_and])
                  | (rw [pM_at hp2 11 rfl] at c45
                     first
                       | exact t79 true (by rw [bI_n0.mp c34, decide_eq_false c45]; rfl)
                       | (rw [h14.2.2.2.1, bM_p hp, pM_at hp2 12 rfl, pM_at hp2 13 rfl] at c71
                          first
                            | exact t79 false (by rw [bI_n0.mp c34, decide_eq_true c45, decide_eq_false c71]; rfl)
                            | exact t79 true (by rw [bI_n0.mp c34, decide_eq_true c45, decide_eq_true c71]; rfl)))
              · refine a_iconst (v := 1) B dX8_frightOf_74 (by decide) ?_
                refine a_goto (tgt := 79) B dX8_frightOf_75 (by decide) ?_
                first
                  | exact t79 false (by rw [bI_0.mp c34, Bool.false_and])
                  | (rw [pM_at hp2 11 rfl] at c45
                     first
                       | exact t79 true (by rw [bI_n0.mp c34, decide_eq_false c45]; rfl)
                       | (rw [h14.2.2.2.1, bM_p hp, pM_at hp2 12 rfl, pM_at hp2 13 rfl] at c71
                          first
                            | exact t79 false (by rw [bI_n0.mp c34, decide_eq_true c45, decide_eq_false c71]; rfl)
                            | exact t79 true (by rw [bI_n0.mp c34, decide_eq_true c45, decide_eq_true c71]; rfl)))
      refine a_iload_n B dX8_frightOf_4 rfl ?_
      refine a_bipush (v := 24) B dX8_frightOf_5 (by decide) ?_
      refine a_icmp_ge_f (tgt := 108) B dX8_frightOf_7 (by decide) (nI_ge (a := j) (b := 24) (by omega) (by decide)) ?_
      refine a_aload_n B dX8_frightOf_10 rfl ?_
      refine a_iload_n B dX8_frightOf_11 rfl ?_
      refine a_iconst (v := 0) B dX8_frightOf_12 (by decide) ?_
      refine a_iload_n B dX8_frightOf_13 rfl ?_
      refine a_callVv B k_X8_frightOf_115 (c_X8_lays (o := 0) (fr := j) hV (IM_p hp hi) hg (by decide) (fun h hh => nI_eq (by omega) (by omega))) (by first | rfl | assumption) rfl rfl rfl (Nat.le_of_ble_eq_true rfl) dX8_frightOf_14 (fun mu14 h14 => ?_)
      refine a_iconst (v := 1) B dX8_frightOf_17 (by decide) ?_
      refine a_istore B dX8_frightOf_18 (by decide) ?_
      refine a_iconst (v := 0) B dX8_frightOf_20 (by decide) ?_
      refine a_istore B dX8_frightOf_21 (by decide) ?_
      exact inn mu14 h14 (kM mu) 0 (by omega)
  refine a_iconst (v := 0) B dX8_frightOf_0 (by decide) ?_
  refine a_istore_n B dX8_frightOf_1 (by decide) ?_
  refine a_iconst (v := 0) B dX8_frightOf_2 (by decide) ?_
  refine a_istore_n B dX8_frightOf_3 (by decide) ?_
  exact loop 24 0 rfl mu rfl
abbrev rm_X8_fright : Room := { frames := 5, cells := 0, slots := 0, locals := 116 }
theorem k_X8_fright_75 : KS RX8 wsX8_fright rm_X8_fright 75 yX8_isGeneral wsX8_isGeneral rm_X8_isGeneral 1 := ⟨_, _, _, _, gX8_fright_X8_isGeneral, rfl, rfl, rfl, by decide +kernel, by decide⟩
theorem k_X8_fright_192 : KV RX8 wsX8_fright rm_X8_fright 192 RX8 yX8_frightOf wsX8_frightOf rm_X8_frightOf 1 := ⟨_, _, _, _, gX8_fright_X8_frightOf, rfl, rfl, rfl, by decide +kernel, by decide⟩

set_option maxHeartbeats 4000000 in
set_option maxRecDepth 100000 in
theorem c_X8_fright {l : Launch} {V : ab_V} {mu : ab_mem} {g : Nat} (hV : ab_OK V ShM) (hi : IM mu) (hg : g < 3) : CT l V ShM yX8_fright wsX8_fright rm_X8_fright [.ref (aL V 0), .int (nI g)] mu (pI (fun r mu2 => r = frF (agM mu g) 24 ∧ pM mu2 = pM mu)) := by
  refine ab_enter hV (by decide) rfl (Nat.le_of_ble_eq_true rfl) ?_
  intro X B E
  have B : CX X l rm_X8_fright RX8 cX8_fright wsX8_fright 2 V ShM := B
  show AW X V ShM 2 0 [some (.ref (aL V 0)), some (.int (nI g))] [] mu
  refine a_iload_n B dX8_fright_0 rfl ?_
  refine a_callSi B k_X8_fright_75 (c_X8_isGeneral hV) rfl rfl (Nat.le_of_ble_eq_true rfl) dX8_fright_1 (fun r1 mu1 h1 => ?_)
  obtain ⟨rfl, rfl⟩ := h1
  refine a_if_eq_f (tgt := 15) B dX8_fright_4 (by decide) (bI_n0.mpr (inB_nI (n := 2) (by omega) (by decide))) ?_
  refine a_aload_n B dX8_fright_7 rfl ?_
  refine a_iload_n B dX8_fright_8 rfl ?_
  refine a_callVi B k_X8_fright_192 (c_X8_frightOf hV hi hg) (by first | rfl | assumption) rfl rfl rfl (Nat.le_of_ble_eq_true rfl) dX8_fright_9 (fun r9 mu9 h9 => ?_)
  refine a_goto (tgt := 17) B dX8_fright_12 (by decide) ?_
  refine a_ireturn B E dX8_fright_17 ?_
  exact h9
set_option maxHeartbeats 4000000 in
set_option maxRecDepth 100000 in
theorem c_X8_fright_bad {l : Launch} {V : ab_V} {mu : ab_mem} {a : Int32} (hV : ab_OK V ShM) (hbad : ¬ inB a 0 2 = true) : CT l V ShM yX8_fright wsX8_fright rm_X8_fright [.ref (aL V 0), .int a] mu (pI (fun r mu2 => r = -2 ∧ mu = mu2)) := by
  refine ab_enter hV (by decide) rfl (Nat.le_of_ble_eq_true rfl) ?_
  intro X B E
  have B : CX X l rm_X8_fright RX8 cX8_fright wsX8_fright 2 V ShM := B
  show AW X V ShM 2 0 [some (.ref (aL V 0)), some (.int a)] [] mu
  refine a_iload_n B dX8_fright_0 rfl ?_
  refine a_callSi B k_X8_fright_75 (c_X8_isGeneral hV) rfl rfl (Nat.le_of_ble_eq_true rfl) dX8_fright_1 (fun r1 mu1 h1 => ?_)
  obtain ⟨rfl, rfl⟩ := h1
  refine a_if_eq (tgt := 15) B dX8_fright_4 (by decide) (fun c4 => ?_) (fun c4 => ?_)
  · refine a_bipush (v := -2) B dX8_fright_15 (by decide) ?_
    refine a_ireturn B E dX8_fright_17 ?_
    exact ⟨rfl, rfl⟩
  · exfalso
    simp_all [bI_0, bI_n0]
/-- of the first k sightings, those that disagree -/
def ulF (who hr is : Nat → Int32) (b : Nat → Int32) : Nat → Int32
  | 0 => 0
  | k + 1 => ulF who hr is b k + (if (b (who k).toNatClampNeg >>> (hr k &&& 31)) &&& 1 = is k then 0 else 1)
abbrev rm_X8_unlikeNow : Room := { frames := 5, cells := 0, slots := 0, locals := 112 }
set_option maxRecDepth 20000 in
theorem us_X8_unlikeNow_8 : ∀ w ∈ u_ws RX8 TX8 23, w ∈ wsX8_unlikeNow := by decide +kernel
set_option maxRecDepth 20000 in
theorem fl_X8_unlikeNow_31 : FL RX8 wsX8_unlikeNow 31 8 10 := ⟨RX8, TX8, 23, rfl, by decide, us_X8_unlikeNow_8, by decide +kernel⟩
set_option maxRecDepth 20000 in
theorem fl_X8_unlikeNow_41 : FL RX8 wsX8_unlikeNow 41 8 14 := ⟨RX8, TX8, 23, rfl, by decide, us_X8_unlikeNow_8, by decide +kernel⟩
set_option maxRecDepth 20000 in
theorem fl_X8_unlikeNow_44 : FL RX8 wsX8_unlikeNow 44 8 15 := ⟨RX8, TX8, 23, rfl, by decide, us_X8_unlikeNow_8, by decide +kernel⟩
set_option maxRecDepth 20000 in
theorem fl_X8_unlikeNow_47 : FL RX8 wsX8_unlikeNow 47 8 16 := ⟨RX8, TX8, 23, rfl, by decide, us_X8_unlikeNow_8, by decide +kernel⟩
set_option maxRecDepth 20000 in
theorem fl_X8_unlikeNow_189 : FL RX8 wsX8_unlikeNow 189 8 13 := ⟨RX8, TX8, 23, rfl, by decide, us_X8_unlikeNow_8, by decide +kernel⟩
theorem k_X8_unlikeNow_119 : KV RX8 wsX8_unlikeNow rm_X8_unlikeNow 119 RX8 yX8_laysAll wsX8_laysAll rm_X8_laysAll 0 := ⟨_, _, _, _, gX8_unlikeNow_X8_laysAll, rfl, rfl, rfl, by decide +kernel, by decide⟩

set_option maxHeartbeats 4000000 in
set_option maxRecDepth 100000 in
theorem c_X8_unlikeNow {l : Launch} {V : ab_V} {mu : ab_mem}  (hV : ab_OK V ShM) (hi : IM mu)  : CT l V ShM yX8_unlikeNow wsX8_unlikeNow rm_X8_unlikeNow [.ref (aL V 0)] mu (pI (fun r mu2 => r = ulF (mu 11) (mu 12) (mu 13) (fun g => bM mu g 0 99 24) (kM mu) ∧ pM mu2 = pM mu)) := by
  refine ab_enter hV (by decide) rfl (Nat.le_of_ble_eq_true rfl) ?_
  intro X B E
  have B : CX X l rm_X8_unlikeNow RX8 cX8_unlikeNow wsX8_unlikeNow 3 V ShM := B
  show AW X V ShM 3 0 [some (.ref (aL V 0)), none, none] [] mu
  have hK := kM_ok hi
  have loop : ∀ mu1, LA mu mu1 → ∀ (m k : Nat), k + m = kM mu → AW X V ShM 3 8 [some (.ref (aL V 0)), some (.int (ulF (mu 11) (mu 12) (mu 13) (fun g => bM mu g 0 99 24) k)), some (.int (nI k))] [] mu1 := by
    intro mu1 h1 m
    induction m with
    | zero =>
      intro k hk
      refine a_iload_n B dX8_unlikeNow_8 rfl ?_
      refine a_aload_n B dX8_unlikeNow_9 rfl ?_
      refine a_geti B fl_X8_unlikeNow_189 (by first | rfl | assumption) rfl dX8_unlikeNow_10 ?_
      refine a_icmp_ge_t (tgt := 59) B dX8_unlikeNow_13 (by decide) (by rw [pM_at h1.1 0 rfl, hK.2]; exact nI_le (by omega) (by omega)) ?_
      refine a_iload_n B dX8_unlikeNow_59 rfl ?_
      refine a_ireturn B E dX8_unlikeNow_60 ?_
      have e : k = kM mu := by omega
      subst e
      exact ⟨rfl, h1.1⟩
    | succ m ih =>
      intro k hk
      have t51 : ∀ x : Int32, x = (if (bM mu (mu 11 k).toNatClampNeg 0 99 24 >>> (mu 12 k &&& 31)) &&& 1 = mu 13 k then 0 else 1) → AW X V ShM 3 51 [some (.ref (aL V 0)), some (.int (ulF (mu 11) (mu 12) (mu 13) (fun g => bM mu g 0 99 24) k)), some (.int (nI k))] [.int x, .int (ulF (mu 11) (mu 12) (mu 13) (fun g => bM mu g 0 99 24) k)] mu1 := by
        intro x hx
        refine a_iadd B dX8_unlikeNow_51 ?_
        refine a_istore_n B dX8_unlikeNow_52 (by decide) ?_
        refine a_iinc (v := 1) B dX8_unlikeNow_53 rfl (by decide) (by decide) ?_
        refine a_goto (tgt := 8) B dX8_unlikeNow_56 (by decide) ?_
        rw [nI_1]
        have e := ih (k + 1) (by omega)
        rw [ulF, ← hx] at e
        exact e
      refine a_iload_n B dX8_unlikeNow_8 rfl ?_
      refine a_aload_n B dX8_unlikeNow_9 rfl ?_
      refine a_geti B fl_X8_unlikeNow_189 (by first | rfl | assumption) rfl dX8_unlikeNow_10 ?_
      refine a_icmp_ge_f (tgt := 59) B dX8_unlikeNow_13 (by decide) (by rw [pM_at h1.1 0 rfl, hK.2]; exact nI_ge (by omega) (by omega)) ?_
      refine a_iload_n B dX8_unlikeNow_16 rfl ?_
      refine a_aload_n B dX8_unlikeNow_17 rfl ?_
      refine a_getr B fl_X8_unlikeNow_31 (by first | rfl | assumption) rfl dX8_unlikeNow_18 ?_
      refine a_aload_n B dX8_unlikeNow_21 rfl ?_
      refine a_getr B fl_X8_unlikeNow_41 (by first | rfl | assumption) rfl dX8_unlikeNow_22 ?_
      refine a_iload_n B dX8_unlikeNow_25 rfl ?_
      refine a_ialdN B (k) (by first | rfl | assumption) rfl (by omega) (by decide) dX8_unlikeNow_26 ?_
      obtain ⟨g, hg, eg⟩ := hi.2.2.2.1 k (by omega)
      rw [pM_at h1.1 11 rfl, eg]
      refine a_ialdN B (g) (by first | rfl | assumption) rfl (by omega) (by decide) dX8_unlikeNow_27 ?_
      refine a_aload_n B dX8_unlikeNow_28 rfl ?_
      refine a_getr B fl_X8_unlikeNow_44 (by first | rfl | assumption) rfl dX8_unlikeNow_29 ?_
      refine a_iload_n B dX8_unlikeNow_32 rfl ?_
      refine a_ialdN B (k) (by first | rfl | assumption) rfl (by omega) (by decide) dX8_unlikeNow_33 ?_
      refine a_ishr B dX8_unlikeNow_34 ?_
      refine a_iconst (v := 1) B dX8_unlikeNow_35 (by decide) ?_
      refine a_iand B dX8_unlikeNow_36 ?_
      refine a_aload_n B dX8_unlikeNow_37 rfl ?_
      refine a_getr B fl_X8_unlikeNow_47 (by first | rfl | assumption) rfl dX8_unlikeNow_38 ?_
      refine a_iload_n B dX8_unlikeNow_41 rfl ?_
      refine a_ialdN B (k) (by first | rfl | assumption) rfl (by omega) (by decide) dX8_unlikeNow_42 ?_
      refine a_icmp_eq (tgt := 50) B dX8_unlikeNow_43 (by decide) (fun c43 => ?_) (fun c43 => ?_)
      · refine a_iconst (v := 0) B dX8_unlikeNow_50 (by decide) ?_
        rw [(h1.2 g hg).2.2, pM_at h1.1 12 rfl, pM_at h1.1 13 rfl] at c43
        first
          | exact t51 _ (by rw [eg, nI_clamp (by omega), if_pos c43])
          | exact t51 _ (by rw [eg, nI_clamp (by omega), if_neg c43])
      · refine a_iconst (v := 1) B dX8_unlikeNow_46 (by decide) ?_
        refine a_goto (tgt := 51) B dX8_unlikeNow_47 (by decide) ?_
        rw [(h1.2 g hg).2.2, pM_at h1.1 12 rfl, pM_at h1.1 13 rfl] at c43
        first
          | exact t51 _ (by rw [eg, nI_clamp (by omega), if_pos c43])
          | exact t51 _ (by rw [eg, nI_clamp (by omega), if_neg c43])
  refine a_aload_n B dX8_unlikeNow_0 rfl ?_
  refine a_callVv B k_X8_unlikeNow_119 (c_X8_laysAll hV hi) (by first | rfl | assumption) rfl rfl rfl (Nat.le_of_ble_eq_true rfl) dX8_unlikeNow_1 (fun mu1 h1 => ?_)
  refine a_iconst (v := 0) B dX8_unlikeNow_4 (by decide) ?_
  refine a_istore_n B dX8_unlikeNow_5 (by decide) ?_
  refine a_iconst (v := 0) B dX8_unlikeNow_6 (by decide) ?_
  refine a_istore_n B dX8_unlikeNow_7 (by decide) ?_
  exact loop mu1 h1 (kM mu) 0 (by omega)
abbrev rm_X8_unlike : Room := { frames := 6, cells := 0, slots := 0, locals := 134 }
theorem k_X8_unlike_195 : KV RX8 wsX8_unlike rm_X8_unlike 195 RX8 yX8_unlikeNow wsX8_unlikeNow rm_X8_unlikeNow 0 := ⟨_, _, _, _, gX8_unlike_X8_unlikeNow, rfl, rfl, rfl, by decide +kernel, by decide⟩

set_option maxHeartbeats 4000000 in
set_option maxRecDepth 100000 in
theorem c_X8_unlike {l : Launch} {V : ab_V} {mu : ab_mem}  (hV : ab_OK V ShM) (hi : IM mu)  : CT l V ShM yX8_unlike wsX8_unlike rm_X8_unlike [.ref (aL V 0)] mu (pI (fun r mu2 => r = ulF (mu 11) (mu 12) (mu 13) (fun g => bM mu g 0 99 24) (kM mu) ∧ pM mu2 = pM mu)) := by
  refine ab_enter hV (by decide) rfl (Nat.le_of_ble_eq_true rfl) ?_
  intro X B E
  have B : CX X l rm_X8_unlike RX8 cX8_unlike wsX8_unlike 1 V ShM := B
  show AW X V ShM 1 0 [some (.ref (aL V 0))] [] mu
  refine a_aload_n B dX8_unlike_0 rfl ?_
  refine a_callVi B k_X8_unlike_195 (c_X8_unlikeNow hV hi) (by first | rfl | assumption) rfl rfl rfl (Nat.le_of_ble_eq_true rfl) dX8_unlike_1 (fun r1 mu1 h1 => ?_)
  refine a_ireturn B E dX8_unlike_4 ?_
  exact h1
abbrev rm_X8_parrotOf : Room := { frames := 5, cells := 0, slots := 0, locals := 112 }
set_option maxRecDepth 20000 in
theorem us_X8_parrotOf_8 : ∀ w ∈ u_ws RX8 TX8 23, w ∈ wsX8_parrotOf := by decide +kernel
set_option maxRecDepth 20000 in
theorem fl_X8_parrotOf_31 : FL RX8 wsX8_parrotOf 31 8 10 := ⟨RX8, TX8, 23, rfl, by decide, us_X8_parrotOf_8, by decide +kernel⟩
theorem k_X8_parrotOf_119 : KV RX8 wsX8_parrotOf rm_X8_parrotOf 119 RX8 yX8_laysAll wsX8_laysAll rm_X8_laysAll 0 := ⟨_, _, _, _, gX8_parrotOf_X8_laysAll, rfl, rfl, rfl, by decide +kernel, by decide⟩

set_option maxHeartbeats 4000000 in
set_option maxRecDepth 100000 in
theorem c_X8_parrotOf {l : Launch} {V : ab_V} {mu : ab_mem} {g : Nat} (hV : ab_OK V ShM) (hi : IM mu) (hg : g < 2) : CT l V ShM yX8_parrotOf wsX8_parrotOf rm_X8_parrotOf [.ref (aL V 0), .int (nI g)] mu (pI (fun r mu2 => r = (((bM mu g 0 99 24 <<< ((1 : Int32) &&& 31)) &&& bM mu (1 - g) 0 99 24) &&& (bM mu g 0 99 24 ^^^ -1)) &&& 16777215 ∧ pM mu2 = pM mu)) := by
  refine ab_enter hV (by decide) rfl (Nat.le_of_ble_eq_true rfl) ?_
  intro X B E
  have B : CX X l rm_X8_parrotOf RX8 cX8_parrotOf wsX8_parrotOf 2 V ShM := B
  show AW X V ShM 2 0 [some (.ref (aL V 0)), some (.int (nI g))] [] mu
  refine a_aload_n B dX8_parrotOf_0 rfl ?_
  refine a_callVv B k_X8_parrotOf_119 (c_X8_laysAll hV hi) (by first | rfl | assumption) rfl rfl rfl (Nat.le_of_ble_eq_true rfl) dX8_parrotOf_1 (fun mu1 h1 => ?_)
  refine a_aload_n B dX8_parrotOf_4 rfl ?_
  refine a_getr B fl_X8_parrotOf_31 (by first | rfl | assumption) rfl dX8_parrotOf_5 ?_
  refine a_iload_n B dX8_parrotOf_8 rfl ?_
  refine a_ialdN B (g) (by first | rfl | assumption) rfl (by omega) (by decide) dX8_parrotOf_9 ?_
  refine a_iconst (v := 1) B dX8_parrotOf_10 (by decide) ?_
  refine a_ishl B dX8_parrotOf_11 ?_
  refine a_aload_n B dX8_parrotOf_12 rfl ?_
  refine a_getr B fl_X8_parrotOf_31 (by first | rfl | assumption) rfl dX8_parrotOf_13 ?_
  refine a_iconst (v := 1) B dX8_parrotOf_16 (by decide) ?_
  refine a_iload_n B dX8_parrotOf_17 rfl ?_
  refine a_isub B dX8_parrotOf_18 ?_
  refine a_ialdN B (1 - g) (by first | rfl | assumption) (pk_sub (a := 1) (by omega)) (by omega) (by decide) dX8_parrotOf_19 ?_
  refine a_iand B dX8_parrotOf_20 ?_
  refine a_aload_n B dX8_parrotOf_21 rfl ?_
  refine a_getr B fl_X8_parrotOf_31 (by first | rfl | assumption) rfl dX8_parrotOf_22 ?_
  refine a_iload_n B dX8_parrotOf_25 rfl ?_
  refine a_ialdN B (g) (by first | rfl | assumption) rfl (by omega) (by decide) dX8_parrotOf_26 ?_
  refine a_iconst (v := -1) B dX8_parrotOf_27 (by decide) ?_
  refine a_ixor B dX8_parrotOf_28 ?_
  refine a_iand B dX8_parrotOf_29 ?_
  refine a_ldc (v := 16777215) B (by decide +kernel) dX8_parrotOf_30 ?_
  refine a_iand B dX8_parrotOf_32 ?_
  refine a_ireturn B E dX8_parrotOf_33 ?_
  refine ⟨?_, h1.1⟩
  rw [(h1.2 g (by omega)).2.2, (h1.2 (1 - g) (by omega)).2.2]
abbrev rm_X8_parrot : Room := { frames := 6, cells := 0, slots := 0, locals := 133 }
theorem k_X8_parrot_71 : KS RX8 wsX8_parrot rm_X8_parrot 71 yX8_in wsX8_in rm_X8_in 3 := ⟨_, _, _, _, gX8_parrot_X8_in, rfl, rfl, rfl, by decide +kernel, by decide⟩
theorem k_X8_parrot_198 : KV RX8 wsX8_parrot rm_X8_parrot 198 RX8 yX8_parrotOf wsX8_parrotOf rm_X8_parrotOf 1 := ⟨_, _, _, _, gX8_parrot_X8_parrotOf, rfl, rfl, rfl, by decide +kernel, by decide⟩

set_option maxHeartbeats 4000000 in
set_option maxRecDepth 100000 in
theorem c_X8_parrot {l : Launch} {V : ab_V} {mu : ab_mem} {g : Nat} (hV : ab_OK V ShM) (hi : IM mu) (hg : g < 2) : CT l V ShM yX8_parrot wsX8_parrot rm_X8_parrot [.ref (aL V 0), .int (nI g)] mu (pI (fun r mu2 => r = (((bM mu g 0 99 24 <<< ((1 : Int32) &&& 31)) &&& bM mu (1 - g) 0 99 24) &&& (bM mu g 0 99 24 ^^^ -1)) &&& 16777215 ∧ pM mu2 = pM mu)) := by
  refine ab_enter hV (by decide) rfl (Nat.le_of_ble_eq_true rfl) ?_
  intro X B E
  have B : CX X l rm_X8_parrot RX8 cX8_parrot wsX8_parrot 2 V ShM := B
  show AW X V ShM 2 0 [some (.ref (aL V 0)), some (.int (nI g))] [] mu
  refine a_iload_n B dX8_parrot_0 rfl ?_
  refine a_iconst (v := 0) B dX8_parrot_1 (by decide) ?_
  refine a_iconst (v := 1) B dX8_parrot_2 (by decide) ?_
  refine a_callSi B k_X8_parrot_71 (c_X8_in hV) rfl rfl (Nat.le_of_ble_eq_true rfl) dX8_parrot_3 (fun r3 mu3 h3 => ?_)
  obtain ⟨rfl, rfl⟩ := h3
  refine a_if_eq_f (tgt := 17) B dX8_parrot_6 (by decide) (bI_n0.mpr (inB_nI (n := 1) (by omega) (by decide))) ?_
  refine a_aload_n B dX8_parrot_9 rfl ?_
  refine a_iload_n B dX8_parrot_10 rfl ?_
  refine a_callVi B k_X8_parrot_198 (c_X8_parrotOf hV hi hg) (by first | rfl | assumption) rfl rfl rfl (Nat.le_of_ble_eq_true rfl) dX8_parrot_11 (fun r11 mu11 h11 => ?_)
  refine a_goto (tgt := 19) B dX8_parrot_14 (by decide) ?_
  refine a_ireturn B E dX8_parrot_19 ?_
  exact h11
set_option maxHeartbeats 4000000 in
set_option maxRecDepth 100000 in
theorem c_X8_parrot_bad {l : Launch} {V : ab_V} {mu : ab_mem} {a : Int32} (hV : ab_OK V ShM) (hbad : ¬ inB a 0 1 = true) : CT l V ShM yX8_parrot wsX8_parrot rm_X8_parrot [.ref (aL V 0), .int a] mu (pI (fun r mu2 => r = -2 ∧ mu = mu2)) := by
  refine ab_enter hV (by decide) rfl (Nat.le_of_ble_eq_true rfl) ?_
  intro X B E
  have B : CX X l rm_X8_parrot RX8 cX8_parrot wsX8_parrot 2 V ShM := B
  show AW X V ShM 2 0 [some (.ref (aL V 0)), some (.int a)] [] mu
  refine a_iload_n B dX8_parrot_0 rfl ?_
  refine a_iconst (v := 0) B dX8_parrot_1 (by decide) ?_
  refine a_iconst (v := 1) B dX8_parrot_2 (by decide) ?_
  refine a_callSi B k_X8_parrot_71 (c_X8_in hV) rfl rfl (Nat.le_of_ble_eq_true rfl) dX8_parrot_3 (fun r3 mu3 h3 => ?_)
  obtain ⟨rfl, rfl⟩ := h3
  refine a_if_eq (tgt := 17) B dX8_parrot_6 (by decide) (fun c6 => ?_) (fun c6 => ?_)
  · refine a_bipush (v := -2) B dX8_parrot_17 (by decide) ?_
    refine a_ireturn B E dX8_parrot_19 ?_
    exact ⟨rfl, rfl⟩
  · exfalso
    simp_all [bI_0, bI_n0]
def lkM (mu : ab_mem) (g k : Nat) : Int32 := 24 - onesF (bM mu g 0 99 24 ^^^ bM mu 2 k 99 24) 24
def trM (lk : Nat → Int32) : Nat → Int32 × Int32
  | 0 => (-1, -1)
  | k + 1 => if (trM lk k).2 < lk k then (nI k, lk k) else trM lk k
abbrev rm_X8_trainedOf : Room := { frames := 5, cells := 0, slots := 0, locals := 112 }
set_option maxRecDepth 20000 in
theorem us_X8_trainedOf_8 : ∀ w ∈ u_ws RX8 TX8 23, w ∈ wsX8_trainedOf := by decide +kernel
set_option maxRecDepth 20000 in
theorem fl_X8_trainedOf_31 : FL RX8 wsX8_trainedOf 31 8 10 := ⟨RX8, TX8, 23, rfl, by decide, us_X8_trainedOf_8, by decide +kernel⟩
theorem k_X8_trainedOf_115 : KV RX8 wsX8_trainedOf rm_X8_trainedOf 115 RX8 yX8_lays wsX8_lays rm_X8_lays 3 := ⟨_, _, _, _, gX8_trainedOf_X8_lays, rfl, rfl, rfl, by decide +kernel, by decide⟩
theorem k_X8_trainedOf_119 : KV RX8 wsX8_trainedOf rm_X8_trainedOf 119 RX8 yX8_laysAll wsX8_laysAll rm_X8_laysAll 0 := ⟨_, _, _, _, gX8_trainedOf_X8_laysAll, rfl, rfl, rfl, by decide +kernel, by decide⟩
theorem k_X8_trainedOf_201 : KS RX8 wsX8_trainedOf rm_X8_trainedOf 201 yX8_ones wsX8_ones rm_X8_ones 1 := ⟨_, _, _, _, gX8_trainedOf_X8_ones, rfl, rfl, rfl, by decide +kernel, by decide⟩

set_option maxHeartbeats 4000000 in
set_option maxRecDepth 100000 in
theorem c_X8_trainedOf {l : Launch} {V : ab_V} {mu : ab_mem} {g : Nat} {w : Int32} (hV : ab_OK V ShM) (hi : IM mu) (hg : g < 2) : CT l V ShM yX8_trainedOf wsX8_trainedOf rm_X8_trainedOf [.ref (aL V 0), .int (nI g), .int w] mu (pI (fun r mu2 => r = (if w = 0 then lkM mu g 0 else if w = 1 then (trM (lkM mu g) 24).2 else (trM (lkM mu g) 24).1) ∧ pM mu2 = pM mu)) := by
  refine ab_enter hV (by decide) rfl (Nat.le_of_ble_eq_true rfl) ?_
  intro X B E
  have B : CX X l rm_X8_trainedOf RX8 cX8_trainedOf wsX8_trainedOf 8 V ShM := B
  show AW X V ShM 8 0 [some (.ref (aL V 0)), some (.int (nI g)), some (.int w), none, none, none, none, none] [] mu
  have loop : ∀ (m k : Nat), k + m = 24 → ∀ mu1, pM mu1 = pM mu → AW X V ShM 8 11 [some (.ref (aL V 0)), some (.int (nI g)), some (.int w), some (.int (trM (lkM mu g) k).1), some (.int (trM (lkM mu g) k).2), some (.int (if k = 0 then 0 else lkM mu g 0)), some (.int (nI k)), none] [] mu1 := by
    intro m
    induction m with
    | zero =>
      intro k hk mu1 hp
      have e : k = 24 := by omega
      subst e
      refine a_iload B dX8_trainedOf_11 rfl ?_
      refine a_bipush (v := 24) B dX8_trainedOf_13 (by decide) ?_
      refine a_icmp_ge_t (tgt := 101) B dX8_trainedOf_15 (by decide) (by decide) ?_
      refine a_iload_n B dX8_trainedOf_101 rfl ?_
      refine a_if_ne (tgt := 110) B dX8_trainedOf_102 (by decide) (fun c102 => ?_) (fun c102 => ?_)
      · refine a_iload_n B dX8_trainedOf_110 rfl ?_
        refine a_iconst (v := 1) B dX8_trainedOf_111 (by decide) ?_
        refine a_icmp_ne (tgt := 120) B dX8_trainedOf_112 (by decide) (fun c112 => ?_) (fun c112 => ?_)
        · refine a_iload_n B dX8_trainedOf_120 rfl ?_
          refine a_ireturn B E dX8_trainedOf_121 ?_
          refine ⟨?_, hp⟩
          first | (rw [if_pos c102]; rfl) | rw [if_neg c102, if_pos c112] | rw [if_neg c102, if_neg c112]
        · refine a_iload B dX8_trainedOf_115 rfl ?_
          refine a_goto (tgt := 121) B dX8_trainedOf_117 (by decide) ?_
          refine a_ireturn B E dX8_trainedOf_121 ?_
          refine ⟨?_, hp⟩
          first | (rw [if_pos c102]; rfl) | rw [if_neg c102, if_pos c112] | rw [if_neg c102, if_neg c112]
      · refine a_iload B dX8_trainedOf_105 rfl ?_
        refine a_goto (tgt := 121) B dX8_trainedOf_107 (by decide) ?_
        refine a_ireturn B E dX8_trainedOf_121 ?_
        refine ⟨?_, hp⟩
        first | (rw [if_pos c102]; rfl) | rw [if_neg c102, if_pos c112] | rw [if_neg c102, if_neg c112]
    | succ m ih =>
      intro k hk mu1 hp
      have t65 : ∀ mu2, pM mu2 = pM mu → AW X V ShM 8 65 [some (.ref (aL V 0)), some (.int (nI g)), some (.int w), some (.int (trM (lkM mu g) k).1), some (.int (trM (lkM mu g) k).2), some (.int (lkM mu g 0)), some (.int (nI k)), some (.int (lkM mu g k))] [] mu2 := by
        intro mu2 hp2
        refine a_iload B dX8_trainedOf_65 rfl ?_
        refine a_iload B dX8_trainedOf_67 rfl ?_
        refine a_icmp_le (tgt := 77) B dX8_trainedOf_69 (by decide) (fun c69 => ?_) (fun c69 => ?_)
        · refine a_iload_n B dX8_trainedOf_77 rfl ?_
          refine a_istore_n B dX8_trainedOf_78 (by decide) ?_
          refine a_iload B dX8_trainedOf_79 rfl ?_
          refine a_iload B dX8_trainedOf_81 rfl ?_
          refine a_icmp_le (tgt := 91) B dX8_trainedOf_83 (by decide) (fun c83 => ?_) (fun c83 => ?_)
          · refine a_iload B dX8_trainedOf_91 rfl ?_
            refine a_istore B dX8_trainedOf_93 (by decide) ?_
            refine a_iinc (v := 1) B dX8_trainedOf_95 rfl (by decide) (by decide) ?_
            refine a_goto (tgt := 11) B dX8_trainedOf_98 (by decide) ?_
            refine a_fg 7 ?_
            rw [nI_1]
            have e := ih (k + 1) (by omega) mu2 hp2
            rw [trM, if_neg (by omega : ¬ k + 1 = 0)] at e
            first
              | (rw [if_pos (Int32.not_le.mp c69)] at e; exact e)
              | (rw [if_neg (Int32.not_lt.mpr c69)] at e; exact e)
              | exact absurd c69 c83
              | exact absurd c83 c69
          · refine a_iload B dX8_trainedOf_86 rfl ?_
            refine a_goto (tgt := 93) B dX8_trainedOf_88 (by decide) ?_
            refine a_istore B dX8_trainedOf_93 (by decide) ?_
            refine a_iinc (v := 1) B dX8_trainedOf_95 rfl (by decide) (by decide) ?_
            refine a_goto (tgt := 11) B dX8_trainedOf_98 (by decide) ?_
            refine a_fg 7 ?_
            rw [nI_1]
            have e := ih (k + 1) (by omega) mu2 hp2
            rw [trM, if_neg (by omega : ¬ k + 1 = 0)] at e
            first
              | (rw [if_pos (Int32.not_le.mp c69)] at e; exact e)
              | (rw [if_neg (Int32.not_lt.mpr c69)] at e; exact e)
              | exact absurd c69 c83
              | exact absurd c83 c69
        · refine a_iload B dX8_trainedOf_72 rfl ?_
          refine a_goto (tgt := 78) B dX8_trainedOf_74 (by decide) ?_
          refine a_istore_n B dX8_trainedOf_78 (by decide) ?_
          refine a_iload B dX8_trainedOf_79 rfl ?_
          refine a_iload B dX8_trainedOf_81 rfl ?_
          refine a_icmp_le (tgt := 91) B dX8_trainedOf_83 (by decide) (fun c83 => ?_) (fun c83 => ?_)
          · refine a_iload B dX8_trainedOf_91 rfl ?_
            refine a_istore B dX8_trainedOf_93 (by decide) ?_
            refine a_iinc (v := 1) B dX8_trainedOf_95 rfl (by decide) (by decide) ?_
            refine a_goto (tgt := 11) B dX8_trainedOf_98 (by decide) ?_
            refine a_fg 7 ?_
            rw [nI_1]
            have e := ih (k + 1) (by omega) mu2 hp2
            rw [trM, if_neg (by omega : ¬ k + 1 = 0)] at e
            first
              | (rw [if_pos (Int32.not_le.mp c69)] at e; exact e)
              | (rw [if_neg (Int32.not_lt.mpr c69)] at e; exact e)
              | exact absurd c69 c83
              | exact absurd c83 c69
          · refine a_iload B dX8_trainedOf_86 rfl ?_
            refine a_goto (tgt := 93) B dX8_trainedOf_88 (by decide) ?_
            refine a_istore B dX8_trainedOf_93 (by decide) ?_
            refine a_iinc (v := 1) B dX8_trainedOf_95 rfl (by decide) (by decide) ?_
            refine a_goto (tgt := 11) B dX8_trainedOf_98 (by decide) ?_
            refine a_fg 7 ?_
            rw [nI_1]
            have e := ih (k + 1) (by omega) mu2 hp2
            rw [trM, if_neg (by omega : ¬ k + 1 = 0)] at e
            first
              | (rw [if_pos (Int32.not_le.mp c69)] at e; exact e)
              | (rw [if_neg (Int32.not_lt.mpr c69)] at e; exact e)
              | exact absurd c69 c83
              | exact absurd c83 c69
      refine a_iload B dX8_trainedOf_11 rfl ?_
      refine a_bipush (v := 24) B dX8_trainedOf_13 (by decide) ?_
      refine a_icmp_ge_f (tgt := 101) B dX8_trainedOf_15 (by decide) (nI_ge (a := k) (b := 24) (by omega) (by decide)) ?_
      refine a_aload_n B dX8_trainedOf_18 rfl ?_
      refine a_callVv B k_X8_trainedOf_119 (c_X8_laysAll hV (IM_p hp hi)) (by first | rfl | assumption) rfl rfl rfl (Nat.le_of_ble_eq_true rfl) dX8_trainedOf_19 (fun mu19 h19 => ?_)
      refine a_aload_n B dX8_trainedOf_22 rfl ?_
      refine a_iconst (v := 2) B dX8_trainedOf_23 (by decide) ?_
      refine a_iload B dX8_trainedOf_24 rfl ?_
      refine a_iconst (v := -1) B dX8_trainedOf_26 (by decide) ?_
      refine a_callVv B k_X8_trainedOf_115 (c_X8_lays (g := 2) (o := k) (fr := 99) hV (IM_p (h19.1.trans hp) hi) (by decide) (by omega) hfr_no) (by first | rfl | assumption) rfl rfl rfl (Nat.le_of_ble_eq_true rfl) dX8_trainedOf_27 (fun mu27 h27 => ?_)
      have hp2 : pM mu27 = pM mu := h27.1.trans (h19.1.trans hp)
      refine a_bipush (v := 24) B dX8_trainedOf_30 (by decide) ?_
      refine a_aload_n B dX8_trainedOf_32 rfl ?_
      refine a_getr B fl_X8_trainedOf_31 (by first | rfl | assumption) rfl dX8_trainedOf_33 ?_
      refine a_iload_n B dX8_trainedOf_36 rfl ?_
      refine a_ialdN B (g) (by first | rfl | assumption) rfl (by omega) (by decide) dX8_trainedOf_37 ?_
      refine a_aload_n B dX8_trainedOf_38 rfl ?_
      refine a_getr B fl_X8_trainedOf_31 (by first | rfl | assumption) rfl dX8_trainedOf_39 ?_
      refine a_iconst (v := 2) B dX8_trainedOf_42 (by decide) ?_
      refine a_ialdN B (2) (by first | rfl | assumption) rfl (by omega) (by decide) dX8_trainedOf_43 ?_
      refine a_ixor B dX8_trainedOf_44 ?_
      refine a_callSi B k_X8_trainedOf_201 (c_X8_ones hV) rfl rfl (Nat.le_of_ble_eq_true rfl) dX8_trainedOf_45 (fun r45 mu45 h45 => ?_)
      obtain ⟨rfl, rfl⟩ := h45
      have en : 24 - onesF (mu27 8 g ^^^ mu27 8 2) 24 = lkM mu g k := by
        rw [(h27.2.2.2.2 g (by omega) (by omega)).2, (h19.2 g (by omega)).2.2, h27.2.2.2.1, bM_p hp, bM_p (h19.1.trans hp), lkM]
      have t65 := t65 mu27 hp2
      refine a_isub B dX8_trainedOf_48 ?_
      rw [en]
      refine a_istore B dX8_trainedOf_49 (by decide) ?_
      refine a_iload B dX8_trainedOf_51 rfl ?_
      refine a_if_ne (tgt := 61) B dX8_trainedOf_53 (by decide) (fun c53 => ?_) (fun c53 => ?_)
      · refine a_iload B dX8_trainedOf_61 rfl ?_
        refine a_istore B dX8_trainedOf_63 (by decide) ?_
        first
          | (have ek : k = 0 := (nI_eq (a := k) (b := 0) (by omega) (by decide)).mp c53
             subst ek
             exact t65)
          | (have ek : k ≠ 0 := fun e => c53 (by rw [e]; rfl)
             rw [if_neg ek]
             exact t65)
      · refine a_iload B dX8_trainedOf_56 rfl ?_
        refine a_goto (tgt := 63) B dX8_trainedOf_58 (by decide) ?_
        refine a_istore B dX8_trainedOf_63 (by decide) ?_
        first
          | (have ek : k = 0 := (nI_eq (a := k) (b := 0) (by omega) (by decide)).mp c53
             subst ek
             exact t65)
          | (have ek : k ≠ 0 := fun e => c53 (by rw [e]; rfl)
             rw [if_neg ek]
             exact t65)
  refine a_iconst (v := -1) B dX8_trainedOf_0 (by decide) ?_
  refine a_istore_n B dX8_trainedOf_1 (by decide) ?_
  refine a_iconst (v := -1) B dX8_trainedOf_2 (by decide) ?_
  refine a_istore B dX8_trainedOf_3 (by decide) ?_
  refine a_iconst (v := 0) B dX8_trainedOf_5 (by decide) ?_
  refine a_istore B dX8_trainedOf_6 (by decide) ?_
  refine a_iconst (v := 0) B dX8_trainedOf_8 (by decide) ?_
  refine a_istore B dX8_trainedOf_9 (by decide) ?_
  exact loop 24 0 rfl mu rfl
abbrev rm_X8_trained : Room := { frames := 6, cells := 0, slots := 0, locals := 139 }
theorem k_X8_trained_71 : KS RX8 wsX8_trained rm_X8_trained 71 yX8_in wsX8_in rm_X8_in 3 := ⟨_, _, _, _, gX8_trained_X8_in, rfl, rfl, rfl, by decide +kernel, by decide⟩
theorem k_X8_trained_204 : KV RX8 wsX8_trained rm_X8_trained 204 RX8 yX8_trainedOf wsX8_trainedOf rm_X8_trainedOf 2 := ⟨_, _, _, _, gX8_trained_X8_trainedOf, rfl, rfl, rfl, by decide +kernel, by decide⟩

set_option maxHeartbeats 4000000 in
set_option maxRecDepth 100000 in
theorem c_X8_trained {l : Launch} {V : ab_V} {mu : ab_mem} {g : Nat} {w : Int32} (hV : ab_OK V ShM) (hi : IM mu) (hg : g < 2) (hw : inB w 0 2 = true) : CT l V ShM yX8_trained wsX8_trained rm_X8_trained [.ref (aL V 0), .int (nI g), .int w] mu (pI (fun r mu2 => r = (if w = 0 then lkM mu g 0 else if w = 1 then (trM (lkM mu g) 24).2 else (trM (lkM mu g) 24).1) ∧ pM mu2 = pM mu)) := by
  refine ab_enter hV (by decide) rfl (Nat.le_of_ble_eq_true rfl) ?_
  intro X B E
  have B : CX X l rm_X8_trained RX8 cX8_trained wsX8_trained 3 V ShM := B
  show AW X V ShM 3 0 [some (.ref (aL V 0)), some (.int (nI g)), some (.int w)] [] mu
  refine a_iload_n B dX8_trained_0 rfl ?_
  refine a_iconst (v := 0) B dX8_trained_1 (by decide) ?_
  refine a_iconst (v := 1) B dX8_trained_2 (by decide) ?_
  refine a_callSi B k_X8_trained_71 (c_X8_in hV) rfl rfl (Nat.le_of_ble_eq_true rfl) dX8_trained_3 (fun r3 mu3 h3 => ?_)
  obtain ⟨rfl, rfl⟩ := h3
  refine a_if_eq_f (tgt := 27) B dX8_trained_6 (by decide) (bI_n0.mpr (inB_nI (n := 1) (by omega) (by decide))) ?_
  refine a_iload_n B dX8_trained_9 rfl ?_
  refine a_iconst (v := 0) B dX8_trained_10 (by decide) ?_
  refine a_iconst (v := 2) B dX8_trained_11 (by decide) ?_
  refine a_callSi B k_X8_trained_71 (c_X8_in hV) rfl rfl (Nat.le_of_ble_eq_true rfl) dX8_trained_12 (fun r12 mu12 h12 => ?_)
  obtain ⟨rfl, rfl⟩ := h12
  refine a_if_eq_f (tgt := 27) B dX8_trained_15 (by decide) (bI_n0.mpr hw) ?_
  refine a_aload_n B dX8_trained_18 rfl ?_
  refine a_iload_n B dX8_trained_19 rfl ?_
  refine a_iload_n B dX8_trained_20 rfl ?_
  refine a_callVi B k_X8_trained_204 (c_X8_trainedOf hV hi hg) (by first | rfl | assumption) rfl rfl rfl (Nat.le_of_ble_eq_true rfl) dX8_trained_21 (fun r21 mu21 h21 => ?_)
  refine a_goto (tgt := 29) B dX8_trained_24 (by decide) ?_
  refine a_ireturn B E dX8_trained_29 ?_
  exact h21
set_option maxHeartbeats 4000000 in
set_option maxRecDepth 100000 in
theorem c_X8_trained_bad {l : Launch} {V : ab_V} {mu : ab_mem} {a w : Int32} (hV : ab_OK V ShM) (hbad : ¬ (inB a 0 1 = true ∧ inB w 0 2 = true)) : CT l V ShM yX8_trained wsX8_trained rm_X8_trained [.ref (aL V 0), .int a, .int w] mu (pI (fun r mu2 => r = -2 ∧ mu = mu2)) := by
  refine ab_enter hV (by decide) rfl (Nat.le_of_ble_eq_true rfl) ?_
  intro X B E
  have B : CX X l rm_X8_trained RX8 cX8_trained wsX8_trained 3 V ShM := B
  show AW X V ShM 3 0 [some (.ref (aL V 0)), some (.int a), some (.int w)] [] mu
  refine a_iload_n B dX8_trained_0 rfl ?_
  refine a_iconst (v := 0) B dX8_trained_1 (by decide) ?_
  refine a_iconst (v := 1) B dX8_trained_2 (by decide) ?_
  refine a_callSi B k_X8_trained_71 (c_X8_in hV) rfl rfl (Nat.le_of_ble_eq_true rfl) dX8_trained_3 (fun r3 mu3 h3 => ?_)
  obtain ⟨rfl, rfl⟩ := h3
  refine a_if_eq (tgt := 27) B dX8_trained_6 (by decide) (fun c6 => ?_) (fun c6 => ?_)
  · refine a_bipush (v := -2) B dX8_trained_27 (by decide) ?_
    refine a_ireturn B E dX8_trained_29 ?_
    exact ⟨rfl, rfl⟩
  · refine a_iload_n B dX8_trained_9 rfl ?_
    refine a_iconst (v := 0) B dX8_trained_10 (by decide) ?_
    refine a_iconst (v := 2) B dX8_trained_11 (by decide) ?_
    refine a_callSi B k_X8_trained_71 (c_X8_in hV) rfl rfl (Nat.le_of_ble_eq_true rfl) dX8_trained_12 (fun r12 mu12 h12 => ?_)
    obtain ⟨rfl, rfl⟩ := h12
    refine a_if_eq (tgt := 27) B dX8_trained_15 (by decide) (fun c15 => ?_) (fun c15 => ?_)
    · refine a_bipush (v := -2) B dX8_trained_27 (by decide) ?_
      refine a_ireturn B E dX8_trained_29 ?_
      exact ⟨rfl, rfl⟩
    · exfalso
      simp_all [bI_0, bI_n0]
