abbrev rm_X2_breaks : Room := { frames := 0, cells := 0, slots := 0, locals := 0 }
set_option maxRecDepth 20000 in
theorem us_X2_breaks_3 : ∀ w ∈ u_ws RX3 TX3 5, w ∈ wsX2_breaks := by decide +kernel
set_option maxRecDepth 20000 in
theorem fl_X2_breaks_48 : FL RX2 wsX2_breaks 48 3 3 := ⟨RX3, TX3, 5, rfl, by decide, us_X2_breaks_3, by decide +kernel⟩

set_option maxHeartbeats 4000000 in
set_option maxRecDepth 100000 in
theorem c_X2_breaks {l : Launch} {V : ab_V} {mu : ab_mem} {a b : Bool} (hV : OKX V)  : CT l V ShX yX2_breaks wsX2_breaks rm_X2_breaks [.ref (aL V 4), .int (bI a), .int (bI b)] mu (pI (fun r mu2 => r = bI (if mu 4 3 = 1 then a || b else a && b) ∧ mu = mu2)) := by
  refine ab_enter hV.1 (by decide) rfl (Nat.le_of_ble_eq_true rfl) ?_
  intro X B E
  have B : CX X l rm_X2_breaks RX2 cX2_breaks wsX2_breaks 3 V ShX := B
  show AW X V ShX 3 0 [some (.ref (aL V 4)), some (.int (bI a)), some (.int (bI b))] [] mu
  refine a_aload_n B dX2_breaks_0 rfl ?_
  refine a_geti B fl_X2_breaks_48 (by first | rfl | assumption) rfl dX2_breaks_1 ?_
  refine a_iconst (v := 1) B dX2_breaks_4 (by decide) ?_
  refine a_icmp_ne (tgt := 24) B dX2_breaks_5 (by decide) (fun c5 => ?_) (fun c5 => ?_)
  · refine a_iload_n B dX2_breaks_24 rfl ?_
    refine a_if_eq (tgt := 36) B dX2_breaks_25 (by decide) (fun c25 => ?_) (fun c25 => ?_)
    · refine a_iconst (v := 0) B dX2_breaks_36 (by decide) ?_
      refine a_zreturn B E dX2_breaks_37 (by first | rfl | exact nar_bI _) ?_
      refine ⟨?_, rfl⟩
      first
        | rw [if_pos c5]
        | rw [if_neg c5]
      first
        | (rw [bI_n0.mp c9]; rfl)
        | (rw [bI_0.mp c9, bI_0.mp c13]; rfl)
        | (rw [bI_0.mp c9, bI_n0.mp c13]; rfl)
        | (rw [bI_0.mp c25]; rfl)
        | (rw [bI_n0.mp c25, bI_0.mp c29]; rfl)
        | (rw [bI_n0.mp c25, bI_n0.mp c29]; rfl)
    · refine a_iload_n B dX2_breaks_28 rfl ?_
      refine a_if_eq (tgt := 36) B dX2_breaks_29 (by decide) (fun c29 => ?_) (fun c29 => ?_)
      · refine a_iconst (v := 0) B dX2_breaks_36 (by decide) ?_
        refine a_zreturn B E dX2_breaks_37 (by first | rfl | exact nar_bI _) ?_
        refine ⟨?_, rfl⟩
        first
          | rw [if_pos c5]
          | rw [if_neg c5]
        first
          | (rw [bI_n0.mp c9]; rfl)
          | (rw [bI_0.mp c9, bI_0.mp c13]; rfl)
          | (rw [bI_0.mp c9, bI_n0.mp c13]; rfl)
          | (rw [bI_0.mp c25]; rfl)
          | (rw [bI_n0.mp c25, bI_0.mp c29]; rfl)
          | (rw [bI_n0.mp c25, bI_n0.mp c29]; rfl)
      · refine a_iconst (v := 1) B dX2_breaks_32 (by decide) ?_
        refine a_goto (tgt := 37) B dX2_breaks_33 (by decide) ?_
        refine a_zreturn B E dX2_breaks_37 (by first | rfl | exact nar_bI _) ?_
        refine ⟨?_, rfl⟩
        first
          | rw [if_pos c5]
          | rw [if_neg c5]
        first
          | (rw [bI_n0.mp c9]; rfl)
          | (rw [bI_0.mp c9, bI_0.mp c13]; rfl)
          | (rw [bI_0.mp c9, bI_n0.mp c13]; rfl)
          | (rw [bI_0.mp c25]; rfl)
          | (rw [bI_n0.mp c25, bI_0.mp c29]; rfl)
          | (rw [bI_n0.mp c25, bI_n0.mp c29]; rfl)
  · refine a_iload_n B dX2_breaks_8 rfl ?_
    refine a_if_ne (tgt := 16) B dX2_breaks_9 (by decide) (fun c9 => ?_) (fun c9 => ?_)
    · refine a_iconst (v := 1) B dX2_breaks_16 (by decide) ?_
      refine a_goto (tgt := 37) B dX2_breaks_17 (by decide) ?_
      refine a_zreturn B E dX2_breaks_37 (by first | rfl | exact nar_bI _) ?_
      refine ⟨?_, rfl⟩
      first
        | rw [if_pos c5]
        | rw [if_neg c5]
      first
        | (rw [bI_n0.mp c9]; rfl)
        | (rw [bI_0.mp c9, bI_0.mp c13]; rfl)
        | (rw [bI_0.mp c9, bI_n0.mp c13]; rfl)
        | (rw [bI_0.mp c25]; rfl)
        | (rw [bI_n0.mp c25, bI_0.mp c29]; rfl)
        | (rw [bI_n0.mp c25, bI_n0.mp c29]; rfl)
    · refine a_iload_n B dX2_breaks_12 rfl ?_
      refine a_if_eq (tgt := 20) B dX2_breaks_13 (by decide) (fun c13 => ?_) (fun c13 => ?_)
      · refine a_iconst (v := 0) B dX2_breaks_20 (by decide) ?_
        refine a_goto (tgt := 37) B dX2_breaks_21 (by decide) ?_
        refine a_zreturn B E dX2_breaks_37 (by first | rfl | exact nar_bI _) ?_
        refine ⟨?_, rfl⟩
        first
          | rw [if_pos c5]
          | rw [if_neg c5]
        first
          | (rw [bI_n0.mp c9]; rfl)
          | (rw [bI_0.mp c9, bI_0.mp c13]; rfl)
          | (rw [bI_0.mp c9, bI_n0.mp c13]; rfl)
          | (rw [bI_0.mp c25]; rfl)
          | (rw [bI_n0.mp c25, bI_0.mp c29]; rfl)
          | (rw [bI_n0.mp c25, bI_n0.mp c29]; rfl)
      · refine a_iconst (v := 1) B dX2_breaks_16 (by decide) ?_
        refine a_goto (tgt := 37) B dX2_breaks_17 (by decide) ?_
        refine a_zreturn B E dX2_breaks_37 (by first | rfl | exact nar_bI _) ?_
        refine ⟨?_, rfl⟩
        first
          | rw [if_pos c5]
          | rw [if_neg c5]
        first
          | (rw [bI_n0.mp c9]; rfl)
          | (rw [bI_0.mp c9, bI_0.mp c13]; rfl)
          | (rw [bI_0.mp c9, bI_n0.mp c13]; rfl)
          | (rw [bI_0.mp c25]; rfl)
          | (rw [bI_n0.mp c25, bI_0.mp c29]; rfl)
          | (rw [bI_n0.mp c25, bI_n0.mp c29]; rfl)
theorem ix10r (h v : Nat) : nI h * (10 : Int32) + nI v = nI (10 * h + v) := by
  show nI h * nI 10 + nI v = _
  rw [pk_mul, nI_add, Nat.mul_comm]
theorem ix10rs (h v : Nat) : (nI h + 1) * (10 : Int32) + nI v = nI (10 * (h + 1) + v) := by rw [nI_1, ix10r]
theorem bdF_lt (ms : Nat → Bool) (by_ : Nat → Int32) : ∀ n, 0 < n → bdF ms by_ n < n := by
  intro n
  induction n with
  | zero => intro h; omega
  | succ n ih =>
    intro _
    rw [bdF]
    split
    · omega
    · cases n with
      | zero => exact Nat.zero_lt_one
      | succ n => have := ih (by omega); omega
def msX (mu : ab_mem) (v : Nat) (ob : Bool) (d : Nat) : Bool := qMS (mu 5) (mu 4 2) (mu 4 3) (mu 4 4) v d ob
abbrev rm_X2_planState : Room := { frames := 3, cells := 0, slots := 0, locals := 63 }
set_option maxRecDepth 20000 in
theorem us_X2_planState_2 : ∀ w ∈ u_ws RX2 TX2 2, w ∈ wsX2_planState := by decide +kernel
set_option maxRecDepth 20000 in
theorem fl_X2_planState_9 : FL RX2 wsX2_planState 9 2 0 := ⟨RX2, TX2, 2, rfl, by decide, us_X2_planState_2, by decide +kernel⟩
set_option maxRecDepth 20000 in
theorem fl_X2_planState_15 : FL RX2 wsX2_planState 15 2 1 := ⟨RX2, TX2, 2, rfl, by decide, us_X2_planState_2, by decide +kernel⟩
theorem k_X2_planState_27 : KV RX2 wsX2_planState rm_X2_planState 27 RX3 yX3_levelAfter wsX3_levelAfter rm_X3_levelAfter 2 := ⟨_, _, _, _, gX2_planState_X3_levelAfter, rfl, rfl, rfl, by decide +kernel, by decide⟩
theorem k_X2_planState_33 : KV RX2 wsX2_planState rm_X2_planState 33 RX3 yX3_hiccupsAt wsX3_hiccupsAt rm_X3_hiccupsAt 2 := ⟨_, _, _, _, gX2_planState_X3_hiccupsAt, rfl, rfl, rfl, by decide +kernel, by decide⟩
theorem k_X2_planState_36 : KV RX2 wsX2_planState rm_X2_planState 36 RX3 yX3_mayServe wsX3_mayServe rm_X3_mayServe 1 := ⟨_, _, _, _, gX2_planState_X3_mayServe, rfl, rfl, rfl, by decide +kernel, by decide⟩
theorem k_X2_planState_40 : KS RX2 wsX2_planState rm_X2_planState 40 yX2_breaks wsX2_breaks rm_X2_breaks 3 := ⟨_, _, _, _, gX2_planState_X2_breaks, rfl, rfl, rfl, by decide +kernel, by decide⟩
theorem k_X2_planState_44 : KV RX2 wsX2_planState rm_X2_planState 44 RX3 yX3_priceOf wsX3_priceOf rm_X3_priceOf 1 := ⟨_, _, _, _, gX2_planState_X3_priceOf, rfl, rfl, rfl, by decide +kernel, by decide⟩

set_option maxHeartbeats 4000000 in
set_option maxRecDepth 100000 in
theorem c_X2_planState {l : Launch} {V : ab_V} {mu : ab_mem} {h v : Nat} {ob : Bool} {C : Nat → Int32} (hV : OKX V) (hh : h < 24) (hv : v < 10) (hc : ∀ v, v < 10 → mu 15 (10 * (h + 1) + v) = C v) : CT l V ShX yX2_planState wsX2_planState rm_X2_planState [.ref (aL V 14), .ref (aL V 4), .int (bI ob), .int (nI h), .int (nI v)] mu (pV (fun mu2 => mu2 = ab_up (ab_up mu 15 (10 * h + v) (bsF (msX mu v ob) (fun d => mu 6 d + C (qN (mu 5) v d)) 7)) 16 (10 * h + v) (nI (bdF (msX mu v ob) (fun d => mu 6 d + C (qN (mu 5) v d)) 7)))) := by
  refine ab_enter hV.1 (by decide) rfl (Nat.le_of_ble_eq_true rfl) ?_
  intro X B E
  have B : CX X l rm_X2_planState RX2 cX2_planState wsX2_planState 11 V ShX := B
  show AW X V ShX 11 0 [some (.ref (aL V 14)), some (.ref (aL V 4)), some (.int (bI ob)), some (.int (nI h)), some (.int (nI v)), none, none, none, none, none, none] [] mu
  have loop : ∀ (m d : Nat), d + m = 7 → AW X V ShX 11 10 [some (.ref (aL V 14)), some (.ref (aL V 4)), some (.int (bI ob)), some (.int (nI h)), some (.int (nI v)), some (.int (bsF (msX mu v ob) (fun d => mu 6 d + C (qN (mu 5) v d)) d)), some (.int (nI (bdF (msX mu v ob) (fun d => mu 6 d + C (qN (mu 5) v d)) d))), some (.int (nI d)), none, none, none] [] mu := by
    intro m
    induction m with
    | zero =>
      intro d hd
      have e : d = 7 := by omega
      subst e
      refine a_iload B dX2_planState_10 rfl ?_
      refine a_bipush (v := 7) B dX2_planState_12 (by decide) ?_
      refine a_icmp_ge_t (tgt := 103) B dX2_planState_14 (by decide) (by decide) ?_
      refine a_aload_n B dX2_planState_103 rfl ?_
      refine a_getr B fl_X2_planState_9 (by first | rfl | assumption) rfl dX2_planState_104 ?_
      refine a_iload_n B dX2_planState_107 rfl ?_
      refine a_bipush (v := 10) B dX2_planState_108 (by decide) ?_
      refine a_imul B dX2_planState_110 ?_
      refine a_iload B dX2_planState_111 rfl ?_
      refine a_iadd B dX2_planState_113 ?_
      refine a_iload B dX2_planState_114 rfl ?_
      refine a_iastN B (10 * h + v) (by first | rfl | assumption) (ix10r h v) (by omega) (by decide)  dX2_planState_116 ?_
      refine a_aload_n B dX2_planState_117 rfl ?_
      refine a_getr B fl_X2_planState_15 (by first | rfl | assumption) rfl dX2_planState_118 ?_
      refine a_iload_n B dX2_planState_121 rfl ?_
      refine a_bipush (v := 10) B dX2_planState_122 (by decide) ?_
      refine a_imul B dX2_planState_124 ?_
      refine a_iload B dX2_planState_125 rfl ?_
      refine a_iadd B dX2_planState_127 ?_
      refine a_iload B dX2_planState_128 rfl ?_
      refine a_iastN B (10 * h + v) (by first | rfl | assumption) (ix10r h v) (by omega) (by decide)  dX2_planState_130 ?_
      refine a_return B E dX2_planState_131 ?_
      rfl
    | succ m ih =>
      intro d hd
      refine a_iload B dX2_planState_10 rfl ?_
      refine a_bipush (v := 7) B dX2_planState_12 (by decide) ?_
      refine a_icmp_ge_f (tgt := 103) B dX2_planState_14 (by decide) (nI_ge (a := d) (b := 7) (by omega) (by decide)) ?_
      refine a_aload_n B dX2_planState_17 rfl ?_
      refine a_iload B dX2_planState_18 rfl ?_
      refine a_iload B dX2_planState_20 rfl ?_
      refine a_callVi B k_X2_planState_27 (c_X3_levelAfter hV (vp_in_nI (n := d) (by omega) (by decide))) (by first | rfl | assumption) rfl rfl rfl (Nat.le_of_ble_eq_true rfl) dX2_planState_22 (fun r22 mu22 h22 => ?_)
      obtain ⟨rfl, rfl⟩ := h22
      rw [(qN_ok (mu 5) v d).2]
      refine a_istore B dX2_planState_25 (by decide) ?_
      show AW _ _ _ _ _ [some (.ref _), some (.ref _), some (.int _), some (.int _), some (.int _), some (.int _), some (.int _), some (.int _), some (.int _), none, none] _ _
      refine a_aload_n B dX2_planState_27 rfl ?_
      refine a_iload B dX2_planState_28 rfl ?_
      refine a_iload B dX2_planState_30 rfl ?_
      refine a_callVi B k_X2_planState_33 (c_X3_hiccupsAt hV) (by first | rfl | assumption) rfl rfl rfl (Nat.le_of_ble_eq_true rfl) dX2_planState_32 (fun r32 mu32 h32 => ?_)
      obtain ⟨rfl, rfl⟩ := h32
      refine a_istore B dX2_planState_35 (by decide) ?_
      show AW _ _ _ _ _ [some (.ref _), some (.ref _), some (.int _), some (.int _), some (.int _), some (.int _), some (.int _), some (.int _), some (.int _), some (.int _), none] _ _
      refine a_aload_n B dX2_planState_37 rfl ?_
      refine a_iload B dX2_planState_38 rfl ?_
      refine a_callVi B k_X2_planState_36 (c_X3_mayServe hV) (by first | rfl | assumption) rfl rfl rfl (Nat.le_of_ble_eq_true rfl) dX2_planState_40 (fun r40 mu40 h40 => ?_)
      obtain ⟨rfl, rfl⟩ := h40
      refine a_if_eq (tgt := 97) B dX2_planState_43 (by decide) (fun c43 => ?_) (fun c43 => ?_)
      · refine a_iinc (v := 1) B dX2_planState_97 rfl (by decide) (by decide) ?_
        refine a_goto (tgt := 10) B dX2_planState_100 (by decide) ?_
        first
          | show AW _ _ _ _ _ [some (.ref _), some (.ref _), some (.int _), some (.int _), some (.int _), some (.int _), some (.int _), some (.int _), some (.int _), some (.int _), some (.int _)] _ _
          | show AW _ _ _ _ _ [some (.ref _), some (.ref _), some (.int _), some (.int _), some (.int _), some (.int _), some (.int _), some (.int _), some (.int _), some (.int _), none] _ _
        refine a_fg 8 ?_
        refine a_fg 9 ?_
        refine a_fg 10 ?_
        rw [nI_1]
        have e := ih (d + 1) (by omega)
        rw [bsF, bdF] at e
        have hm : msX mu v ob d = (!bitB (mu 4 4) (nI d) && !(if mu 4 3 = 1 then hicB (mu 4 2) (nI (qN (mu 5) v d)) (nI d) || ob else hicB (mu 4 2) (nI (qN (mu 5) v d)) (nI d) && ob)) := by rw [msX, qMS, (qN_ok (mu 5) v d).2]
        first
          | (have z : ¬ msX mu v ob d = true := by rw [hm, bI_0.mp c43]; simp
             rw [if_neg (fun q => z q.1), if_neg (fun q => z q.1)] at e
             exact e)
          | (have z : ¬ msX mu v ob d = true := by rw [hm, bI_n0.mp c53]; simp
             rw [if_neg (fun q => z q.1), if_neg (fun q => z q.1)] at e
             exact e)
          | (have z : ¬ mu 6 d + C (qN (mu 5) v d) < bsF (msX mu v ob) (fun d => mu 6 d + C (qN (mu 5) v d)) d := Int32.not_lt.mpr c86
             rw [if_neg (fun q => z q.2), if_neg (fun q => z q.2)] at e
             exact e)
          | (have z1 : msX mu v ob d = true := by rw [hm, bI_n0.mp c43, bI_0.mp c53]; rfl
             have z2 : mu 6 d + C (qN (mu 5) v d) < bsF (msX mu v ob) (fun d => mu 6 d + C (qN (mu 5) v d)) d := Int32.not_le.mp c86
             rw [if_pos ⟨z1, z2⟩, if_pos ⟨z1, z2⟩] at e
             exact e)
      · refine a_aload_n B dX2_planState_46 rfl ?_
        refine a_iload B dX2_planState_47 rfl ?_
        refine a_iload_n B dX2_planState_49 rfl ?_
        refine a_callSi B k_X2_planState_40 (c_X2_breaks hV) rfl rfl (Nat.le_of_ble_eq_true rfl) dX2_planState_50 (fun r50 mu50 h50 => ?_)
        obtain ⟨rfl, rfl⟩ := h50
        refine a_if_eq (tgt := 59) B dX2_planState_53 (by decide) (fun c53 => ?_) (fun c53 => ?_)
        · refine a_aload_n B dX2_planState_59 rfl ?_
          refine a_iload B dX2_planState_60 rfl ?_
          refine a_callVi B k_X2_planState_44 (c_X3_priceOf hV (by omega)) (by first | rfl | assumption) rfl rfl rfl (Nat.le_of_ble_eq_true rfl) dX2_planState_62 (fun r62 mu62 h62 => ?_)
          obtain ⟨rfl, rfl⟩ := h62
          refine a_aload_n B dX2_planState_65 rfl ?_
          refine a_getr B fl_X2_planState_9 (by first | rfl | assumption) rfl dX2_planState_66 ?_
          refine a_iload_n B dX2_planState_69 rfl ?_
          refine a_iconst (v := 1) B dX2_planState_70 (by decide) ?_
          refine a_iadd B dX2_planState_71 ?_
          refine a_bipush (v := 10) B dX2_planState_72 (by decide) ?_
          refine a_imul B dX2_planState_74 ?_
          refine a_iload B dX2_planState_75 rfl ?_
          refine a_iadd B dX2_planState_77 ?_
          refine a_ialdN B (10 * (h + 1) + qN (mu 5) v d) (by first | rfl | assumption) (ix10rs h _) (by have := (qN_ok (mu 5) v d).1; omega) (by decide) dX2_planState_78 ?_
          rw [hc _ (by have := (qN_ok (mu 5) v d).1; omega)]
          refine a_iadd B dX2_planState_79 ?_
          refine a_istore B dX2_planState_80 (by decide) ?_
          show AW _ _ _ _ _ [some (.ref _), some (.ref _), some (.int _), some (.int _), some (.int _), some (.int _), some (.int _), some (.int _), some (.int _), some (.int _), some (.int _)] _ _
          refine a_iload B dX2_planState_82 rfl ?_
          refine a_iload B dX2_planState_84 rfl ?_
          refine a_icmp_ge (tgt := 97) B dX2_planState_86 (by decide) (fun c86 => ?_) (fun c86 => ?_)
          · refine a_iinc (v := 1) B dX2_planState_97 rfl (by decide) (by decide) ?_
            refine a_goto (tgt := 10) B dX2_planState_100 (by decide) ?_
            first
              | show AW _ _ _ _ _ [some (.ref _), some (.ref _), some (.int _), some (.int _), some (.int _), some (.int _), some (.int _), some (.int _), some (.int _), some (.int _), some (.int _)] _ _
              | show AW _ _ _ _ _ [some (.ref _), some (.ref _), some (.int _), some (.int _), some (.int _), some (.int _), some (.int _), some (.int _), some (.int _), some (.int _), none] _ _
            refine a_fg 8 ?_
            refine a_fg 9 ?_
            refine a_fg 10 ?_
            rw [nI_1]
            have e := ih (d + 1) (by omega)
            rw [bsF, bdF] at e
            have hm : msX mu v ob d = (!bitB (mu 4 4) (nI d) && !(if mu 4 3 = 1 then hicB (mu 4 2) (nI (qN (mu 5) v d)) (nI d) || ob else hicB (mu 4 2) (nI (qN (mu 5) v d)) (nI d) && ob)) := by rw [msX, qMS, (qN_ok (mu 5) v d).2]
            first
              | (have z : ¬ msX mu v ob d = true := by rw [hm, bI_0.mp c43]; simp
                 rw [if_neg (fun q => z q.1), if_neg (fun q => z q.1)] at e
                 exact e)
              | (have z : ¬ msX mu v ob d = true := by rw [hm, bI_n0.mp c53]; simp
                 rw [if_neg (fun q => z q.1), if_neg (fun q => z q.1)] at e
                 exact e)
              | (have z : ¬ mu 6 d + C (qN (mu 5) v d) < bsF (msX mu v ob) (fun d => mu 6 d + C (qN (mu 5) v d)) d := Int32.not_lt.mpr c86
                 rw [if_neg (fun q => z q.2), if_neg (fun q => z q.2)] at e
                 exact e)
              | (have z1 : msX mu v ob d = true := by rw [hm, bI_n0.mp c43, bI_0.mp c53]; rfl
                 have z2 : mu 6 d + C (qN (mu 5) v d) < bsF (msX mu v ob) (fun d => mu 6 d + C (qN (mu 5) v d)) d := Int32.not_le.mp c86
                 rw [if_pos ⟨z1, z2⟩, if_pos ⟨z1, z2⟩] at e
                 exact e)
          · refine a_iload B dX2_planState_89 rfl ?_
            refine a_istore B dX2_planState_91 (by decide) ?_
            show AW _ _ _ _ _ [some (.ref _), some (.ref _), some (.int _), some (.int _), some (.int _), some (.int _), some (.int _), some (.int _), some (.int _), some (.int _), some (.int _)] _ _
            refine a_iload B dX2_planState_93 rfl ?_
            refine a_istore B dX2_planState_95 (by decide) ?_
            refine a_iinc (v := 1) B dX2_planState_97 rfl (by decide) (by decide) ?_
            refine a_goto (tgt := 10) B dX2_planState_100 (by decide) ?_
            first
              | show AW _ _ _ _ _ [some (.ref _), some (.ref _), some (.int _), some (.int _), some (.int _), some (.int _), some (.int _), some (.int _), some (.int _), some (.int _), some (.int _)] _ _
              | show AW _ _ _ _ _ [some (.ref _), some (.ref _), some (.int _), some (.int _), some (.int _), some (.int _), some (.int _), some (.int _), some (.int _), some (.int _), none] _ _
            refine a_fg 8 ?_
            refine a_fg 9 ?_
            refine a_fg 10 ?_
            rw [nI_1]
            have e := ih (d + 1) (by omega)
            rw [bsF, bdF] at e
            have hm : msX mu v ob d = (!bitB (mu 4 4) (nI d) && !(if mu 4 3 = 1 then hicB (mu 4 2) (nI (qN (mu 5) v d)) (nI d) || ob else hicB (mu 4 2) (nI (qN (mu 5) v d)) (nI d) && ob)) := by rw [msX, qMS, (qN_ok (mu 5) v d).2]
            first
              | (have z : ¬ msX mu v ob d = true := by rw [hm, bI_0.mp c43]; simp
                 rw [if_neg (fun q => z q.1), if_neg (fun q => z q.1)] at e
                 exact e)
              | (have z : ¬ msX mu v ob d = true := by rw [hm, bI_n0.mp c53]; simp
                 rw [if_neg (fun q => z q.1), if_neg (fun q => z q.1)] at e
                 exact e)
              | (have z : ¬ mu 6 d + C (qN (mu 5) v d) < bsF (msX mu v ob) (fun d => mu 6 d + C (qN (mu 5) v d)) d := Int32.not_lt.mpr c86
                 rw [if_neg (fun q => z q.2), if_neg (fun q => z q.2)] at e
                 exact e)
              | (have z1 : msX mu v ob d = true := by rw [hm, bI_n0.mp c43, bI_0.mp c53]; rfl
                 have z2 : mu 6 d + C (qN (mu 5) v d) < bsF (msX mu v ob) (fun d => mu 6 d + C (qN (mu 5) v d)) d := Int32.not_le.mp c86
                 rw [if_pos ⟨z1, z2⟩, if_pos ⟨z1, z2⟩] at e
                 exact e)
        · refine a_goto (tgt := 97) B dX2_planState_56 (by decide) ?_
          refine a_iinc (v := 1) B dX2_planState_97 rfl (by decide) (by decide) ?_
          refine a_goto (tgt := 10) B dX2_planState_100 (by decide) ?_
          first
            | show AW _ _ _ _ _ [some (.ref _), some (.ref _), some (.int _), some (.int _), some (.int _), some (.int _), some (.int _), some (.int _), some (.int _), some (.int _), some (.int _)] _ _
            | show AW _ _ _ _ _ [some (.ref _), some (.ref _), some (.int _), some (.int _), some (.int _), some (.int _), some (.int _), some (.int _), some (.int _), some (.int _), none] _ _
          refine a_fg 8 ?_
          refine a_fg 9 ?_
          refine a_fg 10 ?_
          rw [nI_1]
          have e := ih (d + 1) (by omega)
          rw [bsF, bdF] at e
          have hm : msX mu v ob d = (!bitB (mu 4 4) (nI d) && !(if mu 4 3 = 1 then hicB (mu 4 2) (nI (qN (mu 5) v d)) (nI d) || ob else hicB (mu 4 2) (nI (qN (mu 5) v d)) (nI d) && ob)) := by rw [msX, qMS, (qN_ok (mu 5) v d).2]
          first
            | (have z : ¬ msX mu v ob d = true := by rw [hm, bI_0.mp c43]; simp
               rw [if_neg (fun q => z q.1), if_neg (fun q => z q.1)] at e
               exact e)
            | (have z : ¬ msX mu v ob d = true := by rw [hm, bI_n0.mp c53]; simp
               rw [if_neg (fun q => z q.1), if_neg (fun q => z q.1)] at e
               exact e)
            | (have z : ¬ mu 6 d + C (qN (mu 5) v d) < bsF (msX mu v ob) (fun d => mu 6 d + C (qN (mu 5) v d)) d := Int32.not_lt.mpr c86
               rw [if_neg (fun q => z q.2), if_neg (fun q => z q.2)] at e
               exact e)
            | (have z1 : msX mu v ob d = true := by rw [hm, bI_n0.mp c43, bI_0.mp c53]; rfl
               have z2 : mu 6 d + C (qN (mu 5) v d) < bsF (msX mu v ob) (fun d => mu 6 d + C (qN (mu 5) v d)) d := Int32.not_le.mp c86
               rw [if_pos ⟨z1, z2⟩, if_pos ⟨z1, z2⟩] at e
               exact e)
  refine a_ldc (v := 1000000) B (by decide +kernel) dX2_planState_0 ?_
  refine a_istore B dX2_planState_2 (by decide) ?_
  refine a_iconst (v := 0) B dX2_planState_4 (by decide) ?_
  refine a_istore B dX2_planState_5 (by decide) ?_
  refine a_iconst (v := 0) B dX2_planState_7 (by decide) ?_
  refine a_istore B dX2_planState_8 (by decide) ?_
  exact loop 7 0 rfl
def cXq (mu : ab_mem) (x : Int32) (to : Nat) : Nat → Nat → Int32 := qC (mu 5) (mu 6) (mu 4 2) (mu 4 3) (mu 4 4) x to
def bXq (mu : ab_mem) (x : Int32) (to k v : Nat) : Nat := qB (mu 5) (mu 6) (mu 4 2) (mu 4 3) (mu 4 4) x to k v
/-- the plan's rows from hour b on stand, and j places of hour b - 1 .. -/
def QX (mu : ab_mem) (x : Int32) (to b j : Nat) (mu1 : ab_mem) : Prop := (∀ q, q ≠ 15 → q ≠ 16 → mu1 q = mu q) ∧ (∀ h, b + 1 ≤ h → h ≤ to + 1 → ∀ v, v < 10 → mu1 15 (10 * h + v) = cXq mu x to (to + 1 - h) v) ∧ (∀ h, b + 1 ≤ h → h ≤ to → ∀ v, v < 10 → mu1 16 (10 * h + v) = nI (bXq mu x to (to - h) v)) ∧ (∀ v, v < j → mu1 15 (10 * b + v) = cXq mu x to (to + 1 - b) v) ∧ ∀ v, v < j → b ≤ to → mu1 16 (10 * b + v) = nI (bXq mu x to (to - b) v)
theorem QX_up {mu mu1 : ab_mem} {x : Int32} {to b j : Nat} {c : Int32} {d : Nat} (h : QX mu x to b j mu1) (hj : j < 10) (hb : b ≤ to) (hc : c = cXq mu x to (to + 1 - b) j) (hd : d = bXq mu x to (to - b) j) : QX mu x to b (j + 1) (ab_up (ab_up mu1 15 (10 * b + j) c) 16 (10 * b + j) (nI d)) := by
  obtain ⟨h1, h2, h3, h4, h5⟩ := h
  refine ⟨fun q a e => by rw [ab_up_o e, ab_up_o a]; exact h1 q a e, fun h hb2 ht v hv => ?_, fun h hb2 ht v hv => ?_, fun v hv => ?_, fun v hv _ => ?_⟩
  · rw [ab_up_o (by decide), ab_up_s, pk_un (by omega)]; exact h2 h hb2 ht v hv
  · rw [ab_up_s, pk_un (by omega), ab_up_o (by decide)]; exact h3 h hb2 ht v hv
  · rw [ab_up_o (by decide), ab_up_s]
    by_cases e : v = j
    · rw [e, pk_us, hc]
    · rw [pk_un (by omega)]; exact h4 v (by omega)
  · rw [ab_up_s]
    by_cases e : v = j
    · rw [e, pk_us, hd]
    · rw [pk_un (by omega), ab_up_o (by decide)]; exact h5 v (by omega) hb
theorem QX_next {mu mu1 : ab_mem} {x : Int32} {to b : Nat} (h : QX mu x to (b + 1) 10 mu1) : QX mu x to b 0 mu1 := by
  obtain ⟨h1, h2, h3, h4, h5⟩ := h
  refine ⟨h1, fun h hb ht v hv => ?_, fun h hb ht v hv => ?_, fun v hv => by omega, fun v hv => by omega⟩
  · by_cases e : h = b + 1
    · rw [e]; exact h4 v hv
    · exact h2 h (by omega) ht v hv
  · by_cases e : h = b + 1
    · rw [e]; exact h5 v hv (by omega)
    · exact h3 h (by omega) ht v hv
/-- whole rows from hour b on -/
def QXw (mu : ab_mem) (x : Int32) (to b : Nat) (mu1 : ab_mem) : Prop := (∀ q, q ≠ 15 → q ≠ 16 → mu1 q = mu q) ∧ (∀ h, b ≤ h → h ≤ to + 1 → ∀ v, v < 10 → mu1 15 (10 * h + v) = cXq mu x to (to + 1 - h) v) ∧ ∀ h, b ≤ h → h ≤ to → ∀ v, v < 10 → mu1 16 (10 * h + v) = nI (bXq mu x to (to - h) v)
theorem QXw_of {mu mu1 : ab_mem} {x : Int32} {to b : Nat} (h : QX mu x to b 10 mu1) : QXw mu x to b mu1 := by
  obtain ⟨h1, h2, h3, h4, h5⟩ := h
  refine ⟨h1, fun h hb ht v hv => ?_, fun h hb ht v hv => ?_⟩
  · by_cases e : h = b
    · rw [e]; exact h4 v hv
    · exact h2 h (by omega) ht v hv
  · by_cases e : h = b
    · rw [e]; exact h5 v hv (by omega)
    · exact h3 h (by omega) ht v hv
theorem QXw_0 {mu mu1 : ab_mem} {x : Int32} {to b : Nat} (h : QXw mu x to (b + 1) mu1) : QX mu x to b 0 mu1 := ⟨h.1, h.2.1, h.2.2, fun v hv => by omega, fun v hv => by omega⟩
abbrev rm_X2_plan : Room := { frames := 4, cells := 0, slots := 0, locals := 93 }
set_option maxRecDepth 20000 in
theorem us_X2_plan_2 : ∀ w ∈ u_ws RX2 TX2 2, w ∈ wsX2_plan := by decide +kernel
set_option maxRecDepth 20000 in
theorem fl_X2_plan_9 : FL RX2 wsX2_plan 9 2 0 := ⟨RX2, TX2, 2, rfl, by decide, us_X2_plan_2, by decide +kernel⟩
set_option maxRecDepth 20000 in
theorem k_X2_plan_18 : KN RX2 wsX2_plan rm_X2_plan yX7_hasHour wsX7_hasHour rm_X7_hasHour 2 := ⟨_, _, _, _, gX2_plan_X7_hasHour_n18, by decide +kernel, by decide +kernel, rfl, rfl, rfl, by decide +kernel, by decide⟩
theorem k_X2_plan_22 : KV RX2 wsX2_plan rm_X2_plan 22 RX2 yX2_planState wsX2_planState rm_X2_planState 4 := ⟨_, _, _, _, gX2_plan_X2_planState, rfl, rfl, rfl, by decide +kernel, by decide⟩

set_option maxHeartbeats 4000000 in
set_option maxRecDepth 100000 in
theorem c_X2_plan {l : Launch} {V : ab_V} {mu : ab_mem} {x : Int32} {fr to : Nat} (hV : OKX V) (hft : fr ≤ to) (hto : to < 24) : CT l V ShX yX2_plan wsX2_plan rm_X2_plan [.ref (aL V 14), .ref (aL V 4), .int x, .int (nI fr), .int (nI to)] mu (pV (fun mu2 => QXw mu x to fr mu2)) := by
  refine ab_enter hV.1 (by decide) rfl (Nat.le_of_ble_eq_true rfl) ?_
  intro X B E
  have B : CX X l rm_X2_plan RX2 cX2_plan wsX2_plan 8 V ShX := B
  show AW X V ShX 8 0 [some (.ref (aL V 14)), some (.ref (aL V 4)), some (.int x), some (.int (nI fr)), some (.int (nI to)), none, none, none] [] mu
  have l36 : ∀ m, fr + m ≤ to + 1 → ∀ mu1, QXw mu x to (fr + m) mu1 → ∀ h5, h5 = nI (fr + m) + -1 → AW X V ShX 8 36 [some (.ref (aL V 14)), some (.ref (aL V 4)), some (.int x), some (.int (nI fr)), some (.int (nI to)), some (.int h5), none, none] [] mu1 := by
    intro m
    induction m with
    | zero =>
      intro hm mu1 hq h5 eh
      refine a_iload B dX2_plan_36 rfl ?_
      refine a_iload_n B dX2_plan_38 rfl ?_
      refine a_icmp_lt_t (tgt := 83) B dX2_plan_39 (by decide) (by rw [eh]; exact pre_lt fr (by omega)) ?_
      refine a_return B E dX2_plan_83 ?_
      exact hq
    | succ m ih =>
      intro hm mu1 hq h5 eh
      have eh2 : h5 = nI (fr + m) := by rw [eh]; exact pk_m1 (fr + m)
      have lv10 : ∀ (mv v : Nat), v + mv = 10 → ∀ mu1, QX mu x to (fr + m) v mu1 → AW X V ShX 8 53 [some (.ref (aL V 14)), some (.ref (aL V 4)), some (.int x), some (.int (nI fr)), some (.int (nI to)), some (.int (nI (fr + m))), some (.int (bI (bitB x (nI (fr + m))))), some (.int (nI v))] [] mu1 := by
        intro mv
        induction mv with
        | zero =>
          intro v hv mu1 hq
          have ev : v = 10 := by omega
          subst ev
          refine a_iload B dX2_plan_53 rfl ?_
          refine a_bipush (v := 10) B dX2_plan_55 (by decide) ?_
          refine a_icmp_ge_t (tgt := 77) B dX2_plan_57 (by decide) (by decide) ?_
          refine a_iinc (v := -1) B dX2_plan_77 rfl (by decide) (by decide) ?_
          refine a_goto (tgt := 36) B dX2_plan_80 (by decide) ?_
          refine a_fg 6 ?_
          refine a_fg 7 ?_
          exact ih (by omega) mu1 (QXw_of hq) _ rfl
        | succ mv ihv =>
          intro v hv mu1 hq
          refine a_iload B dX2_plan_53 rfl ?_
          refine a_bipush (v := 10) B dX2_plan_55 (by decide) ?_
          refine a_icmp_ge_f (tgt := 77) B dX2_plan_57 (by decide) (nI_ge (a := v) (b := 10) (by omega) (by decide)) ?_
          refine a_aload_n B dX2_plan_60 rfl ?_
          refine a_aload_n B dX2_plan_61 rfl ?_
          refine a_iload B dX2_plan_62 rfl ?_
          refine a_iload B dX2_plan_64 rfl ?_
          refine a_iload B dX2_plan_66 rfl ?_
          refine a_callVv B k_X2_plan_22 (c_X2_planState (C := cXq mu x to (to - (fr + m))) hV (by omega) (by omega) (fun v hv => by rw [hq.2.1 (fr + m + 1) (by omega) (by omega) v hv, show to + 1 - (fr + m + 1) = to - (fr + m) by omega])) (by first | rfl | assumption) rfl rfl rfl (Nat.le_of_ble_eq_true rfl) dX2_plan_68 (fun mu68 h68 => ?_)
          refine a_iinc (v := 1) B dX2_plan_71 rfl (by decide) (by decide) ?_
          refine a_goto (tgt := 53) B dX2_plan_74 (by decide) ?_
          rw [nI_1]
          rw [show msX mu1 v (bitB x (nI (fr + m))) = msX mu v (bitB x (nI (fr + m))) by unfold msX; rw [hq.1 4 (by decide) (by decide), hq.1 5 (by decide) (by decide)], hq.1 5 (by decide) (by decide), hq.1 6 (by decide) (by decide)] at h68
          subst h68
          refine ihv (v + 1) (by omega) _ (QX_up hq (by omega) (by omega) ?_ ?_)
          · rw [show to + 1 - (fr + m) = (to - (fr + m)) + 1 by omega, cXq, qC, show to - (to - (fr + m)) = fr + m by omega]; rfl
          · rw [bXq, qB, show to - (to - (fr + m)) = fr + m by omega]; rfl
      refine a_iload B dX2_plan_36 rfl ?_
      refine a_iload_n B dX2_plan_38 rfl ?_
      refine a_icmp_lt_f (tgt := 83) B dX2_plan_39 (by decide) (by rw [eh2]; exact nI_nlt (a := fr + m) (b := fr) (by omega) (by omega)) ?_
      refine a_iload_n B dX2_plan_42 rfl ?_
      refine a_iload B dX2_plan_43 rfl ?_
      rw [eh2]
      refine a_callNi B k_X2_plan_18 (hV.2 _ B.2.2.2.1).2.2.1 (c_X7_hasHour hV) rfl rfl (Nat.le_of_ble_eq_true rfl) dX2_plan_45 (fun r45 mu45 h45 => ?_)
      obtain ⟨rfl, rfl⟩ := h45
      refine a_istore B dX2_plan_48 (by decide) ?_
      refine a_iconst (v := 0) B dX2_plan_50 (by decide) ?_
      refine a_istore B dX2_plan_51 (by decide) ?_
      exact lv10 10 0 rfl mu1 (QXw_0 hq)
  have l3 : ∀ (m j : Nat), j + m = 10 → ∀ mu1, ((∀ q, q ≠ 15 → q ≠ 16 → mu1 q = mu q) ∧ ∀ v, v < j → mu1 15 (10 * (to + 1) + v) = 0) → AW X V ShX 8 3 [some (.ref (aL V 14)), some (.ref (aL V 4)), some (.int x), some (.int (nI fr)), some (.int (nI to)), some (.int (nI j)), none, none] [] mu1 := by
    intro m
    induction m with
    | zero =>
      intro j hj mu1 hq
      have e : j = 10 := by omega
      subst e
      refine a_iload B dX2_plan_3 rfl ?_
      refine a_bipush (v := 10) B dX2_plan_5 (by decide) ?_
      refine a_icmp_ge_t (tgt := 32) B dX2_plan_7 (by decide) (by decide) ?_
      refine a_iload B dX2_plan_32 rfl ?_
      refine a_istore B dX2_plan_34 (by decide) ?_
      exact l36 (to + 1 - fr) (by omega) mu1 ⟨hq.1, fun h hb ht v hv => by rw [show h = to + 1 by omega, Nat.sub_self]; exact hq.2 v (by omega), fun h hb ht => by omega⟩ _ (by rw [show fr + (to + 1 - fr) = to + 1 by omega]; exact (pk_m1 to).symm)
    | succ m ih =>
      intro j hj mu1 hq
      refine a_iload B dX2_plan_3 rfl ?_
      refine a_bipush (v := 10) B dX2_plan_5 (by decide) ?_
      refine a_icmp_ge_f (tgt := 32) B dX2_plan_7 (by decide) (nI_ge (a := j) (b := 10) (by omega) (by decide)) ?_
      refine a_aload_n B dX2_plan_10 rfl ?_
      refine a_getr B fl_X2_plan_9 (by first | rfl | assumption) rfl dX2_plan_11 ?_
      refine a_iload B dX2_plan_14 rfl ?_
      refine a_iconst (v := 1) B dX2_plan_16 (by decide) ?_
      refine a_iadd B dX2_plan_17 ?_
      refine a_bipush (v := 10) B dX2_plan_18 (by decide) ?_
      refine a_imul B dX2_plan_20 ?_
      refine a_iload B dX2_plan_21 rfl ?_
      refine a_iadd B dX2_plan_23 ?_
      refine a_iconst (v := 0) B dX2_plan_24 (by decide) ?_
      refine a_iastN B (10 * (to + 1) + j) (by first | rfl | assumption) (ix10rs to j) (by omega) (by decide)  dX2_plan_25 ?_
      refine a_iinc (v := 1) B dX2_plan_26 rfl (by decide) (by decide) ?_
      refine a_goto (tgt := 3) B dX2_plan_29 (by decide) ?_
      rw [nI_1]
      refine ih (j + 1) (by omega) _ ⟨fun q a b => by rw [ab_up_o a]; exact hq.1 q a b, fun v hv => ?_⟩
      rw [ab_up_s]
      by_cases e : v = j
      · rw [e, pk_us]
      · rw [pk_un (by omega)]; exact hq.2 v (by omega)
  refine a_iconst (v := 0) B dX2_plan_0 (by decide) ?_
  refine a_istore B dX2_plan_1 (by decide) ?_
  exact l3 10 0 rfl mu ⟨fun _ _ _ => rfl, fun v hv => by omega⟩
abbrev rm_X2_costFrom : Room := { frames := 0, cells := 0, slots := 0, locals := 0 }
set_option maxRecDepth 20000 in
theorem us_X2_costFrom_2 : ∀ w ∈ u_ws RX2 TX2 2, w ∈ wsX2_costFrom := by decide +kernel
set_option maxRecDepth 20000 in
theorem fl_X2_costFrom_9 : FL RX2 wsX2_costFrom 9 2 0 := ⟨RX2, TX2, 2, rfl, by decide, us_X2_costFrom_2, by decide +kernel⟩

set_option maxHeartbeats 4000000 in
set_option maxRecDepth 100000 in
theorem c_X2_costFrom {l : Launch} {V : ab_V} {mu : ab_mem} {h v : Nat} (hV : OKX V) (hh : h < 25) (hv : v < 10) : CT l V ShX yX2_costFrom wsX2_costFrom rm_X2_costFrom [.ref (aL V 14), .int (nI h), .int (nI v)] mu (pI (fun r mu2 => r = mu 15 (10 * h + v) ∧ mu = mu2)) := by
  refine ab_enter hV.1 (by decide) rfl (Nat.le_of_ble_eq_true rfl) ?_
  intro X B E
  have B : CX X l rm_X2_costFrom RX2 cX2_costFrom wsX2_costFrom 3 V ShX := B
  show AW X V ShX 3 0 [some (.ref (aL V 14)), some (.int (nI h)), some (.int (nI v))] [] mu
  refine a_aload_n B dX2_costFrom_0 rfl ?_
  refine a_getr B fl_X2_costFrom_9 (by first | rfl | assumption) rfl dX2_costFrom_1 ?_
  refine a_iload_n B dX2_costFrom_4 rfl ?_
  refine a_bipush (v := 10) B dX2_costFrom_5 (by decide) ?_
  refine a_imul B dX2_costFrom_7 ?_
  refine a_iload_n B dX2_costFrom_8 rfl ?_
  refine a_iadd B dX2_costFrom_9 ?_
  refine a_ialdN B (10 * h + v) (by first | rfl | assumption) (ix10r h v) (by omega) (by decide) dX2_costFrom_10 ?_
  refine a_ireturn B E dX2_costFrom_11 ?_
  exact ⟨rfl, rfl⟩
abbrev rm_X2_dishAfter : Room := { frames := 1, cells := 0, slots := 0, locals := 23 }
set_option maxRecDepth 20000 in
theorem us_X2_dishAfter_2 : ∀ w ∈ u_ws RX2 TX2 2, w ∈ wsX2_dishAfter := by decide +kernel
set_option maxRecDepth 20000 in
theorem fl_X2_dishAfter_15 : FL RX2 wsX2_dishAfter 15 2 1 := ⟨RX2, TX2, 2, rfl, by decide, us_X2_dishAfter_2, by decide +kernel⟩
theorem k_X2_dishAfter_27 : KV RX2 wsX2_dishAfter rm_X2_dishAfter 27 RX3 yX3_levelAfter wsX3_levelAfter rm_X3_levelAfter 2 := ⟨_, _, _, _, gX2_dishAfter_X3_levelAfter, rfl, rfl, rfl, by decide +kernel, by decide⟩

set_option maxHeartbeats 4000000 in
set_option maxRecDepth 100000 in
theorem c_X2_dishAfter {l : Launch} {V : ab_V} {mu : ab_mem} {x : Int32} {fr to v0 n : Nat} (hV : OKX V) (hft : fr ≤ to) (hto : to < 24) (hn : n < to + 1 - fr) (hv0 : v0 ≤ 9) (hr : ∀ h, fr ≤ h → h ≤ to → ∀ v, v < 10 → mu 16 (10 * h + v) = nI (qB (mu 5) (mu 6) (mu 4 2) (mu 4 3) (mu 4 4) x to (to - h) v)) : CT l V ShX yX2_dishAfter wsX2_dishAfter rm_X2_dishAfter [.ref (aL V 14), .ref (aL V 4), .int (nI fr), .int (nI v0), .int (nI n)] mu (pI (fun r mu2 => r = nI (qB (mu 5) (mu 6) (mu 4 2) (mu 4 3) (mu 4 4) x to (to + 1 - fr - 1 - n) (qP (mu 5) (mu 6) (mu 4 2) (mu 4 3) (mu 4 4) x to (to + 1 - fr) v0 n)) ∧ mu = mu2)) := by
  refine ab_enter hV.1 (by decide) rfl (Nat.le_of_ble_eq_true rfl) ?_
  intro X B E
  have B : CX X l rm_X2_dishAfter RX2 cX2_dishAfter wsX2_dishAfter 7 V ShX := B
  show AW X V ShX 7 0 [some (.ref (aL V 14)), some (.ref (aL V 4)), some (.int (nI fr)), some (.int (nI v0)), some (.int (nI n)), none, none] [] mu
  have loop : ∀ (m j : Nat), j + m = n → (qP (mu 5) (mu 6) (mu 4 2) (mu 4 3) (mu 4 4) x to (to + 1 - fr) v0 j) ≤ 9 → AW X V ShX 7 6 [some (.ref (aL V 14)), some (.ref (aL V 4)), some (.int (nI fr)), some (.int (nI v0)), some (.int (nI n)), some (.int (nI (qP (mu 5) (mu 6) (mu 4 2) (mu 4 3) (mu 4 4) x to (to + 1 - fr) v0 j))), some (.int (nI (fr + j)))] [] mu := by
    intro m
    induction m with
    | zero =>
      intro j hj hP
      refine a_iload B dX2_dishAfter_6 rfl ?_
      refine a_iload_n B dX2_dishAfter_8 rfl ?_
      refine a_iload B dX2_dishAfter_9 rfl ?_
      refine a_iadd B dX2_dishAfter_11 ?_
      refine a_icmp_ge_t (tgt := 42) B dX2_dishAfter_12 (by decide) (by rw [nI_add]; exact nI_le (by omega) (by omega)) ?_
      refine a_aload_n B dX2_dishAfter_42 rfl ?_
      refine a_getr B fl_X2_dishAfter_15 (by first | rfl | assumption) rfl dX2_dishAfter_43 ?_
      refine a_iload_n B dX2_dishAfter_46 rfl ?_
      refine a_iload B dX2_dishAfter_47 rfl ?_
      refine a_iadd B dX2_dishAfter_49 ?_
      refine a_bipush (v := 10) B dX2_dishAfter_50 (by decide) ?_
      refine a_imul B dX2_dishAfter_52 ?_
      refine a_iload B dX2_dishAfter_53 rfl ?_
      refine a_iadd B dX2_dishAfter_55 ?_
      rw [nI_add]
      refine a_ialdN B (10 * (fr + n) + (qP (mu 5) (mu 6) (mu 4 2) (mu 4 3) (mu 4 4) x to (to + 1 - fr) v0 j)) (by first | rfl | assumption) (ix10r (fr + n) _) (by omega) (by decide) dX2_dishAfter_56 ?_
      refine a_ireturn B E dX2_dishAfter_57 ?_
      refine ⟨?_, rfl⟩
      have ej : j = n := by omega
      subst ej
      rw [hr (fr + j) (by omega) (by omega) _ (by omega), show to - (fr + j) = to + 1 - fr - 1 - j by omega]
    | succ m ih =>
      intro j hj hP
      refine a_iload B dX2_dishAfter_6 rfl ?_
      refine a_iload_n B dX2_dishAfter_8 rfl ?_
      refine a_iload B dX2_dishAfter_9 rfl ?_
      refine a_iadd B dX2_dishAfter_11 ?_
      refine a_icmp_ge_f (tgt := 42) B dX2_dishAfter_12 (by decide) (by rw [nI_add]; exact nI_ge (by omega) (by omega)) ?_
      refine a_aload_n B dX2_dishAfter_15 rfl ?_
      refine a_iload B dX2_dishAfter_16 rfl ?_
      refine a_aload_n B dX2_dishAfter_18 rfl ?_
      refine a_getr B fl_X2_dishAfter_15 (by first | rfl | assumption) rfl dX2_dishAfter_19 ?_
      refine a_iload B dX2_dishAfter_22 rfl ?_
      refine a_bipush (v := 10) B dX2_dishAfter_24 (by decide) ?_
      refine a_imul B dX2_dishAfter_26 ?_
      refine a_iload B dX2_dishAfter_27 rfl ?_
      refine a_iadd B dX2_dishAfter_29 ?_
      refine a_ialdN B (10 * (fr + j) + (qP (mu 5) (mu 6) (mu 4 2) (mu 4 3) (mu 4 4) x to (to + 1 - fr) v0 j)) (by first | rfl | assumption) (ix10r (fr + j) _) (by omega) (by decide) dX2_dishAfter_30 ?_
      rw [hr (fr + j) (by omega) (by omega) _ (by omega), show to - (fr + j) = to + 1 - fr - 1 - j by omega]
      refine a_callVi B k_X2_dishAfter_27 (c_X3_levelAfter hV (vp_in_nI (bdF_lt _ _ 7 (by decide)) (by decide))) (by first | rfl | assumption) rfl rfl rfl (Nat.le_of_ble_eq_true rfl) dX2_dishAfter_31 (fun r31 mu31 h31 => ?_)
      obtain ⟨rfl, rfl⟩ := h31
      rw [(qN_ok (mu 5) _ _).2]
      refine a_istore B dX2_dishAfter_34 (by decide) ?_
      refine a_iinc (v := 1) B dX2_dishAfter_36 rfl (by decide) (by decide) ?_
      refine a_goto (tgt := 6) B dX2_dishAfter_39 (by decide) ?_
      rw [nI_1]
      exact ih (j + 1) (by omega) (qN_ok _ _ _).1
  refine a_iload_n B dX2_dishAfter_0 rfl ?_
  refine a_istore B dX2_dishAfter_1 (by decide) ?_
  refine a_iload_n B dX2_dishAfter_3 rfl ?_
  refine a_istore B dX2_dishAfter_4 (by decide) ?_
  exact loop n 0 (by omega) hv0
def lvX (mu : ab_mem) (g h : Nat) : Nat := (lX mu g 0 99 h).toNatClampNeg
theorem lvX_ok {mu : ab_mem} (i : IX mu) {g : Nat} (hg : g < 3) (h : Nat) : lvX mu g h ≤ 9 ∧ lX mu g 0 99 h = nI (lvX mu g h) := by
  obtain ⟨c, hc, e⟩ := lvB_nI (e := mu 5) (dX mu g 0 99) (i.2.1 g hg) h
  have e' : lX mu g 0 99 h = nI c := e
  unfold lvX
  rw [e', nI_clamp (by omega)]
  exact ⟨hc, rfl⟩
/-- levelAhead of a day just laid -/
theorem c_ahead {l : Launch} {V : ab_V} {mu mu1 : ab_mem} {g h : Nat} (hV : OKX V) (hi : IX mu) (hg : g < 3) (hh : h < 24) (hD : DY mu g mu1) : CT l V ShX yX0_levelAhead wsX0_levelAhead rm_X0_levelAhead [.ref (aL V (25 + 3 * g)), .int (nI h)] mu1 (pI (fun r mu2 => r = nI (lvX mu g h) ∧ mu1 = mu2)) := by
  cases h with
  | zero =>
    have z := c_X0_levelAhead_0 (l := l) (mu := mu1) hV (DL_g hg)
    rw [hD.2.2.2.1, show mu (19 + 2 * g) 3 = nI (lvX mu g 0) from (lvX_ok hi hg 0).2] at z
    exact z
  | succ h =>
    have z := c_X0_levelAhead_s (l := l) (mu := mu1) (h := h) hV (DL_g hg) (by omega)
    rw [hD.2.2.1 h (by omega), (lvX_ok hi hg (h + 1)).2] at z
    exact z
abbrev rm_X7_quiet : Room := { frames := 5, cells := 0, slots := 0, locals := 120 }
set_option maxRecDepth 20000 in
theorem us_X7_quiet_7 : ∀ w ∈ u_ws RX7 TX7 9, w ∈ wsX7_quiet := by decide +kernel
set_option maxRecDepth 20000 in
theorem fl_X7_quiet_30 : FL RX7 wsX7_quiet 30 7 3 := ⟨RX7, TX7, 9, rfl, by decide, us_X7_quiet_7, by decide +kernel⟩
set_option maxRecDepth 20000 in
theorem fl_X7_quiet_49 : FL RX7 wsX7_quiet 49 7 6 := ⟨RX7, TX7, 9, rfl, by decide, us_X7_quiet_7, by decide +kernel⟩
theorem k_X7_quiet_70 : KS RX7 wsX7_quiet rm_X7_quiet 70 yX7_within wsX7_within rm_X7_within 3 := ⟨_, _, _, _, gX7_quiet_X7_within, rfl, rfl, rfl, by decide +kernel, by decide⟩
theorem k_X7_quiet_127 : KS RX7 wsX7_quiet rm_X7_quiet 127 yX7_isHour wsX7_isHour rm_X7_isHour 1 := ⟨_, _, _, _, gX7_quiet_X7_isHour, rfl, rfl, rfl, by decide +kernel, by decide⟩
theorem k_X7_quiet_130 : KV RX7 wsX7_quiet rm_X7_quiet 130 RX7 yX7_dayOf wsX7_dayOf rm_X7_dayOf 1 := ⟨_, _, _, _, gX7_quiet_X7_dayOf, rfl, rfl, rfl, by decide +kernel, by decide⟩
theorem k_X7_quiet_140 : KV RX7 wsX7_quiet rm_X7_quiet 140 RX7 yX7_hoursOf wsX7_hoursOf rm_X7_hoursOf 1 := ⟨_, _, _, _, gX7_quiet_X7_hoursOf, rfl, rfl, rfl, by decide +kernel, by decide⟩
theorem k_X7_quiet_156 : KV RX7 wsX7_quiet rm_X7_quiet 156 RX0 yX0_levelAhead wsX0_levelAhead rm_X0_levelAhead 1 := ⟨_, _, _, _, gX7_quiet_X0_levelAhead, rfl, rfl, rfl, by decide +kernel, by decide⟩
theorem k_X7_quiet_172 : KS RX7 wsX7_quiet rm_X7_quiet 172 yX7_isSide wsX7_isSide rm_X7_isSide 1 := ⟨_, _, _, _, gX7_quiet_X7_isSide, rfl, rfl, rfl, by decide +kernel, by decide⟩
theorem k_X7_quiet_175 : KV RX7 wsX7_quiet rm_X7_quiet 175 RX2 yX2_plan wsX2_plan rm_X2_plan 4 := ⟨_, _, _, _, gX7_quiet_X2_plan, rfl, rfl, rfl, by decide +kernel, by decide⟩
theorem k_X7_quiet_179 : KV RX7 wsX7_quiet rm_X7_quiet 179 RX2 yX2_costFrom wsX2_costFrom rm_X2_costFrom 2 := ⟨_, _, _, _, gX7_quiet_X2_costFrom, rfl, rfl, rfl, by decide +kernel, by decide⟩
theorem k_X7_quiet_184 : KV RX7 wsX7_quiet rm_X7_quiet 184 RX2 yX2_dishAfter wsX2_dishAfter rm_X2_dishAfter 4 := ⟨_, _, _, _, gX7_quiet_X2_dishAfter, rfl, rfl, rfl, by decide +kernel, by decide⟩

set_option maxHeartbeats 4000000 in
set_option maxRecDepth 100000 in
theorem c_X7_quiet {l : Launch} {V : ab_V} {mu : ab_mem} {g fr to : Nat} {i : Int32} (hV : OKX V) (hi : IX mu) (hg : g < 2) (hft : fr ≤ to) (hto : to < 24) (hii : i = -1 ∨ ∃ ii, ii < to + 1 - fr ∧ i = nI ii) : CT l V ShX yX7_quiet wsX7_quiet rm_X7_quiet [.ref (aL V 0), .int (nI g), .int (nI fr), .int (nI to), .int i] mu (pI (fun r mu2 => r = qR (mu 5) (mu 6) (mu 4 2) (mu 4 3) (mu 4 4) (bX mu (1 - g) 0 99 24) to (to + 1 - fr) (lvX mu g fr) i ∧ pX mu2 = pX mu)) := by
  refine ab_enter hV.1 (by decide) rfl (Nat.le_of_ble_eq_true rfl) ?_
  intro X B E
  have B : CX X l rm_X7_quiet RX7 cX7_quiet wsX7_quiet 6 V ShX := B
  show AW X V ShX 6 0 [some (.ref (aL V 0)), some (.int (nI g)), some (.int (nI fr)), some (.int (nI to)), some (.int i), none] [] mu
  have hv9 := (lvX_ok hi (g := g) (by omega) fr).1
  have q5 := shD (DL_g (g := g) (by omega))
  refine a_iload_n B dX7_quiet_0 rfl ?_
  refine a_callSi B k_X7_quiet_172 (c_X7_isSide hV) rfl rfl (Nat.le_of_ble_eq_true rfl) dX7_quiet_1 (fun r1 mu1 h1 => ?_)
  obtain ⟨rfl, rfl⟩ := h1
  refine a_if_eq_f (tgt := 26) B dX7_quiet_4 (by decide) (bI_n0.mpr (inB_nI (n := 1) (by omega) (by decide))) ?_
  refine a_iload_n B dX7_quiet_7 rfl ?_
  refine a_callSi B k_X7_quiet_127 (c_X7_isHour hV) rfl rfl (Nat.le_of_ble_eq_true rfl) dX7_quiet_8 (fun r8 mu8 h8 => ?_)
  obtain ⟨rfl, rfl⟩ := h8
  refine a_if_eq_f (tgt := 26) B dX7_quiet_11 (by decide) (bI_n0.mpr (inB_nI (n := 23) (by omega) (by decide))) ?_
  refine a_iload_n B dX7_quiet_14 rfl ?_
  refine a_callSi B k_X7_quiet_127 (c_X7_isHour hV) rfl rfl (Nat.le_of_ble_eq_true rfl) dX7_quiet_15 (fun r15 mu15 h15 => ?_)
  obtain ⟨rfl, rfl⟩ := h15
  refine a_if_eq_f (tgt := 26) B dX7_quiet_18 (by decide) (bI_n0.mpr (inB_nI (n := 23) (by omega) (by decide))) ?_
  refine a_iload_n B dX7_quiet_21 rfl ?_
  refine a_iload_n B dX7_quiet_22 rfl ?_
  refine a_icmp_le_t (tgt := 29) B dX7_quiet_23 (by decide) (nI_le hft (by omega)) ?_
  refine a_iload B dX7_quiet_29 rfl ?_
  refine a_iconst (v := -1) B dX7_quiet_31 (by decide) ?_
  refine a_iload_n B dX7_quiet_32 rfl ?_
  refine a_iload_n B dX7_quiet_33 rfl ?_
  refine a_isub B dX7_quiet_34 ?_
  rw [pk_sub hft]
  refine a_callSi B k_X7_quiet_70 (c_X7_within hV) rfl rfl (Nat.le_of_ble_eq_true rfl) dX7_quiet_35 (fun r35 mu35 h35 => ?_)
  obtain ⟨rfl, rfl⟩ := h35
  refine a_if_ne_t (tgt := 44) B dX7_quiet_38 (by decide) (bI_n0.mpr (qi_in hft hto hii)) ?_
  refine a_aload_n B dX7_quiet_44 rfl ?_
  refine a_iload_n B dX7_quiet_45 rfl ?_
  refine a_callVr B k_X7_quiet_130 (c_X7_dayOf hV hi (by omega)) (by first | rfl | assumption) rfl rfl rfl (Nat.le_of_ble_eq_true rfl) dX7_quiet_46 (fun r46 mu46 h46 => ?_)
  obtain ⟨rfl, hD⟩ := h46
  refine a_iload_n B dX7_quiet_49 rfl ?_
  refine a_callVi B k_X7_quiet_156 (c_ahead hV hi (by omega) (by omega) hD) (by first | rfl | assumption) rfl rfl rfl (Nat.le_of_ble_eq_true rfl) dX7_quiet_50 (fun r50 mu50 h50 => ?_)
  obtain ⟨rfl, rfl⟩ := h50
  refine a_istore B dX7_quiet_53 (by decide) ?_
  refine a_aload_n B dX7_quiet_55 rfl ?_
  refine a_getr B fl_X7_quiet_49 (by first | rfl | assumption) rfl dX7_quiet_56 ?_
  refine a_aload_n B dX7_quiet_59 rfl ?_
  refine a_getr B fl_X7_quiet_30 (by first | rfl | assumption) rfl dX7_quiet_60 ?_
  refine a_aload_n B dX7_quiet_63 rfl ?_
  refine a_iconst (v := 1) B dX7_quiet_64 (by decide) ?_
  refine a_iload_n B dX7_quiet_65 rfl ?_
  refine a_isub B dX7_quiet_66 ?_
  rw [show (1 : Int32) - nI g = nI (1 - g) from pk_sub (a := 1) (by omega)]
  refine a_callVi B k_X7_quiet_140 (c_X7_hoursOf hV (IX_p hD.1 hi) (by omega)) (by first | rfl | assumption) rfl rfl rfl (Nat.le_of_ble_eq_true rfl) dX7_quiet_67 (fun r67 mu67 h67 => ?_)
  obtain ⟨rfl, hD2⟩ := h67
  rw [bX_p hD.1 (g := 1 - g) (by omega)]
  have hp := hD2.1.trans hD.1
  refine a_iload_n B dX7_quiet_70 rfl ?_
  refine a_iload_n B dX7_quiet_71 rfl ?_
  refine a_callVv B k_X7_quiet_175 (c_X2_plan hV hft hto) (by first | rfl | assumption) rfl rfl rfl (Nat.le_of_ble_eq_true rfl) dX7_quiet_72 (fun mu72 h72 => ?_)
  have hq15 : mu72 15 (10 * fr + lvX mu g fr) = qC (mu 5) (mu 6) (mu 4 2) (mu 4 3) (mu 4 4) (bX mu (1 - g) 0 99 24) to (to + 1 - fr) (lvX mu g fr) := by
    rw [h72.2.1 fr (Nat.le_refl _) (by omega) _ (by omega), cXq, pX_at hp 4 rfl, pX_at hp 5 rfl, pX_at hp 6 rfl]
  have hpp : pX mu72 = pX mu := (pX_of fun q hq2 => h72.1 q (sc_ne (a := 15) rfl hq2) (sc_ne (a := 16) rfl hq2)).trans hp
  refine a_aload_n B dX7_quiet_75 rfl ?_
  refine a_getr B fl_X7_quiet_49 (by first | rfl | assumption) rfl dX7_quiet_76 ?_
  refine a_iload_n B dX7_quiet_79 rfl ?_
  refine a_iload B dX7_quiet_80 rfl ?_
  refine a_callVi B k_X7_quiet_179 (c_X2_costFrom hV (by omega) (by omega)) (by first | rfl | assumption) rfl rfl rfl (Nat.le_of_ble_eq_true rfl) dX7_quiet_82 (fun r82 mu82 h82 => ?_)
  obtain ⟨rfl, rfl⟩ := h82
  rw [hq15]
  refine a_ldc (v := 1000000) B (by decide +kernel) dX7_quiet_85 ?_
  refine a_icmp_lt (tgt := 92) B dX7_quiet_87 (by decide) (fun c87 => ?_) (fun c87 => ?_)
  · refine a_iload B dX7_quiet_92 rfl ?_
    refine a_iconst (v := -1) B dX7_quiet_94 (by decide) ?_
    refine a_icmp_ne (tgt := 109) B dX7_quiet_95 (by decide) (fun c95 => ?_) (fun c95 => ?_)
    · refine a_aload_n B dX7_quiet_109 rfl ?_
      refine a_getr B fl_X7_quiet_49 (by first | rfl | assumption) rfl dX7_quiet_110 ?_
      refine a_aload_n B dX7_quiet_113 rfl ?_
      refine a_getr B fl_X7_quiet_30 (by first | rfl | assumption) rfl dX7_quiet_114 ?_
      refine a_iload_n B dX7_quiet_117 rfl ?_
      refine a_iload B dX7_quiet_118 rfl ?_
      refine a_iload B dX7_quiet_120 rfl ?_
      obtain ⟨ii, hi3, ei⟩ : ∃ ii, ii < to + 1 - fr ∧ i = nI ii := hii.resolve_left c95
      subst ei
      refine a_callVi B k_X7_quiet_184 (c_X2_dishAfter (x := bX mu (1 - g) 0 99 24) hV hft hto hi3 (by omega) (fun h ha hb v hv => by rw [h72.2.2 h ha hb v hv, bXq, pX_at hp 4 rfl, pX_at hp 5 rfl, pX_at hp 6 rfl, h72.1 4 (by decide) (by decide), h72.1 5 (by decide) (by decide), h72.1 6 (by decide) (by decide), pX_at hp 4 rfl, pX_at hp 5 rfl, pX_at hp 6 rfl])) (by first | rfl | assumption) rfl rfl rfl (Nat.le_of_ble_eq_true rfl) dX7_quiet_122 (fun r122 mu122 h122 => ?_)
      obtain ⟨rfl, rfl⟩ := h122
      rw [pX_at hpp 4 rfl, pX_at hpp 5 rfl, pX_at hpp 6 rfl]
      refine a_ireturn B E dX7_quiet_125 ?_
      refine ⟨?_, hpp⟩
      rw [qR, if_neg (Int32.not_le.mpr c87), if_neg c95, nI_clamp (by omega)]
    · refine a_aload_n B dX7_quiet_98 rfl ?_
      refine a_getr B fl_X7_quiet_49 (by first | rfl | assumption) rfl dX7_quiet_99 ?_
      refine a_iload_n B dX7_quiet_102 rfl ?_
      refine a_iload B dX7_quiet_103 rfl ?_
      refine a_callVi B k_X7_quiet_179 (c_X2_costFrom hV (by omega) (by omega)) (by first | rfl | assumption) rfl rfl rfl (Nat.le_of_ble_eq_true rfl) dX7_quiet_105 (fun r105 mu105 h105 => ?_)
      obtain ⟨rfl, rfl⟩ := h105
      rw [hq15]
      refine a_ireturn B E dX7_quiet_108 ?_
      refine ⟨?_, hpp⟩
      rw [qR, if_neg (Int32.not_le.mpr c87), if_pos c95]
  · refine a_iconst (v := -1) B dX7_quiet_90 (by decide) ?_
    refine a_ireturn B E dX7_quiet_91 ?_
    refine ⟨?_, hpp⟩
    rw [qR, if_pos (Int32.not_lt.mp c87)]
set_option maxHeartbeats 4000000 in
set_option maxRecDepth 100000 in
theorem c_X7_quiet_bad {l : Launch} {V : ab_V} {mu : ab_mem} {a b c i : Int32} (hV : OKX V) (hbad : ¬ (inB a 0 1 = true ∧ inB b 0 23 = true ∧ inB c 0 23 = true ∧ b ≤ c ∧ inB i (-1) (c - b) = true)) : CT l V ShX yX7_quiet wsX7_quiet rm_X7_quiet [.ref (aL V 0), .int a, .int b, .int c, .int i] mu (pI (fun r mu2 => r = -2 ∧ mu = mu2)) := by
  refine ab_enter hV.1 (by decide) rfl (Nat.le_of_ble_eq_true rfl) ?_
  intro X B E
  have B : CX X l rm_X7_quiet RX7 cX7_quiet wsX7_quiet 6 V ShX := B
  show AW X V ShX 6 0 [some (.ref (aL V 0)), some (.int a), some (.int b), some (.int c), some (.int i), none] [] mu
  refine a_iload_n B dX7_quiet_0 rfl ?_
  refine a_callSi B k_X7_quiet_172 (c_X7_isSide hV) rfl rfl (Nat.le_of_ble_eq_true rfl) dX7_quiet_1 (fun r1 mu1 h1 => ?_)
  obtain ⟨rfl, rfl⟩ := h1
  refine a_if_eq (tgt := 26) B dX7_quiet_4 (by decide) (fun c4 => ?_) (fun c4 => ?_)
  · refine a_bipush (v := -2) B dX7_quiet_26 (by decide) ?_
    refine a_ireturn B E dX7_quiet_28 ?_
    exact ⟨rfl, rfl⟩
  · refine a_iload_n B dX7_quiet_7 rfl ?_
    refine a_callSi B k_X7_quiet_127 (c_X7_isHour hV) rfl rfl (Nat.le_of_ble_eq_true rfl) dX7_quiet_8 (fun r8 mu8 h8 => ?_)
    obtain ⟨rfl, rfl⟩ := h8
    refine a_if_eq (tgt := 26) B dX7_quiet_11 (by decide) (fun c11 => ?_) (fun c11 => ?_)
    · refine a_bipush (v := -2) B dX7_quiet_26 (by decide) ?_
      refine a_ireturn B E dX7_quiet_28 ?_
      exact ⟨rfl, rfl⟩
    · refine a_iload_n B dX7_quiet_14 rfl ?_
      refine a_callSi B k_X7_quiet_127 (c_X7_isHour hV) rfl rfl (Nat.le_of_ble_eq_true rfl) dX7_quiet_15 (fun r15 mu15 h15 => ?_)
      obtain ⟨rfl, rfl⟩ := h15
      refine a_if_eq (tgt := 26) B dX7_quiet_18 (by decide) (fun c18 => ?_) (fun c18 => ?_)
      · refine a_bipush (v := -2) B dX7_quiet_26 (by decide) ?_
        refine a_ireturn B E dX7_quiet_28 ?_
        exact ⟨rfl, rfl⟩
      · refine a_iload_n B dX7_quiet_21 rfl ?_
        refine a_iload_n B dX7_quiet_22 rfl ?_
        refine a_icmp_le (tgt := 29) B dX7_quiet_23 (by decide) (fun c23 => ?_) (fun c23 => ?_)
        · refine a_iload B dX7_quiet_29 rfl ?_
          refine a_iconst (v := -1) B dX7_quiet_31 (by decide) ?_
          refine a_iload_n B dX7_quiet_32 rfl ?_
          refine a_iload_n B dX7_quiet_33 rfl ?_
          refine a_isub B dX7_quiet_34 ?_
          refine a_callSi B k_X7_quiet_70 (c_X7_within hV) rfl rfl (Nat.le_of_ble_eq_true rfl) dX7_quiet_35 (fun r35 mu35 h35 => ?_)
          obtain ⟨rfl, rfl⟩ := h35
          refine a_if_ne (tgt := 44) B dX7_quiet_38 (by decide) (fun c38 => ?_) (fun c38 => ?_)
          · exfalso
            simp_all [bI_0, bI_n0]
          · refine a_bipush (v := -2) B dX7_quiet_41 (by decide) ?_
            refine a_ireturn B E dX7_quiet_43 ?_
            exact ⟨rfl, rfl⟩
        · refine a_bipush (v := -2) B dX7_quiet_26 (by decide) ?_
          refine a_ireturn B E dX7_quiet_28 ?_
          exact ⟨rfl, rfl⟩
