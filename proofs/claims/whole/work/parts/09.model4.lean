def chB (l d : Int32) : Int32 := if d = 5 then 0 else l
def chM (mu : ab_mem) (g h : Nat) : Int32 := chB (lM mu g 0 99 (h + 1)) (dM mu g 0 99 h)
theorem chM_p {mu mu2 : ab_mem} (h : pM mu2 = pM mu) : chM mu2 = chM mu := by
  show chM (pM mu2) = chM (pM mu)
  rw [h]
theorem nxt_nI (e : Nat → Int32) (v d : Int32) : ∃ c, c ≤ 9 ∧ nxt e v d = nI c := by
  unfold nxt
  split
  · exact ⟨0, by decide, rfl⟩
  · split
    · exact ⟨9, by decide, rfl⟩
    · rename_i h1 h2
      exact nI_of2 (M := 9) (n := 9) (by decide) h1 (by rw [fa_le]; rw [fa_lt] at h2; omega)
theorem lvB_nI {e : Nat → Int32} {c : Int32} (d : Nat → Int32) (hc : ∃ k, k ≤ 9 ∧ c = nI k) (h : Nat) : ∃ k, k ≤ 9 ∧ lvB e c d h = nI k := by
  cases h with
  | zero => exact hc
  | succ h => exact nxt_nI _ _ _
def cN (mu : ab_mem) (g h : Nat) : Nat := (chM mu g h).toNatClampNeg
theorem cN_nI (mu : ab_mem) (g h : Nat) : cN mu g h ≤ 9 ∧ chM mu g h = nI (cN mu g h) := by
  have : ∃ k, k ≤ 9 ∧ chM mu g h = nI k := by
    unfold chM chB
    split
    · exact ⟨0, by decide, rfl⟩
    · exact nxt_nI _ _ _
  obtain ⟨k, hk, e⟩ := this
  unfold cN
  rw [e, nI_clamp (by omega)]
  exact ⟨hk, rfl⟩

abbrev rm_X8_sixteenths : Room := { frames := 0, cells := 0, slots := 0, locals := 0 }
set_option maxRecDepth 20000 in
theorem us_X8_sixteenths_8 : ∀ w ∈ u_ws RX8 TX8 23, w ∈ wsX8_sixteenths := by decide +kernel
set_option maxRecDepth 20000 in
theorem fl_X8_sixteenths_25 : FL RX8 wsX8_sixteenths 25 8 8 := ⟨RX8, TX8, 23, rfl, by decide, us_X8_sixteenths_8, by decide +kernel⟩
set_option maxRecDepth 20000 in
theorem fl_X8_sixteenths_28 : FL RX8 wsX8_sixteenths 28 8 9 := ⟨RX8, TX8, 23, rfl, by decide, us_X8_sixteenths_8, by decide +kernel⟩

set_option maxHeartbeats 4000000 in
set_option maxRecDepth 100000 in
theorem c_X8_sixteenths {l : Launch} {V : ab_V} {mu : ab_mem} {g h : Nat} (hV : ab_OK V ShM) (hg : g < 3) (hh : h < 24) : CT l V ShM yX8_sixteenths wsX8_sixteenths rm_X8_sixteenths [.ref (aL V 0), .int (nI g), .int (nI h)] mu (pI (fun r mu2 => r = chB (mu 7 (24 * g + h)) (mu 6 (24 * g + h)) ∧ mu = mu2)) := by
  refine ab_enter hV (by decide) rfl (Nat.le_of_ble_eq_true rfl) ?_
  intro X B E
  have B : CX X l rm_X8_sixteenths RX8 cX8_sixteenths wsX8_sixteenths 3 V ShM := B
  show AW X V ShM 3 0 [some (.ref (aL V 0)), some (.int (nI g)), some (.int (nI h))] [] mu
  refine a_aload_n B dX8_sixteenths_0 rfl ?_
  refine a_getr B fl_X8_sixteenths_25 (by first | rfl | assumption) rfl dX8_sixteenths_1 ?_
  refine a_bipush (v := 24) B dX8_sixteenths_4 (by decide) ?_
  refine a_iload_n B dX8_sixteenths_6 rfl ?_
  refine a_imul B dX8_sixteenths_7 ?_
  refine a_iload_n B dX8_sixteenths_8 rfl ?_
  refine a_iadd B dX8_sixteenths_9 ?_
  refine a_ialdN B (24 * g + h) (by first | rfl | assumption) (ix24 g h) (by omega) (by decide) dX8_sixteenths_10 ?_
  refine a_iconst (v := 5) B dX8_sixteenths_11 (by decide) ?_
  refine a_icmp_ne (tgt := 19) B dX8_sixteenths_12 (by decide) (fun c12 => ?_) (fun c12 => ?_)
  · refine a_aload_n B dX8_sixteenths_19 rfl ?_
    refine a_getr B fl_X8_sixteenths_28 (by first | rfl | assumption) rfl dX8_sixteenths_20 ?_
    refine a_bipush (v := 24) B dX8_sixteenths_23 (by decide) ?_
    refine a_iload_n B dX8_sixteenths_25 rfl ?_
    refine a_imul B dX8_sixteenths_26 ?_
    refine a_iload_n B dX8_sixteenths_27 rfl ?_
    refine a_iadd B dX8_sixteenths_28 ?_
    refine a_ialdN B (24 * g + h) (by first | rfl | assumption) (ix24 g h) (by omega) (by decide) dX8_sixteenths_29 ?_
    refine a_ireturn B E dX8_sixteenths_30 ?_
    refine ⟨?_, rfl⟩
    rw [chB]
    first | rw [if_pos c12] | rw [if_neg c12]
  · refine a_iconst (v := 0) B dX8_sixteenths_15 (by decide) ?_
    refine a_goto (tgt := 30) B dX8_sixteenths_16 (by decide) ?_
    refine a_ireturn B E dX8_sixteenths_30 ?_
    refine ⟨?_, rfl⟩
    rw [chB]
    first | rw [if_pos c12] | rw [if_neg c12]
theorem lcmp0 {b : Nat} (h : b < 2 ^ 63) : lg_cmp (lN b) 0 = 0 ↔ b = 0 := by
  have e : (0 : Int64) = lN 0 := rfl
  rw [e]
  unfold lg_cmp
  constructor
  · intro q
    by_cases hb : b = 0
    · exact hb
    · rw [if_pos ((pk_lLT (by decide) h).mpr (by omega))] at q
      exact absurd q (by decide)
  · intro q
    subst q
    decide
abbrev rm_X8_lowest : Room := { frames := 0, cells := 0, slots := 0, locals := 0 }

set_option maxHeartbeats 4000000 in
set_option maxRecDepth 100000 in
theorem c_X8_lowest {l : Launch} {V : ab_V} {mu : ab_mem} {a b : Nat} {w : Int32} (hV : ab_OK V ShM) (ha : 0 < a) (ha2 : a < 2 ^ 63) (hb : b < 2 ^ 63) : CT l V ShM yX8_lowest wsX8_lowest rm_X8_lowest [.long (lN a), .long (lN b), .int w] mu (pL (fun r mu2 => r = (if w = 0 then lN (a / Nat.gcd a b) else lN (b / Nat.gcd a b)) ∧ mu = mu2)) := by
  refine ab_enter hV (by decide) rfl (Nat.le_of_ble_eq_true rfl) ?_
  intro X B E
  have B : CX X l rm_X8_lowest RX8 cX8_lowest wsX8_lowest 11 V ShM := B
  show AW X V ShM 11 0 [some (.long (lN a)), none, some (.long (lN b)), none, some (.int w), none, none, none, none, none, none] [] mu
  have hG : 0 < Nat.gcd a b := Nat.gcd_pos_of_pos_left b ha
  have hG2 : Nat.gcd a b < 2 ^ 63 := Nat.lt_of_le_of_lt (Nat.gcd_le_left b ha) ha2
  have loop : ∀ (y x : Nat), x < 2 ^ 63 → y < 2 ^ 63 → Nat.gcd x y = Nat.gcd a b → AW X V ShM 11 6 [some (.long (lN a)), none, some (.long (lN b)), none, some (.int w), some (.long (lN x)), none, some (.long (lN y)), none, none, none] [] mu := by
    intro y
    induction y using Nat.strongRecOn with
    | ind y ih =>
    intro x hx2 hy2 hgc
    by_cases hy : y = 0
    · skip
      refine a_lload B dX8_lowest_6 rfl ?_
      refine a_lconst (v := 0) B dX8_lowest_8 (by decide) ?_
      refine a_lcmp B dX8_lowest_9 ?_
      refine a_if_eq_t (tgt := 31) B dX8_lowest_10 (by decide) ((lcmp0 hy2).mpr hy) ?_
      subst hy
      rw [Nat.gcd_zero_right] at hgc
      subst hgc
      have hne : ¬ lN (a.gcd b) = 0 := fun q => absurd ((pk_lEQ (b := 0) hG2 (by decide)).mp q) (by omega)
      refine a_iload B dX8_lowest_31 rfl ?_
      refine a_if_ne (tgt := 43) B dX8_lowest_33 (by decide) (fun c33 => ?_) (fun c33 => ?_)
      · refine a_lload_n B dX8_lowest_43 rfl ?_
        refine a_lload B dX8_lowest_44 rfl ?_
        refine a_ldiv B dX8_lowest_46 hne ?_
        refine a_lreturn B E dX8_lowest_47 ?_
        refine ⟨?_, rfl⟩
        first | rw [if_pos c33, pk_lDiv ha2 hG hG2] | rw [if_neg c33, pk_lDiv hb hG hG2]
      · refine a_lload_n B dX8_lowest_36 rfl ?_
        refine a_lload B dX8_lowest_37 rfl ?_
        refine a_ldiv B dX8_lowest_39 hne ?_
        refine a_goto (tgt := 47) B dX8_lowest_40 (by decide) ?_
        refine a_lreturn B E dX8_lowest_47 ?_
        refine ⟨?_, rfl⟩
        first | rw [if_pos c33, pk_lDiv ha2 hG hG2] | rw [if_neg c33, pk_lDiv hb hG hG2]
    · skip
      refine a_lload B dX8_lowest_6 rfl ?_
      refine a_lconst (v := 0) B dX8_lowest_8 (by decide) ?_
      refine a_lcmp B dX8_lowest_9 ?_
      refine a_if_eq_f (tgt := 31) B dX8_lowest_10 (by decide) (fun q => hy ((lcmp0 hy2).mp q)) ?_
      refine a_lload B dX8_lowest_13 rfl ?_
      refine a_lload B dX8_lowest_15 rfl ?_
      refine a_lrem B dX8_lowest_17 (fun q => hy ((pk_lEQ (b := 0) hy2 (by decide)).mp q)) ?_
      rw [pk_lRem hx2 (by omega) hy2]
      refine a_lstore B dX8_lowest_18 (by decide) ?_
      refine a_lload B dX8_lowest_20 rfl ?_
      refine a_lstore B dX8_lowest_22 (by decide) ?_
      refine a_lload B dX8_lowest_24 rfl ?_
      refine a_lstore B dX8_lowest_26 (by decide) ?_
      refine a_goto (tgt := 6) B dX8_lowest_28 (by decide) ?_
      refine a_fg 9 ?_
      have hm := Nat.mod_lt x (by omega : y > 0)
      exact ih (x % y) hm y hy2 (by omega) (by rw [← hgc, Nat.gcd_comm x y, Nat.gcd_rec y x, Nat.gcd_comm])
  refine a_lload_n B dX8_lowest_0 rfl ?_
  refine a_lstore B dX8_lowest_1 (by decide) ?_
  refine a_lload_n B dX8_lowest_3 rfl ?_
  refine a_lstore B dX8_lowest_4 (by decide) ?_
  exact loop b a ha2 hb rfl
def oT (mu : ab_mem) (h : Nat) : Nat → Nat
  | 0 => 1
  | k + 1 => oT mu h k * (256 - cN mu 0 (h + k) * cN mu 1 (h + k))
theorem oT_b (mu : ab_mem) (h k : Nat) : 0 < oT mu h k ∧ oT mu h k ≤ 256 ^ k := by
  induction k with
  | zero => exact ⟨Nat.zero_lt_one, Nat.le_refl 1⟩
  | succ k ih =>
    have h1 := (cN_nI mu 0 (h + k)).1
    have h2 := (cN_nI mu 1 (h + k)).1
    have h3 : cN mu 0 (h + k) * cN mu 1 (h + k) ≤ 81 := Nat.mul_le_mul h1 h2
    rw [oT, Nat.pow_succ]
    exact ⟨Nat.mul_pos ih.1 (by omega), Nat.mul_le_mul ih.2 (by omega)⟩
theorem pow256 {n : Nat} (h : n ≤ 7) : 256 ^ n < 2 ^ 63 := by
  have : 256 ^ n ≤ 256 ^ 7 := Nat.pow_le_pow_right (by decide) h
  have : 256 ^ 7 < 2 ^ 63 := by decide
  omega
theorem odd_f {a b : Nat} (ha : a ≤ 9) (hb : b ≤ 9) : ((256 : Int32) - nI a * nI b).toInt64 = lN (256 - a * b) := by
  have h3 : a * b ≤ 81 := Nat.mul_le_mul ha hb
  show (nI 256 - nI a * nI b).toInt64 = _
  rw [pk_mul, pk_sub (by omega), nI_l (by omega)]
def odR (t b : Nat) (w : Int32) : Int64 := if w = 0 then lN (t / Nat.gcd t b) else lN (b / Nat.gcd t b)
abbrev rm_X8_oddsOf : Room := { frames := 5, cells := 0, slots := 0, locals := 112 }
theorem k_X8_oddsOf_119 : KV RX8 wsX8_oddsOf rm_X8_oddsOf 119 RX8 yX8_laysAll wsX8_laysAll rm_X8_laysAll 0 := ⟨_, _, _, _, gX8_oddsOf_X8_laysAll, rfl, rfl, rfl, by decide +kernel, by decide⟩
theorem k_X8_oddsOf_151 : KV RX8 wsX8_oddsOf rm_X8_oddsOf 151 RX8 yX8_sixteenths wsX8_sixteenths rm_X8_sixteenths 2 := ⟨_, _, _, _, gX8_oddsOf_X8_sixteenths, rfl, rfl, rfl, by decide +kernel, by decide⟩
theorem k_X8_oddsOf_156 : KS RX8 wsX8_oddsOf rm_X8_oddsOf 156 yX8_lowest wsX8_lowest rm_X8_lowest 3 := ⟨_, _, _, _, gX8_oddsOf_X8_lowest, rfl, rfl, rfl, by decide +kernel, by decide⟩

set_option maxHeartbeats 4000000 in
set_option maxRecDepth 100000 in
theorem c_X8_oddsOf {l : Launch} {V : ab_V} {mu : ab_mem} {h n : Nat} {w : Int32} (hV : ab_OK V ShM) (hi : IM mu) (hn : n ≤ 7) (hh : h + n ≤ 24) : CT l V ShM yX8_oddsOf wsX8_oddsOf rm_X8_oddsOf [.ref (aL V 0), .int (nI h), .int (nI n), .int w] mu (pL (fun r mu2 => r = odR (oT mu h n) (256 ^ n) w ∧ pM mu2 = pM mu)) := by
  refine ab_enter hV (by decide) rfl (Nat.le_of_ble_eq_true rfl) ?_
  intro X B E
  have B : CX X l rm_X8_oddsOf RX8 cX8_oddsOf wsX8_oddsOf 9 V ShM := B
  show AW X V ShM 9 0 [some (.ref (aL V 0)), some (.int (nI h)), some (.int (nI n)), some (.int w), none, none, none, none, none] [] mu
  have loop : ∀ (mu1 : ab_mem), LA mu mu1 → ∀ (m k : Nat), k + m = n → AW X V ShM 9 13 [some (.ref (aL V 0)), some (.int (nI h)), some (.int (nI n)), some (.int w), some (.long (lN (oT mu h k))), none, some (.long (lN (256 ^ k))), none, some (.int (nI (h + k)))] [] mu1 := by
    intro mu1 h1 m
    induction m with
    | zero =>
      intro k hk
      refine a_iload B dX8_oddsOf_13 rfl ?_
      refine a_iload_n B dX8_oddsOf_15 rfl ?_
      refine a_iload_n B dX8_oddsOf_16 rfl ?_
      refine a_iadd B dX8_oddsOf_17 ?_
      refine a_icmp_ge_t (tgt := 60) B dX8_oddsOf_18 (by decide) (by rw [nI_add]; exact nI_le (by omega) (by omega)) ?_
      refine a_lload B dX8_oddsOf_60 rfl ?_
      refine a_lload B dX8_oddsOf_62 rfl ?_
      refine a_iload_n B dX8_oddsOf_64 rfl ?_
      refine a_callSl B k_X8_oddsOf_156 (c_X8_lowest hV (oT_b mu h k).1 (by have := (oT_b mu h k).2; have := pow256 (n := k) (by omega); omega) (pow256 (by omega))) rfl rfl (Nat.le_of_ble_eq_true rfl) dX8_oddsOf_65 (fun r65 mu65 h65 => ?_)
      refine a_lreturn B E dX8_oddsOf_68 ?_
      obtain ⟨e, rfl⟩ := h65
      have ek : k = n := by omega
      subst ek
      exact ⟨e, h1.1⟩
    | succ m ih =>
      intro k hk
      refine a_iload B dX8_oddsOf_13 rfl ?_
      refine a_iload_n B dX8_oddsOf_15 rfl ?_
      refine a_iload_n B dX8_oddsOf_16 rfl ?_
      refine a_iadd B dX8_oddsOf_17 ?_
      refine a_icmp_ge_f (tgt := 60) B dX8_oddsOf_18 (by decide) (by rw [nI_add]; exact nI_ge (by omega) (by omega)) ?_
      refine a_lload B dX8_oddsOf_21 rfl ?_
      refine a_sipush (v := 256) B dX8_oddsOf_23 (by decide) ?_
      refine a_aload_n B dX8_oddsOf_26 rfl ?_
      refine a_iconst (v := 0) B dX8_oddsOf_27 (by decide) ?_
      refine a_iload B dX8_oddsOf_28 rfl ?_
      refine a_callVi B k_X8_oddsOf_151 (c_X8_sixteenths (g := 0) hV (by decide) (by omega)) (by first | rfl | assumption) rfl rfl rfl (Nat.le_of_ble_eq_true rfl) dX8_oddsOf_30 (fun r30 mu30 h30 => ?_)
      obtain ⟨rfl, rfl⟩ := h30
      rw [show chB (mu1 7 (24 * 0 + (h + k))) (mu1 6 (24 * 0 + (h + k))) = nI (cN mu 0 (h + k)) by rw [(h1.2 0 (by decide)).2.1 (h + k) (by omega), (h1.2 0 (by decide)).1 (h + k) (by omega)]; exact (cN_nI mu 0 (h + k)).2]
      refine a_aload_n B dX8_oddsOf_33 rfl ?_
      refine a_iconst (v := 1) B dX8_oddsOf_34 (by decide) ?_
      refine a_iload B dX8_oddsOf_35 rfl ?_
      refine a_callVi B k_X8_oddsOf_151 (c_X8_sixteenths (g := 1) hV (by decide) (by omega)) (by first | rfl | assumption) rfl rfl rfl (Nat.le_of_ble_eq_true rfl) dX8_oddsOf_37 (fun r37 mu37 h37 => ?_)
      obtain ⟨rfl, rfl⟩ := h37
      rw [show chB (mu1 7 (24 * 1 + (h + k))) (mu1 6 (24 * 1 + (h + k))) = nI (cN mu 1 (h + k)) by rw [(h1.2 1 (by decide)).2.1 (h + k) (by omega), (h1.2 1 (by decide)).1 (h + k) (by omega)]; exact (cN_nI mu 1 (h + k)).2]
      refine a_imul B dX8_oddsOf_40 ?_
      refine a_isub B dX8_oddsOf_41 ?_
      refine a_i2l B dX8_oddsOf_42 ?_
      rw [odd_f (cN_nI mu 0 (h + k)).1 (cN_nI mu 1 (h + k)).1]
      refine a_lmul B dX8_oddsOf_43 ?_
      rw [lN_mul]
      refine a_lstore B dX8_oddsOf_44 (by decide) ?_
      refine a_lload B dX8_oddsOf_46 rfl ?_
      refine a_ldc2 (v := 256) B (by decide +kernel) dX8_oddsOf_48 ?_
      refine a_lmul B dX8_oddsOf_51 ?_
      rw [show lN (256 ^ k) * 256 = lN (256 ^ (k + 1)) by rw [Nat.pow_succ]; exact lN_mul _ 256]
      refine a_lstore B dX8_oddsOf_52 (by decide) ?_
      refine a_iinc (v := 1) B dX8_oddsOf_54 rfl (by decide) (by decide) ?_
      refine a_goto (tgt := 13) B dX8_oddsOf_57 (by decide) ?_
      rw [nI_1]
      exact ih (k + 1) (by omega)
  refine a_aload_n B dX8_oddsOf_0 rfl ?_
  refine a_callVv B k_X8_oddsOf_119 (c_X8_laysAll hV hi) (by first | rfl | assumption) rfl rfl rfl (Nat.le_of_ble_eq_true rfl) dX8_oddsOf_1 (fun mu1 h1 => ?_)
  refine a_lconst (v := 1) B dX8_oddsOf_4 (by decide) ?_
  refine a_lstore B dX8_oddsOf_5 (by decide) ?_
  refine a_lconst (v := 1) B dX8_oddsOf_7 (by decide) ?_
  refine a_lstore B dX8_oddsOf_8 (by decide) ?_
  refine a_iload_n B dX8_oddsOf_10 rfl ?_
  refine a_istore B dX8_oddsOf_11 (by decide) ?_
  have loop := loop mu1 h1
  exact loop n 0 (by omega)
abbrev rm_X8_odds : Room := { frames := 6, cells := 0, slots := 0, locals := 140 }
theorem k_X8_odds_71 : KS RX8 wsX8_odds rm_X8_odds 71 yX8_in wsX8_in rm_X8_in 3 := ⟨_, _, _, _, gX8_odds_X8_in, rfl, rfl, rfl, by decide +kernel, by decide⟩
theorem k_X8_odds_122 : KS RX8 wsX8_odds rm_X8_odds 122 yX8_isHour wsX8_isHour rm_X8_isHour 1 := ⟨_, _, _, _, gX8_odds_X8_isHour, rfl, rfl, rfl, by decide +kernel, by decide⟩
theorem k_X8_odds_160 : KV RX8 wsX8_odds rm_X8_odds 160 RX8 yX8_oddsOf wsX8_oddsOf rm_X8_oddsOf 3 := ⟨_, _, _, _, gX8_odds_X8_oddsOf, rfl, rfl, rfl, by decide +kernel, by decide⟩
theorem k_X8_odds_164 : KS RX8 wsX8_odds rm_X8_odds 164 yX8_no wsX8_no rm_X8_no 1 := ⟨_, _, _, _, gX8_odds_X8_no, rfl, rfl, rfl, by decide +kernel, by decide⟩

set_option maxHeartbeats 4000000 in
set_option maxRecDepth 100000 in
theorem c_X8_odds {l : Launch} {V : ab_V} {mu : ab_mem} {h n : Nat} {w : Int32} (hV : ab_OK V ShM) (hi : IM mu) (hh0 : h < 24) (hn : n ≤ 7) (hh : h + n ≤ 24) (hw : inB w 0 1 = true) : CT l V ShM yX8_odds wsX8_odds rm_X8_odds [.ref (aL V 0), .int (nI h), .int (nI n), .int w] mu (pL (fun r mu2 => r = odR (oT mu h n) (256 ^ n) w ∧ pM mu2 = pM mu)) := by
  refine ab_enter hV (by decide) rfl (Nat.le_of_ble_eq_true rfl) ?_
  intro X B E
  have B : CX X l rm_X8_odds RX8 cX8_odds wsX8_odds 4 V ShM := B
  show AW X V ShM 4 0 [some (.ref (aL V 0)), some (.int (nI h)), some (.int (nI n)), some (.int w)] [] mu
  refine a_iload_n B dX8_odds_0 rfl ?_
  refine a_callSi B k_X8_odds_122 (c_X8_isHour hV) rfl rfl (Nat.le_of_ble_eq_true rfl) dX8_odds_1 (fun r1 mu1 h1 => ?_)
  obtain ⟨rfl, rfl⟩ := h1
  refine a_if_eq_f (tgt := 44) B dX8_odds_4 (by decide) (bI_n0.mpr (inB_nI (n := 23) (by omega) (by decide))) ?_
  refine a_iload_n B dX8_odds_7 rfl ?_
  refine a_iconst (v := 0) B dX8_odds_8 (by decide) ?_
  refine a_bipush (v := 7) B dX8_odds_9 (by decide) ?_
  refine a_callSi B k_X8_odds_71 (c_X8_in hV) rfl rfl (Nat.le_of_ble_eq_true rfl) dX8_odds_11 (fun r11 mu11 h11 => ?_)
  obtain ⟨rfl, rfl⟩ := h11
  refine a_if_eq_f (tgt := 44) B dX8_odds_14 (by decide) (bI_n0.mpr (inB_nI (n := 7) (by omega) (by decide))) ?_
  refine a_iload_n B dX8_odds_17 rfl ?_
  refine a_iload_n B dX8_odds_18 rfl ?_
  refine a_iadd B dX8_odds_19 ?_
  refine a_bipush (v := 24) B dX8_odds_20 (by decide) ?_
  refine a_icmp_gt_f (tgt := 44) B dX8_odds_22 (by decide) (by rw [nI_add]; exact nI_nlt (a := 24) (b := h + n) (by omega) (by decide)) ?_
  refine a_iload_n B dX8_odds_25 rfl ?_
  refine a_iconst (v := 0) B dX8_odds_26 (by decide) ?_
  refine a_iconst (v := 1) B dX8_odds_27 (by decide) ?_
  refine a_callSi B k_X8_odds_71 (c_X8_in hV) rfl rfl (Nat.le_of_ble_eq_true rfl) dX8_odds_28 (fun r28 mu28 h28 => ?_)
  obtain ⟨rfl, rfl⟩ := h28
  refine a_if_eq_f (tgt := 44) B dX8_odds_31 (by decide) (bI_n0.mpr hw) ?_
  refine a_aload_n B dX8_odds_34 rfl ?_
  refine a_iload_n B dX8_odds_35 rfl ?_
  refine a_iload_n B dX8_odds_36 rfl ?_
  refine a_iload_n B dX8_odds_37 rfl ?_
  refine a_callVl B k_X8_odds_160 (c_X8_oddsOf hV hi hn hh) (by first | rfl | assumption) rfl rfl rfl (Nat.le_of_ble_eq_true rfl) dX8_odds_38 (fun r38 mu38 h38 => ?_)
  refine a_goto (tgt := 49) B dX8_odds_41 (by decide) ?_
  refine a_lreturn B E dX8_odds_49 ?_
  exact h38
set_option maxHeartbeats 4000000 in
set_option maxRecDepth 100000 in
theorem c_X8_odds_bad {l : Launch} {V : ab_V} {mu : ab_mem} {a b w : Int32} (hV : ab_OK V ShM) (hbad : ¬ (inB a 0 23 = true ∧ inB b 0 7 = true ∧ ¬ 24 < a + b ∧ inB w 0 1 = true)) : CT l V ShM yX8_odds wsX8_odds rm_X8_odds [.ref (aL V 0), .int a, .int b, .int w] mu (pL (fun r mu2 => r = -9223372036854775806 ∧ mu = mu2)) := by
  refine ab_enter hV (by decide) rfl (Nat.le_of_ble_eq_true rfl) ?_
  intro X B E
  have B : CX X l rm_X8_odds RX8 cX8_odds wsX8_odds 4 V ShM := B
  show AW X V ShM 4 0 [some (.ref (aL V 0)), some (.int a), some (.int b), some (.int w)] [] mu
  refine a_iload_n B dX8_odds_0 rfl ?_
  refine a_callSi B k_X8_odds_122 (c_X8_isHour hV) rfl rfl (Nat.le_of_ble_eq_true rfl) dX8_odds_1 (fun r1 mu1 h1 => ?_)
  obtain ⟨rfl, rfl⟩ := h1
  refine a_if_eq (tgt := 44) B dX8_odds_4 (by decide) (fun c4 => ?_) (fun c4 => ?_)
  · refine a_bipush (v := -2) B dX8_odds_44 (by decide) ?_
    refine a_callSl B k_X8_odds_164 (c_X8_no hV) rfl rfl (Nat.le_of_ble_eq_true rfl) dX8_odds_46 (fun r46 mu46 h46 => ?_)
    obtain ⟨rfl, rfl⟩ := h46
    refine a_lreturn B E dX8_odds_49 ?_
    exact ⟨rfl, rfl⟩
  · refine a_iload_n B dX8_odds_7 rfl ?_
    refine a_iconst (v := 0) B dX8_odds_8 (by decide) ?_
    refine a_bipush (v := 7) B dX8_odds_9 (by decide) ?_
    refine a_callSi B k_X8_odds_71 (c_X8_in hV) rfl rfl (Nat.le_of_ble_eq_true rfl) dX8_odds_11 (fun r11 mu11 h11 => ?_)
    obtain ⟨rfl, rfl⟩ := h11
    refine a_if_eq (tgt := 44) B dX8_odds_14 (by decide) (fun c14 => ?_) (fun c14 => ?_)
    · refine a_bipush (v := -2) B dX8_odds_44 (by decide) ?_
      refine a_callSl B k_X8_odds_164 (c_X8_no hV) rfl rfl (Nat.le_of_ble_eq_true rfl) dX8_odds_46 (fun r46 mu46 h46 => ?_)
      obtain ⟨rfl, rfl⟩ := h46
      refine a_lreturn B E dX8_odds_49 ?_
      exact ⟨rfl, rfl⟩
    · refine a_iload_n B dX8_odds_17 rfl ?_
      refine a_iload_n B dX8_odds_18 rfl ?_
      refine a_iadd B dX8_odds_19 ?_
      refine a_bipush (v := 24) B dX8_odds_20 (by decide) ?_
      refine a_icmp_gt (tgt := 44) B dX8_odds_22 (by decide) (fun c22 => ?_) (fun c22 => ?_)
      · refine a_bipush (v := -2) B dX8_odds_44 (by decide) ?_
        refine a_callSl B k_X8_odds_164 (c_X8_no hV) rfl rfl (Nat.le_of_ble_eq_true rfl) dX8_odds_46 (fun r46 mu46 h46 => ?_)
        obtain ⟨rfl, rfl⟩ := h46
        refine a_lreturn B E dX8_odds_49 ?_
        exact ⟨rfl, rfl⟩
      · refine a_iload_n B dX8_odds_25 rfl ?_
        refine a_iconst (v := 0) B dX8_odds_26 (by decide) ?_
        refine a_iconst (v := 1) B dX8_odds_27 (by decide) ?_
        refine a_callSi B k_X8_odds_71 (c_X8_in hV) rfl rfl (Nat.le_of_ble_eq_true rfl) dX8_odds_28 (fun r28 mu28 h28 => ?_)
        obtain ⟨rfl, rfl⟩ := h28
        refine a_if_eq (tgt := 44) B dX8_odds_31 (by decide) (fun c31 => ?_) (fun c31 => ?_)
        · refine a_bipush (v := -2) B dX8_odds_44 (by decide) ?_
          refine a_callSl B k_X8_odds_164 (c_X8_no hV) rfl rfl (Nat.le_of_ble_eq_true rfl) dX8_odds_46 (fun r46 mu46 h46 => ?_)
          obtain ⟨rfl, rfl⟩ := h46
          refine a_lreturn B E dX8_odds_49 ?_
          exact ⟨rfl, rfl⟩
        · exfalso
          simp_all [bI_0, bI_n0]
def lcg (x : Int32) : Int32 := 1103515245 * x + 12345
def lotF (x : Int32) : Int32 := (x.toUInt32 >>> ((16 : Int32).toUInt32 &&& Int32.toUInt32 31)).toInt32 - (x.toUInt32 >>> ((16 : Int32).toUInt32 &&& Int32.toUInt32 31)).toInt32 / 16 * 16
def hdI (gen : Nat) (c : Int32) (j : Nat) (s : Int32 × Int32) : Nat → Int32 × Int32
  | 0 => s
  | k + 1 => (lcg (hdI gen c j s k).1, (hdI gen c j s k).2 ||| (if k = gen ∧ lotF (lcg (hdI gen c j s k).1) < c then 1 <<< (nI j &&& 31) else 0))
def hdS (gen : Nat) (ch : Nat → Int32) (seed : Int32) : Nat → Int32 × Int32
  | 0 => (seed, 0)
  | j + 1 => hdI gen (ch j) j (hdS gen ch seed j) 3
abbrev rm_X8_heardOf : Room := { frames := 5, cells := 0, slots := 0, locals := 112 }
theorem k_X8_heardOf_119 : KV RX8 wsX8_heardOf rm_X8_heardOf 119 RX8 yX8_laysAll wsX8_laysAll rm_X8_laysAll 0 := ⟨_, _, _, _, gX8_heardOf_X8_laysAll, rfl, rfl, rfl, by decide +kernel, by decide⟩
theorem k_X8_heardOf_151 : KV RX8 wsX8_heardOf rm_X8_heardOf 151 RX8 yX8_sixteenths wsX8_sixteenths rm_X8_sixteenths 2 := ⟨_, _, _, _, gX8_heardOf_X8_sixteenths, rfl, rfl, rfl, by decide +kernel, by decide⟩

set_option maxHeartbeats 4000000 in
set_option maxRecDepth 100000 in
theorem c_X8_heardOf {l : Launch} {V : ab_V} {mu : ab_mem} {g : Nat} {sd : Int32} (hV : ab_OK V ShM) (hi : IM mu) (hg : g < 3) : CT l V ShM yX8_heardOf wsX8_heardOf rm_X8_heardOf [.ref (aL V 0), .int (nI g), .int sd] mu (pI (fun r mu2 => r = (hdS g (chM mu g) sd 24).2 ∧ pM mu2 = pM mu)) := by
  refine ab_enter hV (by decide) rfl (Nat.le_of_ble_eq_true rfl) ?_
  intro X B E
  have B : CX X l rm_X8_heardOf RX8 cX8_heardOf wsX8_heardOf 7 V ShM := B
  show AW X V ShM 7 0 [some (.ref (aL V 0)), some (.int (nI g)), some (.int sd), none, none, none, none] [] mu
  have loop : ∀ (mu1 : ab_mem), LA mu mu1 → ∀ (m j : Nat), j + m = 24 → AW X V ShM 7 12 [some (.ref (aL V 0)), some (.int (nI g)), some (.int sd), some (.int (hdS g (chM mu g) sd j).1), some (.int (hdS g (chM mu g) sd j).2), some (.int (nI j)), none] [] mu1 := by
    intro mu1 h1 m
    induction m with
    | zero =>
      intro j hj
      have e : j = 24 := by omega
      subst e
      refine a_iload B dX8_heardOf_12 rfl ?_
      refine a_bipush (v := 24) B dX8_heardOf_14 (by decide) ?_
      refine a_icmp_ge_t (tgt := 86) B dX8_heardOf_16 (by decide) (by decide) ?_
      refine a_iload B dX8_heardOf_86 rfl ?_
      refine a_ireturn B E dX8_heardOf_88 ?_
      exact ⟨rfl, h1.1⟩
    | succ m ih =>
      intro j hj
      have inn : ∀ (m2 k : Nat), k + m2 = 3 → AW X V ShM 7 22 [some (.ref (aL V 0)), some (.int (nI g)), some (.int sd), some (.int (hdI g (chM mu g j) j (hdS g (chM mu g) sd j) k).1), some (.int (hdI g (chM mu g j) j (hdS g (chM mu g) sd j) k).2), some (.int (nI j)), some (.int (nI k))] [] mu1 := by
        intro m2
        induction m2 with
        | zero =>
          intro k hk
          have e : k = 3 := by omega
          subst e
          refine a_iload B dX8_heardOf_22 rfl ?_
          refine a_iconst (v := 3) B dX8_heardOf_24 (by decide) ?_
          refine a_icmp_ge_t (tgt := 80) B dX8_heardOf_25 (by decide) (by decide) ?_
          refine a_iinc (v := 1) B dX8_heardOf_80 rfl (by decide) (by decide) ?_
          refine a_goto (tgt := 12) B dX8_heardOf_83 (by decide) ?_
          refine a_fg 6 ?_
          rw [nI_1]
          exact ih (j + 1) (by omega)
        | succ m2 ih2 =>
          intro k hk
          have t71 : ∀ x : Int32, x = (if k = g ∧ lotF (lcg (hdI g (chM mu g j) j (hdS g (chM mu g) sd j) k).1) < chM mu g j then 1 <<< (nI j &&& 31) else 0) → AW X V ShM 7 71 [some (.ref (aL V 0)), some (.int (nI g)), some (.int sd), some (.int (lcg (hdI g (chM mu g j) j (hdS g (chM mu g) sd j) k).1)), some (.int (hdI g (chM mu g j) j (hdS g (chM mu g) sd j) k).2), some (.int (nI j)), some (.int (nI k))] [.int x, .int (hdI g (chM mu g j) j (hdS g (chM mu g) sd j) k).2] mu1 := by
            intro x hx
            refine a_ior B dX8_heardOf_71 ?_
            refine a_istore B dX8_heardOf_72 (by decide) ?_
            refine a_iinc (v := 1) B dX8_heardOf_74 rfl (by decide) (by decide) ?_
            refine a_goto (tgt := 22) B dX8_heardOf_77 (by decide) ?_
            rw [nI_1]
            have e := ih2 (k + 1) (by omega)
            rw [hdI, ← hx] at e
            exact e
          refine a_iload B dX8_heardOf_22 rfl ?_
          refine a_iconst (v := 3) B dX8_heardOf_24 (by decide) ?_
          refine a_icmp_ge_f (tgt := 80) B dX8_heardOf_25 (by decide) (nI_ge (a := k) (b := 3) (by omega) (by decide)) ?_
          refine a_ldc (v := 1103515245) B (by decide +kernel) dX8_heardOf_28 ?_
          refine a_iload_n B dX8_heardOf_30 rfl ?_
          refine a_imul B dX8_heardOf_31 ?_
          refine a_sipush (v := 12345) B dX8_heardOf_32 (by decide) ?_
          refine a_iadd B dX8_heardOf_35 ?_
          refine a_istore_n B dX8_heardOf_36 (by decide) ?_
          refine a_iload B dX8_heardOf_37 rfl ?_
          refine a_iload B dX8_heardOf_39 rfl ?_
          refine a_iload_n B dX8_heardOf_41 rfl ?_
          refine a_icmp_ne (tgt := 70) B dX8_heardOf_42 (by decide) (fun c42 => ?_) (fun c42 => ?_)
          · refine a_iconst (v := 0) B dX8_heardOf_70 (by decide) ?_
            have ek : ∀ q : Prop, (nI k = nI g → q) ↔ (k = g → q) := fun q => by rw [nI_eq (by omega) (by omega)]
            first
              | exact t71 _ (by rw [if_neg (fun q => c42 (by rw [q.1]))])
              | (have e := (nI_eq (by omega) (by omega)).mp c42
                 subst e
                 rw [(h1.2 k (by omega)).2.1 j (by omega), (h1.2 k (by omega)).1 j (by omega)] at c60
                 first
                   | exact t71 _ (by rw [if_neg (fun q => absurd c60 (Int32.not_le.mpr q.2))])
                   | exact t71 _ (by rw [if_pos ⟨rfl, Int32.not_le.mp c60⟩]))
          · refine a_iload_n B dX8_heardOf_45 rfl ?_
            refine a_bipush (v := 16) B dX8_heardOf_46 (by decide) ?_
            refine a_iushr B dX8_heardOf_48 ?_
            refine a_bipush (v := 16) B dX8_heardOf_49 (by decide) ?_
            refine a_irem B dX8_heardOf_51 (by decide) ?_
            refine a_aload_n B dX8_heardOf_52 rfl ?_
            refine a_iload B dX8_heardOf_53 rfl ?_
            refine a_iload B dX8_heardOf_55 rfl ?_
            refine a_callVi B k_X8_heardOf_151 (c_X8_sixteenths hV (by omega) (by omega)) (by first | rfl | assumption) rfl rfl rfl (Nat.le_of_ble_eq_true rfl) dX8_heardOf_57 (fun r57 mu57 h57 => ?_)
            obtain ⟨rfl, rfl⟩ := h57
            refine a_icmp_ge (tgt := 70) B dX8_heardOf_60 (by decide) (fun c60 => ?_) (fun c60 => ?_)
            · refine a_iconst (v := 0) B dX8_heardOf_70 (by decide) ?_
              have ek : ∀ q : Prop, (nI k = nI g → q) ↔ (k = g → q) := fun q => by rw [nI_eq (by omega) (by omega)]
              first
                | exact t71 _ (by rw [if_neg (fun q => c42 (by rw [q.1]))])
                | (have e := (nI_eq (by omega) (by omega)).mp c42
                   subst e
                   rw [(h1.2 k (by omega)).2.1 j (by omega), (h1.2 k (by omega)).1 j (by omega)] at c60
                   first
                     | exact t71 _ (by rw [if_neg (fun q => absurd c60 (Int32.not_le.mpr q.2))])
                     | exact t71 _ (by rw [if_pos ⟨rfl, Int32.not_le.mp c60⟩]))
            · refine a_iconst (v := 1) B dX8_heardOf_63 (by decide) ?_
              refine a_iload B dX8_heardOf_64 rfl ?_
              refine a_ishl B dX8_heardOf_66 ?_
              refine a_goto (tgt := 71) B dX8_heardOf_67 (by decide) ?_
              have ek : ∀ q : Prop, (nI k = nI g → q) ↔ (k = g → q) := fun q => by rw [nI_eq (by omega) (by omega)]
              first
                | exact t71 _ (by rw [if_neg (fun q => c42 (by rw [q.1]))])
                | (have e := (nI_eq (by omega) (by omega)).mp c42
                   subst e
                   rw [(h1.2 k (by omega)).2.1 j (by omega), (h1.2 k (by omega)).1 j (by omega)] at c60
                   first
                     | exact t71 _ (by rw [if_neg (fun q => absurd c60 (Int32.not_le.mpr q.2))])
                     | exact t71 _ (by rw [if_pos ⟨rfl, Int32.not_le.mp c60⟩]))
      refine a_iload B dX8_heardOf_12 rfl ?_
      refine a_bipush (v := 24) B dX8_heardOf_14 (by decide) ?_
      refine a_icmp_ge_f (tgt := 86) B dX8_heardOf_16 (by decide) (nI_ge (a := j) (b := 24) (by omega) (by decide)) ?_
      refine a_iconst (v := 0) B dX8_heardOf_19 (by decide) ?_
      refine a_istore B dX8_heardOf_20 (by decide) ?_
      exact inn 3 0 rfl
  refine a_aload_n B dX8_heardOf_0 rfl ?_
  refine a_callVv B k_X8_heardOf_119 (c_X8_laysAll hV hi) (by first | rfl | assumption) rfl rfl rfl (Nat.le_of_ble_eq_true rfl) dX8_heardOf_1 (fun mu1 h1 => ?_)
  refine a_iload_n B dX8_heardOf_4 rfl ?_
  refine a_istore_n B dX8_heardOf_5 (by decide) ?_
  refine a_iconst (v := 0) B dX8_heardOf_6 (by decide) ?_
  refine a_istore B dX8_heardOf_7 (by decide) ?_
  refine a_iconst (v := 0) B dX8_heardOf_9 (by decide) ?_
  refine a_istore B dX8_heardOf_10 (by decide) ?_
  have loop := loop mu1 h1
  exact loop 24 0 rfl
abbrev rm_X8_heard : Room := { frames := 6, cells := 0, slots := 0, locals := 138 }
theorem k_X8_heard_75 : KS RX8 wsX8_heard rm_X8_heard 75 yX8_isGeneral wsX8_isGeneral rm_X8_isGeneral 1 := ⟨_, _, _, _, gX8_heard_X8_isGeneral, rfl, rfl, rfl, by decide +kernel, by decide⟩
theorem k_X8_heard_169 : KV RX8 wsX8_heard rm_X8_heard 169 RX8 yX8_heardOf wsX8_heardOf rm_X8_heardOf 2 := ⟨_, _, _, _, gX8_heard_X8_heardOf, rfl, rfl, rfl, by decide +kernel, by decide⟩

set_option maxHeartbeats 4000000 in
set_option maxRecDepth 100000 in
theorem c_X8_heard {l : Launch} {V : ab_V} {mu : ab_mem} {g : Nat} {sd : Int32} (hV : ab_OK V ShM) (hi : IM mu) (hg : g < 3) : CT l V ShM yX8_heard wsX8_heard rm_X8_heard [.ref (aL V 0), .int (nI g), .int sd] mu (pI (fun r mu2 => r = (hdS g (chM mu g) sd 24).2 ∧ pM mu2 = pM mu)) := by
  refine ab_enter hV (by decide) rfl (Nat.le_of_ble_eq_true rfl) ?_
  intro X B E
  have B : CX X l rm_X8_heard RX8 cX8_heard wsX8_heard 3 V ShM := B
  show AW X V ShM 3 0 [some (.ref (aL V 0)), some (.int (nI g)), some (.int sd)] [] mu
  refine a_iload_n B dX8_heard_0 rfl ?_
  refine a_callSi B k_X8_heard_75 (c_X8_isGeneral hV) rfl rfl (Nat.le_of_ble_eq_true rfl) dX8_heard_1 (fun r1 mu1 h1 => ?_)
  obtain ⟨rfl, rfl⟩ := h1
  refine a_if_eq_f (tgt := 16) B dX8_heard_4 (by decide) (bI_n0.mpr (inB_nI (n := 2) (by omega) (by decide))) ?_
  refine a_aload_n B dX8_heard_7 rfl ?_
  refine a_iload_n B dX8_heard_8 rfl ?_
  refine a_iload_n B dX8_heard_9 rfl ?_
  refine a_callVi B k_X8_heard_169 (c_X8_heardOf hV hi hg) (by first | rfl | assumption) rfl rfl rfl (Nat.le_of_ble_eq_true rfl) dX8_heard_10 (fun r10 mu10 h10 => ?_)
  refine a_goto (tgt := 18) B dX8_heard_13 (by decide) ?_
  refine a_ireturn B E dX8_heard_18 ?_
  exact h10
set_option maxHeartbeats 4000000 in
set_option maxRecDepth 100000 in
theorem c_X8_heard_bad {l : Launch} {V : ab_V} {mu : ab_mem} {a sd : Int32} (hV : ab_OK V ShM) (hbad : ¬ inB a 0 2 = true) : CT l V ShM yX8_heard wsX8_heard rm_X8_heard [.ref (aL V 0), .int a, .int sd] mu (pI (fun r mu2 => r = -2 ∧ mu = mu2)) := by
  refine ab_enter hV (by decide) rfl (Nat.le_of_ble_eq_true rfl) ?_
  intro X B E
  have B : CX X l rm_X8_heard RX8 cX8_heard wsX8_heard 3 V ShM := B
  show AW X V ShM 3 0 [some (.ref (aL V 0)), some (.int a), some (.int sd)] [] mu
  refine a_iload_n B dX8_heard_0 rfl ?_
  refine a_callSi B k_X8_heard_75 (c_X8_isGeneral hV) rfl rfl (Nat.le_of_ble_eq_true rfl) dX8_heard_1 (fun r1 mu1 h1 => ?_)
  obtain ⟨rfl, rfl⟩ := h1
  refine a_if_eq (tgt := 16) B dX8_heard_4 (by decide) (fun c4 => ?_) (fun c4 => ?_)
  · refine a_bipush (v := -2) B dX8_heard_16 (by decide) ?_
    refine a_ireturn B E dX8_heard_18 ?_
    exact ⟨rfl, rfl⟩
  · exfalso
    simp_all [bI_0, bI_n0]
