def chX (mu : ab_mem) (g h : Nat) : Int32 := chB (lX mu g 0 99 (h + 1)) (dX mu g 0 99 h)
def cNX (mu : ab_mem) (g h : Nat) : Nat := (chX mu g h).toNatClampNeg
theorem cNX_nI (mu : ab_mem) (g h : Nat) : cNX mu g h ≤ 9 ∧ chX mu g h = nI (cNX mu g h) := by
  have : ∃ k, k ≤ 9 ∧ chX mu g h = nI k := by
    unfold chX chB
    split
    · exact ⟨0, by decide, rfl⟩
    · exact nxt_nI _ _ _
  obtain ⟨k, hk, e⟩ := this
  unfold cNX
  rw [e, nI_clamp (by omega)]
  exact ⟨hk, rfl⟩
def oTX (mu : ab_mem) (h : Nat) : Nat → Nat
  | 0 => 1
  | k + 1 => oTX mu h k * (256 - cNX mu 0 (h + k) * cNX mu 1 (h + k))
theorem oTX_b (mu : ab_mem) (h k : Nat) : 0 < oTX mu h k ∧ oTX mu h k ≤ 256 ^ k := by
  induction k with
  | zero => exact ⟨Nat.zero_lt_one, Nat.le_refl 1⟩
  | succ k ih =>
    have h1 := (cNX_nI mu 0 (h + k)).1
    have h2 := (cNX_nI mu 1 (h + k)).1
    have h3 : cNX mu 0 (h + k) * cNX mu 1 (h + k) ≤ 81 := Nat.mul_le_mul h1 h2
    rw [oTX, Nat.pow_succ]
    exact ⟨Nat.mul_pos ih.1 (by omega), Nat.mul_le_mul ih.2 (by omega)⟩
theorem odd_gcd {a : Nat} (h : a % 2 = 1) : ∀ k, Nat.gcd a (2 ^ k) = 1 := by
  intro k
  induction k with
  | zero => exact Nat.gcd_one_right a
  | succ k ih =>
    have h1 := Nat.gcd_dvd_left a (2 ^ (k + 1))
    have h2 := Nat.gcd_dvd_right a (2 ^ (k + 1))
    obtain ⟨c, hc⟩ := h2
    obtain ⟨e, he⟩ := h1
    have hodd : Nat.gcd a (2 ^ (k + 1)) % 2 = 1 := by
      rcases (show Nat.gcd a (2 ^ (k + 1)) % 2 = 0 ∨ Nat.gcd a (2 ^ (k + 1)) % 2 = 1 by omega) with z | z
      · have : a % 2 = 0 := by rw [he, Nat.mul_mod, z, Nat.zero_mul, Nat.zero_mod]
        omega
      · exact z
    have hce : c % 2 = 0 := by
      rcases (show c % 2 = 0 ∨ c % 2 = 1 by omega) with z | z
      · exact z
      · have q : (2 ^ (k + 1)) % 2 = 1 := by rw [hc, Nat.mul_mod, hodd, z]
        rw [Nat.pow_succ, Nat.mul_mod_left] at q
        omega
    have hm : 2 ^ k = Nat.gcd a (2 ^ (k + 1)) * (c / 2) := by
      have q : 2 ^ k * 2 = Nat.gcd a (2 ^ (k + 1)) * (c / 2) * 2 := by
        rw [← Nat.pow_succ, Nat.mul_assoc, Nat.div_mul_cancel (Nat.dvd_of_mod_eq_zero hce)]
        exact hc
      omega
    have hd := Nat.dvd_gcd (Nat.gcd_dvd_left a (2 ^ (k + 1))) (⟨c / 2, hm⟩ : Nat.gcd a (2 ^ (k + 1)) ∣ 2 ^ k)
    rw [ih] at hd
    exact Nat.dvd_one.mp hd
theorem even_gcd {a k : Nat} (h : a % 2 = 0) : Nat.gcd a (2 ^ (k + 1)) = 2 * Nat.gcd (a / 2) (2 ^ k) := by
  have e : a = 2 * (a / 2) := by omega
  rw [Nat.pow_succ, Nat.mul_comm (2 ^ k) 2]
  rw [show Nat.gcd a (2 * 2 ^ k) = Nat.gcd (2 * (a / 2)) (2 * 2 ^ k) by rw [← e], Nat.gcd_mul_left]
theorem pow256_2 (n : Nat) : 256 ^ n = 2 ^ (8 * n) := by
  rw [Nat.pow_mul]
theorem lcmp_le {a : Nat} (h : a < 2 ^ 63) : lg_cmp (lN a) 1 ≤ 0 ↔ a ≤ 1 := by
  have e : (1 : Int64) = lN 1 := rfl
  rw [e]
  unfold lg_cmp
  by_cases h1 : 1 < a
  · rw [if_pos ((pk_lLT (by decide) h).mpr h1)]
    constructor
    · intro q; exact absurd q (by decide)
    · intro q; omega
  · rw [if_neg (fun q => h1 ((pk_lLT (by decide) h).mp q))]
    constructor
    · intro _; omega
    · intro _; split <;> decide
abbrev rm_X7_odds : Room := { frames := 3, cells := 0, slots := 0, locals := 68 }
theorem k_X7_odds_70 : KS RX7 wsX7_odds rm_X7_odds 70 yX7_within wsX7_within rm_X7_within 3 := ⟨_, _, _, _, gX7_odds_X7_within, rfl, rfl, rfl, by decide +kernel, by decide⟩
theorem k_X7_odds_127 : KS RX7 wsX7_odds rm_X7_odds 127 yX7_isHour wsX7_isHour rm_X7_isHour 1 := ⟨_, _, _, _, gX7_odds_X7_isHour, rfl, rfl, rfl, by decide +kernel, by decide⟩
theorem k_X7_odds_130 : KV RX7 wsX7_odds rm_X7_odds 130 RX7 yX7_dayOf wsX7_dayOf rm_X7_dayOf 1 := ⟨_, _, _, _, gX7_odds_X7_dayOf, rfl, rfl, rfl, by decide +kernel, by decide⟩
theorem k_X7_odds_164 : KV RX7 wsX7_odds rm_X7_odds 164 RX0 yX0_chanceAt wsX0_chanceAt rm_X0_chanceAt 1 := ⟨_, _, _, _, gX7_odds_X0_chanceAt, rfl, rfl, rfl, by decide +kernel, by decide⟩

set_option maxHeartbeats 4000000 in
set_option maxRecDepth 100000 in
theorem c_X7_odds {l : Launch} {V : ab_V} {mu : ab_mem} {h n : Nat} {w : Int32} (hV : OKX V) (hi : IX mu) (hh0 : h < 24) (hn : n ≤ 7) (hh : h + n ≤ 24) (hw : inB w 0 1 = true) : CT l V ShX yX7_odds wsX7_odds rm_X7_odds [.ref (aL V 0), .int (nI h), .int (nI n), .int w] mu (pL (fun r mu2 => r = odR (oTX mu h n) (256 ^ n) w ∧ pX mu2 = pX mu)) := by
  refine ab_enter hV.1 (by decide) rfl (Nat.le_of_ble_eq_true rfl) ?_
  intro X B E
  have B : CX X l rm_X7_odds RX7 cX7_odds wsX7_odds 11 V ShX := B
  show AW X V ShX 11 0 [some (.ref (aL V 0)), some (.int (nI h)), some (.int (nI n)), some (.int w), none, none, none, none, none, none, none] [] mu
  have main : ∀ muA mu1, DY mu 0 muA → DY muA 1 mu1 → AW X V ShX 11 61 [some (.ref (aL V 0)), some (.int (nI h)), some (.int (nI n)), some (.int w), some (.ref (aL V (25 + 3 * 0))), some (.ref (aL V (25 + 3 * 1))), some (.long 1), none, some (.long 1), none, some (.int (nI h))] [] mu1 := by
    intro muA mu1 hD0 hD1
    have hp : pX mu1 = pX mu := hD1.1.trans hD0.1
    have hc0 : ∀ h, h < 24 → chB (mu1 (25 + 3 * 0 + 2) h) (mu1 (25 + 3 * 0 + 1) h) = nI (cNX mu 0 h) := fun h hh => by
      rw [hD1.2.2.2.2 (25 + 3 * 0 + 2) (by decide) (by decide) (by decide), hD1.2.2.2.2 (25 + 3 * 0 + 1) (by decide) (by decide) (by decide), hD0.2.2.1 h hh, hD0.2.1 h hh]
      exact (cNX_nI mu 0 h).2
    have hc1 : ∀ h, h < 24 → chB (mu1 (25 + 3 * 1 + 2) h) (mu1 (25 + 3 * 1 + 1) h) = nI (cNX mu 1 h) := fun h hh => by
      rw [hD1.2.2.1 h hh, hD1.2.1 h hh, lX_p hD0.1 (by decide), dX_p hD0.1 (by decide)]
      exact (cNX_nI mu 1 h).2
    have fin : ∀ (a b : Nat) (x : Int32), a = oTX mu h n / Nat.gcd (oTX mu h n) (256 ^ n) → b = 256 ^ n / Nat.gcd (oTX mu h n) (256 ^ n) → AW X V ShX 11 153 [some (.ref (aL V 0)), some (.int (nI h)), some (.int (nI n)), some (.int w), some (.ref (aL V (25 + 3 * 0))), some (.ref (aL V (25 + 3 * 1))), some (.long (lN a)), none, some (.long (lN b)), none, some (.int x)] [] mu1 := by
      intro a b x hA hB
      refine a_iload_n B dX7_odds_153 rfl ?_
      refine a_if_ne (tgt := 162) B dX7_odds_154 (by decide) (fun c154 => ?_) (fun c154 => ?_)
      · refine a_lload B dX7_odds_162 rfl ?_
        refine a_lreturn B E dX7_odds_164 ?_
        refine ⟨?_, hp⟩
        rw [odR]
        first
          | (rw [if_pos c154, ← hA])
          | (rw [if_neg c154, ← hB])
      · refine a_lload B dX7_odds_157 rfl ?_
        refine a_goto (tgt := 164) B dX7_odds_159 (by decide) ?_
        refine a_lreturn B E dX7_odds_164 ?_
        refine ⟨?_, hp⟩
        rw [odR]
        first
          | (rw [if_pos c154, ← hA])
          | (rw [if_neg c154, ← hB])
    have hlv : ∀ (k c a : Nat), c + k = n * 8 → 0 < a → a < 2 ^ 63 → a / Nat.gcd a (2 ^ k) = oTX mu h n / Nat.gcd (oTX mu h n) (256 ^ n) → 2 ^ k / Nat.gcd a (2 ^ k) = 256 ^ n / Nat.gcd (oTX mu h n) (256 ^ n) → AW X V ShX 11 111 [some (.ref (aL V 0)), some (.int (nI h)), some (.int (nI n)), some (.int w), some (.ref (aL V (25 + 3 * 0))), some (.ref (aL V (25 + 3 * 1))), some (.long (lN a)), none, some (.long (lN (2 ^ k))), none, some (.int (nI c))] [] mu1 := by
      intro k
      induction k with
      | zero =>
        intro c a hck ha ha63 hA2 hB2
        refine a_iload B dX7_odds_111 rfl ?_
        refine a_iload_n B dX7_odds_113 rfl ?_
        refine a_bipush (v := 8) B dX7_odds_114 (by decide) ?_
        refine a_imul B dX7_odds_116 ?_
        rw [show nI n * 8 = nI (n * 8) from pk_mul n 8]
        refine a_icmp_ge_t (tgt := 153) B dX7_odds_117 (by decide) (nI_le (by omega) (by omega)) ?_
        exact fin _ _ _ (by rw [← hA2, Nat.gcd_one_right, Nat.div_one]) (by rw [← hB2, Nat.gcd_one_right])
      | succ k ih =>
        intro c a hck ha ha63 hA2 hB2
        have hb63 : 2 ^ (k + 1) < 2 ^ 63 := Nat.pow_lt_pow_right (by decide) (by omega)
        have hb1 : 1 < 2 ^ (k + 1) := Nat.one_lt_two_pow (by omega)
        rcases (show a % 2 = 0 ∨ a % 2 = 1 by omega) with hev | hod
        · skip
          refine a_iload B dX7_odds_111 rfl ?_
          refine a_iload_n B dX7_odds_113 rfl ?_
          refine a_bipush (v := 8) B dX7_odds_114 (by decide) ?_
          refine a_imul B dX7_odds_116 ?_
          rw [show nI n * 8 = nI (n * 8) from pk_mul n 8]
          refine a_icmp_ge_f (tgt := 153) B dX7_odds_117 (by decide) (nI_ge (by omega) (by omega)) ?_
          refine a_lload B dX7_odds_120 rfl ?_
          refine a_ldc2 (v := 2) B (by decide +kernel) dX7_odds_122 ?_
          refine a_lrem B dX7_odds_125 (by decide) ?_
          refine a_lconst (v := 0) B dX7_odds_126 (by decide) ?_
          rw [show lN a - lN a / 2 * 2 = lN (a % 2) from pk_lRem (b := 2) ha63 (by decide) (by decide), hev]
          refine a_lcmp B dX7_odds_127 ?_
          refine a_if_ne_f (tgt := 153) B dX7_odds_128 (by decide) (by decide) ?_
          refine a_lload B dX7_odds_131 rfl ?_
          refine a_ldc2 (v := 2) B (by decide +kernel) dX7_odds_133 ?_
          refine a_ldiv B dX7_odds_136 (by decide) ?_
          rw [show lN a / 2 = lN (a / 2) from pk_lDiv (b := 2) ha63 (by decide) (by decide)]
          refine a_lstore B dX7_odds_137 (by decide) ?_
          refine a_lload B dX7_odds_139 rfl ?_
          refine a_ldc2 (v := 2) B (by decide +kernel) dX7_odds_141 ?_
          refine a_ldiv B dX7_odds_144 (by decide) ?_
          rw [show lN (2 ^ (k + 1)) / 2 = lN (2 ^ k) by rw [show lN (2 ^ (k + 1)) / 2 = lN (2 ^ (k + 1) / 2) from pk_lDiv (b := 2) hb63 (by decide) (by decide), Nat.pow_succ, Nat.mul_div_cancel _ (by decide)]]
          refine a_lstore B dX7_odds_145 (by decide) ?_
          refine a_iinc (v := 1) B dX7_odds_147 rfl (by decide) (by decide) ?_
          refine a_goto (tgt := 111) B dX7_odds_150 (by decide) ?_
          rw [nI_1]
          refine ih (c + 1) (a / 2) (by omega) (by omega) (by omega) ?_ ?_
          · rw [← hA2, even_gcd hev]
            have e2 : a = 2 * (a / 2) := by omega
            rw [show a / (2 * Nat.gcd (a / 2) (2 ^ k)) = 2 * (a / 2) / (2 * Nat.gcd (a / 2) (2 ^ k)) by rw [← e2], Nat.mul_div_mul_left _ _ (by decide)]
          · rw [← hB2, even_gcd hev, Nat.pow_succ, Nat.mul_comm (2 ^ k) 2, Nat.mul_div_mul_left _ _ (by decide)]
        · skip
          refine a_iload B dX7_odds_111 rfl ?_
          refine a_iload_n B dX7_odds_113 rfl ?_
          refine a_bipush (v := 8) B dX7_odds_114 (by decide) ?_
          refine a_imul B dX7_odds_116 ?_
          rw [show nI n * 8 = nI (n * 8) from pk_mul n 8]
          refine a_icmp_ge_f (tgt := 153) B dX7_odds_117 (by decide) (nI_ge (by omega) (by omega)) ?_
          refine a_lload B dX7_odds_120 rfl ?_
          refine a_ldc2 (v := 2) B (by decide +kernel) dX7_odds_122 ?_
          refine a_lrem B dX7_odds_125 (by decide) ?_
          refine a_lconst (v := 0) B dX7_odds_126 (by decide) ?_
          rw [show lN a - lN a / 2 * 2 = lN (a % 2) from pk_lRem (b := 2) ha63 (by decide) (by decide), hod]
          refine a_lcmp B dX7_odds_127 ?_
          refine a_if_ne_t (tgt := 153) B dX7_odds_128 (by decide) (by decide) ?_
          exact fin _ _ _ (by rw [← hA2, odd_gcd hod, Nat.div_one]) (by rw [← hB2, odd_gcd hod, Nat.div_one])
    have loop : ∀ (m k : Nat), k + m = n → AW X V ShX 11 61 [some (.ref (aL V 0)), some (.int (nI h)), some (.int (nI n)), some (.int w), some (.ref (aL V (25 + 3 * 0))), some (.ref (aL V (25 + 3 * 1))), some (.long (lN (oTX mu h k))), none, some (.long (lN (256 ^ k))), none, some (.int (nI (h + k)))] [] mu1 := by
      intro m
      induction m with
      | zero =>
        intro k hk
        refine a_iload B dX7_odds_61 rfl ?_
        refine a_iload_n B dX7_odds_63 rfl ?_
        refine a_iload_n B dX7_odds_64 rfl ?_
        refine a_iadd B dX7_odds_65 ?_
        refine a_icmp_ge_t (tgt := 108) B dX7_odds_66 (by decide) (by rw [nI_add]; exact nI_le (by omega) (by omega)) ?_
        refine a_iconst (v := 0) B dX7_odds_108 (by decide) ?_
        refine a_istore B dX7_odds_109 (by decide) ?_
        rw [show k = n by omega, pow256_2]
        exact hlv (8 * n) 0 (oTX mu h n) (by omega) (oTX_b mu h n).1 (by have := (oTX_b mu h n).2; have := pow256 (n := n) hn; omega) (by rw [← pow256_2]) (by rw [← pow256_2])
      | succ m ih =>
        intro k hk
        refine a_iload B dX7_odds_61 rfl ?_
        refine a_iload_n B dX7_odds_63 rfl ?_
        refine a_iload_n B dX7_odds_64 rfl ?_
        refine a_iadd B dX7_odds_65 ?_
        refine a_icmp_ge_f (tgt := 108) B dX7_odds_66 (by decide) (by rw [nI_add]; exact nI_ge (by omega) (by omega)) ?_
        refine a_lload B dX7_odds_69 rfl ?_
        refine a_sipush (v := 256) B dX7_odds_71 (by decide) ?_
        refine a_aload B dX7_odds_74 rfl ?_
        refine a_iload B dX7_odds_76 rfl ?_
        refine a_callVi B k_X7_odds_164 (c_X0_chanceAt hV (DL_g (g := 0) (by decide)) (by omega)) (by first | rfl | assumption) rfl rfl rfl (Nat.le_of_ble_eq_true rfl) dX7_odds_78 (fun r78 mu78 h78 => ?_)
        obtain ⟨rfl, rfl⟩ := h78
        rw [hc0 (h + k) (by omega)]
        refine a_aload B dX7_odds_81 rfl ?_
        refine a_iload B dX7_odds_83 rfl ?_
        refine a_callVi B k_X7_odds_164 (c_X0_chanceAt hV (DL_g (g := 1) (by decide)) (by omega)) (by first | rfl | assumption) rfl rfl rfl (Nat.le_of_ble_eq_true rfl) dX7_odds_85 (fun r85 mu85 h85 => ?_)
        obtain ⟨rfl, rfl⟩ := h85
        rw [hc1 (h + k) (by omega)]
        refine a_imul B dX7_odds_88 ?_
        refine a_isub B dX7_odds_89 ?_
        refine a_i2l B dX7_odds_90 ?_
        rw [odd_f (cNX_nI mu 0 (h + k)).1 (cNX_nI mu 1 (h + k)).1]
        refine a_lmul B dX7_odds_91 ?_
        rw [lN_mul]
        refine a_lstore B dX7_odds_92 (by decide) ?_
        refine a_lload B dX7_odds_94 rfl ?_
        refine a_ldc2 (v := 256) B (by decide +kernel) dX7_odds_96 ?_
        refine a_lmul B dX7_odds_99 ?_
        rw [show lN (256 ^ k) * 256 = lN (256 ^ (k + 1)) by rw [Nat.pow_succ]; exact lN_mul _ 256]
        refine a_lstore B dX7_odds_100 (by decide) ?_
        refine a_iinc (v := 1) B dX7_odds_102 rfl (by decide) (by decide) ?_
        refine a_goto (tgt := 61) B dX7_odds_105 (by decide) ?_
        rw [nI_1]
        exact ih (k + 1) (by omega)
    exact loop n 0 (by omega)
  have q50 := shD (DL_g (g := 0) (by decide))
  have q51 := shD (DL_g (g := 1) (by decide))
  refine a_iload_n B dX7_odds_0 rfl ?_
  refine a_callSi B k_X7_odds_127 (c_X7_isHour hV) rfl rfl (Nat.le_of_ble_eq_true rfl) dX7_odds_1 (fun r1 mu1 h1 => ?_)
  obtain ⟨rfl, rfl⟩ := h1
  refine a_if_eq_f (tgt := 34) B dX7_odds_4 (by decide) (bI_n0.mpr (inB_nI (n := 23) (by omega) (by decide))) ?_
  refine a_iload_n B dX7_odds_7 rfl ?_
  refine a_iconst (v := 0) B dX7_odds_8 (by decide) ?_
  refine a_bipush (v := 7) B dX7_odds_9 (by decide) ?_
  refine a_callSi B k_X7_odds_70 (c_X7_within hV) rfl rfl (Nat.le_of_ble_eq_true rfl) dX7_odds_11 (fun r11 mu11 h11 => ?_)
  obtain ⟨rfl, rfl⟩ := h11
  refine a_if_eq_f (tgt := 34) B dX7_odds_14 (by decide) (bI_n0.mpr (inB_nI (n := 7) (by omega) (by decide))) ?_
  refine a_iload_n B dX7_odds_17 rfl ?_
  refine a_iload_n B dX7_odds_18 rfl ?_
  refine a_iadd B dX7_odds_19 ?_
  refine a_bipush (v := 24) B dX7_odds_20 (by decide) ?_
  refine a_icmp_gt_f (tgt := 34) B dX7_odds_22 (by decide) (by rw [nI_add]; exact nI_nlt (a := 24) (b := h + n) (by omega) (by decide)) ?_
  refine a_iload_n B dX7_odds_25 rfl ?_
  refine a_iconst (v := 0) B dX7_odds_26 (by decide) ?_
  refine a_iconst (v := 1) B dX7_odds_27 (by decide) ?_
  refine a_callSi B k_X7_odds_70 (c_X7_within hV) rfl rfl (Nat.le_of_ble_eq_true rfl) dX7_odds_28 (fun r28 mu28 h28 => ?_)
  obtain ⟨rfl, rfl⟩ := h28
  refine a_if_ne_t (tgt := 38) B dX7_odds_31 (by decide) (bI_n0.mpr hw) ?_
  refine a_aload_n B dX7_odds_38 rfl ?_
  refine a_iconst (v := 0) B dX7_odds_39 (by decide) ?_
  refine a_callVr B k_X7_odds_130 (c_X7_dayOf (g := 0) hV hi (by decide)) (by first | rfl | assumption) rfl rfl rfl (Nat.le_of_ble_eq_true rfl) dX7_odds_40 (fun r40 mu40 h40 => ?_)
  obtain ⟨rfl, hD0⟩ := h40
  refine a_astore B dX7_odds_43 (by decide) ?_
  refine a_aload_n B dX7_odds_45 rfl ?_
  refine a_iconst (v := 1) B dX7_odds_46 (by decide) ?_
  refine a_callVr B k_X7_odds_130 (c_X7_dayOf (g := 1) hV (IX_p hD0.1 hi) (by decide)) (by first | rfl | assumption) rfl rfl rfl (Nat.le_of_ble_eq_true rfl) dX7_odds_47 (fun r47 mu47 h47 => ?_)
  obtain ⟨rfl, hD1⟩ := h47
  refine a_astore B dX7_odds_50 (by decide) ?_
  refine a_lconst (v := 1) B dX7_odds_52 (by decide) ?_
  refine a_lstore B dX7_odds_53 (by decide) ?_
  refine a_lconst (v := 1) B dX7_odds_55 (by decide) ?_
  refine a_lstore B dX7_odds_56 (by decide) ?_
  refine a_iload_n B dX7_odds_58 rfl ?_
  refine a_istore B dX7_odds_59 (by decide) ?_
  exact main mu40 mu47 hD0 hD1
set_option maxHeartbeats 4000000 in
set_option maxRecDepth 100000 in
theorem c_X7_odds_bad {l : Launch} {V : ab_V} {mu : ab_mem} {a b w : Int32} (hV : OKX V) (hbad : ¬ (inB a 0 23 = true ∧ inB b 0 7 = true ∧ ¬ 24 < a + b ∧ inB w 0 1 = true)) : CT l V ShX yX7_odds wsX7_odds rm_X7_odds [.ref (aL V 0), .int a, .int b, .int w] mu (pL (fun r mu2 => r = -9223372036854775806 ∧ mu = mu2)) := by
  refine ab_enter hV.1 (by decide) rfl (Nat.le_of_ble_eq_true rfl) ?_
  intro X B E
  have B : CX X l rm_X7_odds RX7 cX7_odds wsX7_odds 11 V ShX := B
  show AW X V ShX 11 0 [some (.ref (aL V 0)), some (.int a), some (.int b), some (.int w), none, none, none, none, none, none, none] [] mu
  refine a_iload_n B dX7_odds_0 rfl ?_
  refine a_callSi B k_X7_odds_127 (c_X7_isHour hV) rfl rfl (Nat.le_of_ble_eq_true rfl) dX7_odds_1 (fun r1 mu1 h1 => ?_)
  obtain ⟨rfl, rfl⟩ := h1
  refine a_if_eq (tgt := 34) B dX7_odds_4 (by decide) (fun c4 => ?_) (fun c4 => ?_)
  · refine a_ldc2 (v := -9223372036854775806) B (by decide +kernel) dX7_odds_34 ?_
    refine a_lreturn B E dX7_odds_37 ?_
    exact ⟨rfl, rfl⟩
  · refine a_iload_n B dX7_odds_7 rfl ?_
    refine a_iconst (v := 0) B dX7_odds_8 (by decide) ?_
    refine a_bipush (v := 7) B dX7_odds_9 (by decide) ?_
    refine a_callSi B k_X7_odds_70 (c_X7_within hV) rfl rfl (Nat.le_of_ble_eq_true rfl) dX7_odds_11 (fun r11 mu11 h11 => ?_)
    obtain ⟨rfl, rfl⟩ := h11
    refine a_if_eq (tgt := 34) B dX7_odds_14 (by decide) (fun c14 => ?_) (fun c14 => ?_)
    · refine a_ldc2 (v := -9223372036854775806) B (by decide +kernel) dX7_odds_34 ?_
      refine a_lreturn B E dX7_odds_37 ?_
      exact ⟨rfl, rfl⟩
    · refine a_iload_n B dX7_odds_17 rfl ?_
      refine a_iload_n B dX7_odds_18 rfl ?_
      refine a_iadd B dX7_odds_19 ?_
      refine a_bipush (v := 24) B dX7_odds_20 (by decide) ?_
      refine a_icmp_gt (tgt := 34) B dX7_odds_22 (by decide) (fun c22 => ?_) (fun c22 => ?_)
      · refine a_ldc2 (v := -9223372036854775806) B (by decide +kernel) dX7_odds_34 ?_
        refine a_lreturn B E dX7_odds_37 ?_
        exact ⟨rfl, rfl⟩
      · refine a_iload_n B dX7_odds_25 rfl ?_
        refine a_iconst (v := 0) B dX7_odds_26 (by decide) ?_
        refine a_iconst (v := 1) B dX7_odds_27 (by decide) ?_
        refine a_callSi B k_X7_odds_70 (c_X7_within hV) rfl rfl (Nat.le_of_ble_eq_true rfl) dX7_odds_28 (fun r28 mu28 h28 => ?_)
        obtain ⟨rfl, rfl⟩ := h28
        refine a_if_ne (tgt := 38) B dX7_odds_31 (by decide) (fun c31 => ?_) (fun c31 => ?_)
        · exfalso
          simp_all [bI_0, bI_n0]
        · refine a_ldc2 (v := -9223372036854775806) B (by decide +kernel) dX7_odds_34 ?_
          refine a_lreturn B E dX7_odds_37 ?_
          exact ⟨rfl, rfl⟩
abbrev rm_X7_heard : Room := { frames := 3, cells := 0, slots := 0, locals := 68 }
theorem k_X7_heard_66 : KS RX7 wsX7_heard rm_X7_heard 66 yX7_isGeneral wsX7_isGeneral rm_X7_isGeneral 1 := ⟨_, _, _, _, gX7_heard_X7_isGeneral, rfl, rfl, rfl, by decide +kernel, by decide⟩
theorem k_X7_heard_130 : KV RX7 wsX7_heard rm_X7_heard 130 RX7 yX7_dayOf wsX7_dayOf rm_X7_dayOf 1 := ⟨_, _, _, _, gX7_heard_X7_dayOf, rfl, rfl, rfl, by decide +kernel, by decide⟩
theorem k_X7_heard_164 : KV RX7 wsX7_heard rm_X7_heard 164 RX0 yX0_chanceAt wsX0_chanceAt rm_X0_chanceAt 1 := ⟨_, _, _, _, gX7_heard_X0_chanceAt, rfl, rfl, rfl, by decide +kernel, by decide⟩

set_option maxHeartbeats 4000000 in
set_option maxRecDepth 100000 in
theorem c_X7_heard {l : Launch} {V : ab_V} {mu : ab_mem} {g : Nat} {sd : Int32} (hV : OKX V) (hi : IX mu) (hg : g < 3)  : CT l V ShX yX7_heard wsX7_heard rm_X7_heard [.ref (aL V 0), .int (nI g), .int sd] mu (pI (fun r mu2 => r = (hdS g (chX mu g) sd 24).2 ∧ pX mu2 = pX mu)) := by
  refine ab_enter hV.1 (by decide) rfl (Nat.le_of_ble_eq_true rfl) ?_
  intro X B E
  have B : CX X l rm_X7_heard RX7 cX7_heard wsX7_heard 9 V ShX := B
  show AW X V ShX 9 0 [some (.ref (aL V 0)), some (.int (nI g)), some (.int sd), none, none, none, none, none, none] [] mu
  have hL := DL_g hg
  have q5 := shD hL
  have q6 := shD1 hL
  have q7 := shD2 hL
  have loop : ∀ (mu1 : ab_mem), DY mu g mu1 → ∀ (m j : Nat), j + m = 24 → AW X V ShX 9 25 [some (.ref (aL V 0)), some (.int (nI g)), some (.int sd), some (.ref (aL V (25 + 3 * g))), some (.int (hdS g (chX mu g) sd j).2), some (.int (hdS g (chX mu g) sd j).1), some (.int (nI j)), none, none] [] mu1 := by
    intro mu1 hD m
    induction m with
    | zero =>
      intro j hj
      have e : j = 24 := by omega
      subst e
      refine a_iload B dX7_heard_25 rfl ?_
      refine a_bipush (v := 24) B dX7_heard_27 (by decide) ?_
      refine a_icmp_ge_t (tgt := 100) B dX7_heard_29 (by decide) (by decide) ?_
      refine a_iload B dX7_heard_100 rfl ?_
      refine a_ireturn B E dX7_heard_102 ?_
      exact ⟨rfl, hD.1⟩
    | succ m ih =>
      intro j hj
      have inn : ∀ (m2 k : Nat), k + m2 = 3 → AW X V ShX 9 35 [some (.ref (aL V 0)), some (.int (nI g)), some (.int sd), some (.ref (aL V (25 + 3 * g))), some (.int (hdI g (chX mu g j) j (hdS g (chX mu g) sd j) k).2), some (.int (hdI g (chX mu g j) j (hdS g (chX mu g) sd j) k).1), some (.int (nI j)), some (.int (nI k)), none] [] mu1 := by
        intro m2
        induction m2 with
        | zero =>
          intro k hk
          have e : k = 3 := by omega
          subst e
          refine a_iload B dX7_heard_35 rfl ?_
          refine a_iconst (v := 3) B dX7_heard_37 (by decide) ?_
          refine a_icmp_ge_t (tgt := 94) B dX7_heard_38 (by decide) (by decide) ?_
          refine a_iinc (v := 1) B dX7_heard_94 rfl (by decide) (by decide) ?_
          refine a_goto (tgt := 25) B dX7_heard_97 (by decide) ?_
          refine a_fg 7 ?_
          rw [nI_1]
          exact ih (j + 1) (by omega)
        | succ m2 ih2 =>
          intro k hk
          refine a_iload B dX7_heard_35 rfl ?_
          refine a_iconst (v := 3) B dX7_heard_37 (by decide) ?_
          refine a_icmp_ge_f (tgt := 94) B dX7_heard_38 (by decide) (nI_ge (a := k) (b := 3) (by omega) (by decide)) ?_
          refine a_ldc (v := 1103515245) B (by decide +kernel) dX7_heard_41 ?_
          refine a_iload B dX7_heard_43 rfl ?_
          refine a_imul B dX7_heard_45 ?_
          refine a_sipush (v := 12345) B dX7_heard_46 (by decide) ?_
          refine a_iadd B dX7_heard_49 ?_
          refine a_istore B dX7_heard_50 (by decide) ?_
          refine a_iload B dX7_heard_52 rfl ?_
          refine a_bipush (v := 16) B dX7_heard_54 (by decide) ?_
          refine a_iushr B dX7_heard_56 ?_
          refine a_bipush (v := 16) B dX7_heard_57 (by decide) ?_
          refine a_irem B dX7_heard_59 (by decide) ?_
          refine a_istore B dX7_heard_60 (by decide) ?_
          refine a_iload B dX7_heard_62 rfl ?_
          refine a_iload_n B dX7_heard_64 rfl ?_
          refine a_icmp_ne (tgt := 88) B dX7_heard_65 (by decide) (fun c65 => ?_) (fun c65 => ?_)
          · refine a_iinc (v := 1) B dX7_heard_88 rfl (by decide) (by decide) ?_
            refine a_goto (tgt := 35) B dX7_heard_91 (by decide) ?_
            refine a_fg 8 ?_
            rw [nI_1]
            have e := ih2 (k + 1) (by omega)
            rw [hdI] at e
            first
              | (rw [if_neg (fun q => c65 (by rw [q.1])), or_0] at e; exact e)
              | (have ek := (nI_eq (by omega) (by omega)).mp c65
                 rw [hD.2.2.1 j (by omega), hD.2.1 j (by omega)] at c76
                 first
                   | (rw [if_neg (fun q => absurd c76 (Int32.not_le.mpr q.2)), or_0] at e; exact e)
                   | (rw [if_pos ⟨ek, Int32.not_le.mp c76⟩] at e; exact e))
          · refine a_iload B dX7_heard_68 rfl ?_
            refine a_aload_n B dX7_heard_70 rfl ?_
            refine a_iload B dX7_heard_71 rfl ?_
            refine a_callVi B k_X7_heard_164 (c_X0_chanceAt hV hL (by omega)) (by first | rfl | assumption) rfl rfl rfl (Nat.le_of_ble_eq_true rfl) dX7_heard_73 (fun r73 mu73 h73 => ?_)
            obtain ⟨rfl, rfl⟩ := h73
            refine a_icmp_ge (tgt := 88) B dX7_heard_76 (by decide) (fun c76 => ?_) (fun c76 => ?_)
            · refine a_iinc (v := 1) B dX7_heard_88 rfl (by decide) (by decide) ?_
              refine a_goto (tgt := 35) B dX7_heard_91 (by decide) ?_
              refine a_fg 8 ?_
              rw [nI_1]
              have e := ih2 (k + 1) (by omega)
              rw [hdI] at e
              first
                | (rw [if_neg (fun q => c65 (by rw [q.1])), or_0] at e; exact e)
                | (have ek := (nI_eq (by omega) (by omega)).mp c65
                   rw [hD.2.2.1 j (by omega), hD.2.1 j (by omega)] at c76
                   first
                     | (rw [if_neg (fun q => absurd c76 (Int32.not_le.mpr q.2)), or_0] at e; exact e)
                     | (rw [if_pos ⟨ek, Int32.not_le.mp c76⟩] at e; exact e))
            · refine a_iload B dX7_heard_79 rfl ?_
              refine a_iconst (v := 1) B dX7_heard_81 (by decide) ?_
              refine a_iload B dX7_heard_82 rfl ?_
              refine a_ishl B dX7_heard_84 ?_
              refine a_ior B dX7_heard_85 ?_
              refine a_istore B dX7_heard_86 (by decide) ?_
              refine a_iinc (v := 1) B dX7_heard_88 rfl (by decide) (by decide) ?_
              refine a_goto (tgt := 35) B dX7_heard_91 (by decide) ?_
              refine a_fg 8 ?_
              rw [nI_1]
              have e := ih2 (k + 1) (by omega)
              rw [hdI] at e
              first
                | (rw [if_neg (fun q => c65 (by rw [q.1])), or_0] at e; exact e)
                | (have ek := (nI_eq (by omega) (by omega)).mp c65
                   rw [hD.2.2.1 j (by omega), hD.2.1 j (by omega)] at c76
                   first
                     | (rw [if_neg (fun q => absurd c76 (Int32.not_le.mpr q.2)), or_0] at e; exact e)
                     | (rw [if_pos ⟨ek, Int32.not_le.mp c76⟩] at e; exact e))
      refine a_iload B dX7_heard_25 rfl ?_
      refine a_bipush (v := 24) B dX7_heard_27 (by decide) ?_
      refine a_icmp_ge_f (tgt := 100) B dX7_heard_29 (by decide) (nI_ge (a := j) (b := 24) (by omega) (by decide)) ?_
      refine a_iconst (v := 0) B dX7_heard_32 (by decide) ?_
      refine a_istore B dX7_heard_33 (by decide) ?_
      exact inn 3 0 rfl
  refine a_iload_n B dX7_heard_0 rfl ?_
  refine a_callSi B k_X7_heard_66 (c_X7_isGeneral hV) rfl rfl (Nat.le_of_ble_eq_true rfl) dX7_heard_1 (fun r1 mu1 h1 => ?_)
  obtain ⟨rfl, rfl⟩ := h1
  refine a_if_ne_t (tgt := 10) B dX7_heard_4 (by decide) (bI_n0.mpr (inB_nI (n := 2) (by omega) (by decide))) ?_
  refine a_aload_n B dX7_heard_10 rfl ?_
  refine a_iload_n B dX7_heard_11 rfl ?_
  refine a_callVr B k_X7_heard_130 (c_X7_dayOf hV hi hg) (by first | rfl | assumption) rfl rfl rfl (Nat.le_of_ble_eq_true rfl) dX7_heard_12 (fun r12 mu12 h12 => ?_)
  obtain ⟨rfl, hD⟩ := h12
  refine a_astore_n B dX7_heard_15 (by decide) ?_
  refine a_iconst (v := 0) B dX7_heard_16 (by decide) ?_
  refine a_istore B dX7_heard_17 (by decide) ?_
  refine a_iload_n B dX7_heard_19 rfl ?_
  refine a_istore B dX7_heard_20 (by decide) ?_
  refine a_iconst (v := 0) B dX7_heard_22 (by decide) ?_
  refine a_istore B dX7_heard_23 (by decide) ?_
  exact loop mu12 hD 24 0 rfl
set_option maxHeartbeats 4000000 in
set_option maxRecDepth 100000 in
theorem c_X7_heard_bad {l : Launch} {V : ab_V} {mu : ab_mem} {a sd : Int32} (hV : OKX V) (hbad : ¬ inB a 0 2 = true) : CT l V ShX yX7_heard wsX7_heard rm_X7_heard [.ref (aL V 0), .int a, .int sd] mu (pI (fun r mu2 => r = -2 ∧ mu = mu2)) := by
  refine ab_enter hV.1 (by decide) rfl (Nat.le_of_ble_eq_true rfl) ?_
  intro X B E
  have B : CX X l rm_X7_heard RX7 cX7_heard wsX7_heard 9 V ShX := B
  show AW X V ShX 9 0 [some (.ref (aL V 0)), some (.int a), some (.int sd), none, none, none, none, none, none] [] mu
  refine a_iload_n B dX7_heard_0 rfl ?_
  refine a_callSi B k_X7_heard_66 (c_X7_isGeneral hV) rfl rfl (Nat.le_of_ble_eq_true rfl) dX7_heard_1 (fun r1 mu1 h1 => ?_)
  obtain ⟨rfl, rfl⟩ := h1
  refine a_if_ne (tgt := 10) B dX7_heard_4 (by decide) (fun c4 => ?_) (fun c4 => ?_)
  · exfalso
    simp_all [bI_0, bI_n0]
  · refine a_bipush (v := -2) B dX7_heard_7 (by decide) ?_
    refine a_ireturn B E dX7_heard_9 ?_
    exact ⟨rfl, rfl⟩
/-- nothing unlike: all agree -/
theorem unF_ag {who hr is : Nat → Int32} {g x : Int32} : ∀ k, (∀ q, q < k → ∃ b, is q = bI b) → k ≤ 8 → ∃ c, c ≤ k ∧ unF who hr is g x k = nI c ∧ (c = 0 ↔ agF who hr is g x k = true) := by
  intro k
  induction k with
  | zero => intro _ _; exact ⟨0, Nat.le_refl _, rfl, by simp [agF]⟩
  | succ k ih =>
    intro h hk
    obtain ⟨c, h1, h2, h3⟩ := ih (fun q hq => h q (by omega)) (by omega)
    obtain ⟨b, hb⟩ := h k (by omega)
    have key : (bitB x (hr k) = decide (is k = 1)) ↔ ((x >>> (hr k &&& 31)) &&& 1 = is k) := by
      rw [hb, bitB]
      rcases bit01 (x >>> (hr k &&& 31)) with e | e <;> rw [e] <;> cases b <;> decide
    rw [unF, agF]
    by_cases q : who k = g
    · by_cases q2 : bitB x (hr k) = decide (is k = 1)
      · rw [if_neg (fun z => z.2 q2)]
        refine ⟨c, by omega, h2, ?_⟩
        rw [decide_eq_true q, decide_eq_true (key.mp q2)]
        simpa using h3
      · rw [if_pos ⟨q, q2⟩, h2]
        refine ⟨c + 1, by omega, nI_1 c, ?_⟩
        rw [decide_eq_true q, decide_eq_false (fun z => q2 (key.mpr z))]
        simp
    · rw [if_neg (fun z => q z.1)]
      refine ⟨c, by omega, h2, ?_⟩
      rw [decide_eq_false q]
      simpa using h3
def agX (mu : ab_mem) (g j : Nat) : Bool := agF (mu 8) (mu 9) (mu 10) (nI g) (bX mu g 0 j 24) (kX mu)
theorem dyD_fr {f : Nat → Int32} {n o j h : Nat} (hh : h < 24) : dyD f n o j h = if h = j then 4 else dyD f n o 99 h := by
  unfold dyD
  by_cases e : h = j
  · rw [if_pos e, if_pos e]
  · rw [if_neg e, if_neg e, if_neg (show ¬ h = 99 by omega)]
abbrev rm_X7_fright : Room := { frames := 2, cells := 0, slots := 0, locals := 46 }
set_option maxRecDepth 20000 in
theorem us_X7_fright_0 : ∀ w ∈ u_ws RX0 TX0 3, w ∈ wsX7_fright := by decide +kernel
set_option maxRecDepth 20000 in
theorem us_X7_fright_7 : ∀ w ∈ u_ws RX7 TX7 9, w ∈ wsX7_fright := by decide +kernel
set_option maxRecDepth 20000 in
theorem fl_X7_fright_11 : FL RX7 wsX7_fright 11 7 0 := ⟨RX7, TX7, 9, rfl, by decide, us_X7_fright_7, by decide +kernel⟩
set_option maxRecDepth 20000 in
theorem fl_X7_fright_30 : FL RX7 wsX7_fright 30 7 3 := ⟨RX7, TX7, 9, rfl, by decide, us_X7_fright_7, by decide +kernel⟩
set_option maxRecDepth 20000 in
theorem fl_X7_fright_37 : FL RX7 wsX7_fright 37 7 4 := ⟨RX7, TX7, 9, rfl, by decide, us_X7_fright_7, by decide +kernel⟩
set_option maxRecDepth 20000 in
theorem fl_X7_fright_42 : FL RX7 wsX7_fright 42 7 5 := ⟨RX7, TX7, 9, rfl, by decide, us_X7_fright_7, by decide +kernel⟩
set_option maxRecDepth 20000 in
theorem fl_X7_fright_134 : FL RX7 wsX7_fright 134 0 0 := ⟨RX0, TX0, 3, rfl, by decide, us_X7_fright_0, by decide +kernel⟩
theorem k_X7_fright_66 : KS RX7 wsX7_fright rm_X7_fright 66 yX7_isGeneral wsX7_isGeneral rm_X7_isGeneral 1 := ⟨_, _, _, _, gX7_fright_X7_isGeneral, rfl, rfl, rfl, by decide +kernel, by decide⟩
theorem k_X7_fright_202 : KV RX7 wsX7_fright rm_X7_fright 202 RX0 yX0_lay wsX0_lay rm_X0_lay 2 := ⟨_, _, _, _, gX7_fright_X0_lay, rfl, rfl, rfl, by decide +kernel, by decide⟩
theorem k_X7_fright_206 : KV RX7 wsX7_fright rm_X7_fright 206 RX0 yX0_live wsX0_live rm_X0_live 1 := ⟨_, _, _, _, gX7_fright_X0_live, rfl, rfl, rfl, by decide +kernel, by decide⟩
theorem k_X7_fright_210 : KV RX7 wsX7_fright rm_X7_fright 210 RX0 yX0_hiccupHours wsX0_hiccupHours rm_X0_hiccupHours 1 := ⟨_, _, _, _, gX7_fright_X0_hiccupHours, rfl, rfl, rfl, by decide +kernel, by decide⟩
theorem k_X7_fright_214 : KV RX7 wsX7_fright rm_X7_fright 214 RX5 yX5_unlikeOf wsX5_unlikeOf rm_X5_unlikeOf 2 := ⟨_, _, _, _, gX7_fright_X5_unlikeOf, rfl, rfl, rfl, by decide +kernel, by decide⟩

set_option maxHeartbeats 4000000 in
set_option maxRecDepth 100000 in
theorem c_X7_fright {l : Launch} {V : ab_V} {mu : ab_mem} {g : Nat} (hV : OKX V) (hi : IX mu) (hg : g < 3)  : CT l V ShX yX7_fright wsX7_fright rm_X7_fright [.ref (aL V 0), .int (nI g)] mu (pI (fun r mu2 => r = frF (agX mu g) 24 ∧ pX mu2 = pX mu)) := by
  refine ab_enter hV.1 (by decide) rfl (Nat.le_of_ble_eq_true rfl) ?_
  intro X B E
  have B : CX X l rm_X7_fright RX7 cX7_fright wsX7_fright 6 V ShX := B
  show AW X V ShX 6 0 [some (.ref (aL V 0)), some (.int (nI g)), none, none, none, none] [] mu
  have q1 := shG hg
  have q2 := shGm hg
  have loop : ∀ (m j : Nat), j + m = 24 → ∀ mu1, ((∀ q, q ≠ 11 → q ≠ 12 → q ≠ 13 → mu1 q = mu q) ∧ (∀ h, h < 24 → mu1 12 h = dX mu g 0 99 h) ∧ mu1 11 2 = mu (19 + 2 * g) 3) → AW X V ShX 6 28 [some (.ref (aL V 0)), some (.int (nI g)), some (.int (frF (agX mu g) j)), some (.int (nI j)), none, none] [] mu1 := by
    intro m
    induction m with
    | zero =>
      intro j hj mu1 hq
      have e : j = 24 := by omega
      subst e
      refine a_iload_n B dX7_fright_28 rfl ?_
      refine a_bipush (v := 24) B dX7_fright_29 (by decide) ?_
      refine a_icmp_ge_t (tgt := 115) B dX7_fright_31 (by decide) (by decide) ?_
      refine a_iload_n B dX7_fright_115 rfl ?_
      refine a_ireturn B E dX7_fright_116 ?_
      exact ⟨rfl, pX_of fun q hq2 => hq.1 q (sc_ne (a := 11) rfl hq2) (sc_ne (a := 12) rfl hq2) (sc_ne (a := 13) rfl hq2)⟩
    | succ m ih =>
      intro j hj mu1 hq
      refine a_iload_n B dX7_fright_28 rfl ?_
      refine a_bipush (v := 24) B dX7_fright_29 (by decide) ?_
      refine a_icmp_ge_f (tgt := 115) B dX7_fright_31 (by decide) (nI_ge (a := j) (b := 24) (by omega) (by decide)) ?_
      refine a_aload_n B dX7_fright_34 rfl ?_
      refine a_getr B fl_X7_fright_42 (by first | rfl | assumption) rfl dX7_fright_35 ?_
      refine a_getr B fl_X7_fright_134 (by first | rfl | assumption) rfl dX7_fright_38 ?_
      refine a_iload_n B dX7_fright_41 rfl ?_
      refine a_ialdN B (j) (by first | rfl | assumption) rfl (by omega) (by decide) dX7_fright_42 ?_
      rw [hq.2.1 j (by omega)]
      refine a_istore B dX7_fright_43 (by decide) ?_
      refine a_aload_n B dX7_fright_45 rfl ?_
      refine a_getr B fl_X7_fright_42 (by first | rfl | assumption) rfl dX7_fright_46 ?_
      refine a_getr B fl_X7_fright_134 (by first | rfl | assumption) rfl dX7_fright_49 ?_
      refine a_iload_n B dX7_fright_52 rfl ?_
      refine a_iconst (v := 4) B dX7_fright_53 (by decide) ?_
      refine a_iastN B (j) (by first | rfl | assumption) rfl (by omega) (by decide)  dX7_fright_54 ?_
      refine a_aload_n B dX7_fright_55 rfl ?_
      refine a_getr B fl_X7_fright_42 (by first | rfl | assumption) rfl dX7_fright_56 ?_
      refine a_aload_n B dX7_fright_59 rfl ?_
      refine a_getr B fl_X7_fright_30 (by first | rfl | assumption) rfl dX7_fright_60 ?_
      have hin : ∀ h, h < 24 → ab_up mu1 12 j 4 12 h = dX mu g 0 j h := fun h hh => by
        rw [ab_up_s, dX, dyD_fr hh]
        by_cases e : h = j
        · rw [e, pk_us, if_pos rfl]
        · rw [pk_un e, if_neg e]; exact hq.2.1 h hh
      refine a_callVv B k_X7_fright_206 (c_X0_live hV DL_11 (fun h hh => by rw [hin h hh]; exact dX_in hi hg 0 j h)) (by first | rfl | assumption) rfl rfl rfl (Nat.le_of_ble_eq_true rfl) dX7_fright_63 (fun mu63 h63 => ?_)
      have e5 : ab_up mu1 12 j 4 5 = mu 5 := by rw [ab_up_o (by decide)]; exact hq.1 5 (by decide) (by decide) (by decide)
      have e11 : ab_up mu1 12 j 4 11 2 = mu (19 + 2 * g) 3 := by rw [ab_up_o (by decide)]; exact hq.2.2
      have hlv : ∀ h, h < 24 → mu63 13 h = lX mu g 0 j (h + 1) := fun h hh => by
        have z := h63.2 h hh
        rw [e5, e11] at z
        exact z.trans (lvB_congr (h + 1) (fun k hk => hin k (by omega)))
      have hdd : ∀ h, h < 24 → mu63 12 h = dX mu g 0 j h := fun h hh => by rw [h63.1 12 (by decide)]; exact hin h hh
      refine a_aload_n B dX7_fright_66 rfl ?_
      refine a_getr B fl_X7_fright_42 (by first | rfl | assumption) rfl dX7_fright_67 ?_
      refine a_aload_n B dX7_fright_70 rfl ?_
      refine a_getr B fl_X7_fright_30 (by first | rfl | assumption) rfl dX7_fright_71 ?_
      refine a_callVi B k_X7_fright_210 (c_X0_hiccupHours hV DL_11) (by first | rfl | assumption) rfl rfl rfl (Nat.le_of_ble_eq_true rfl) dX7_fright_74 (fun r74 mu74 h74 => ?_)
      obtain ⟨rfl, rfl⟩ := h74
      have e4 : mu63 4 = mu 4 := by rw [h63.1 4 (by decide), ab_up_o (by decide)]; exact hq.1 4 (by decide) (by decide) (by decide)
      rw [show hhF (mu63 4 2) (mu63 (11 + 2)) (mu63 (11 + 1)) 24 = bX mu g 0 j 24 by rw [e4]; exact hhF_bt 24 hlv hdd]
      refine a_istore B dX7_fright_77 (by decide) ?_
      refine a_aload_n B dX7_fright_79 rfl ?_
      refine a_getr B fl_X7_fright_42 (by first | rfl | assumption) rfl dX7_fright_80 ?_
      refine a_getr B fl_X7_fright_134 (by first | rfl | assumption) rfl dX7_fright_83 ?_
      refine a_iload_n B dX7_fright_86 rfl ?_
      refine a_iload B dX7_fright_87 rfl ?_
      refine a_iastN B (j) (by first | rfl | assumption) rfl (by omega) (by decide)  dX7_fright_89 ?_
      refine a_aload_n B dX7_fright_90 rfl ?_
      refine a_getr B fl_X7_fright_37 (by first | rfl | assumption) rfl dX7_fright_91 ?_
      refine a_iload_n B dX7_fright_94 rfl ?_
      refine a_iload B dX7_fright_95 rfl ?_
      have hrest : ∀ q, q ≠ 11 → q ≠ 12 → q ≠ 13 → ab_up mu63 12 j (dX mu g 0 99 j) q = mu q := fun q a b c => by rw [ab_up_o b, h63.1 q c, ab_up_o b]; exact hq.1 q a b c
      have hpp : pX (ab_up mu63 12 j (dX mu g 0 99 j)) = pX mu := pX_of fun q hq2 => hrest q (sc_ne (a := 11) rfl hq2) (sc_ne (a := 12) rfl hq2) (sc_ne (a := 13) rfl hq2)
      refine a_callVi B k_X7_fright_214 (c_X5_unlikeOf hV (IX_p hpp hi).2.2.1) (by first | rfl | assumption) rfl rfl rfl (Nat.le_of_ble_eq_true rfl) dX7_fright_97 (fun r97 mu97 h97 => ?_)
      obtain ⟨rfl, rfl⟩ := h97
      rw [kX_p hpp, hrest 8 (by decide) (by decide) (by decide), hrest 9 (by decide) (by decide) (by decide), hrest 10 (by decide) (by decide) (by decide)]
      obtain ⟨c, hc1, hc2, hc3⟩ := unF_ag (who := mu 8) (hr := mu 9) (is := mu 10) (g := nI g) (x := bX mu g 0 j 24) (kX mu) (fun q hq3 => hi.2.2.2.2.2.1 q (by have := hi.2.2.1.1; omega)) hi.2.2.1.1
      rw [hc2]
      have hc8 := hi.2.2.1.1
      refine a_if_ne (tgt := 109) B dX7_fright_100 (by decide) (fun c100 => ?_) (fun c100 => ?_)
      · refine a_iinc (v := 1) B dX7_fright_109 rfl (by decide) (by decide) ?_
        refine a_goto (tgt := 28) B dX7_fright_112 (by decide) ?_
        refine a_fg 4 ?_
        refine a_fg 5 ?_
        rw [nI_1]
        have e := ih (j + 1) (by omega) (ab_up mu63 12 j (dX mu g 0 99 j)) ⟨hrest, fun h hh => by
          rw [ab_up_s]
          by_cases e : h = j
          · rw [e, pk_us]
          · rw [pk_un e, hdd h hh, dX, dyD_fr hh, if_neg e]; rfl, by rw [ab_up_o (by decide), h63.1 11 (by decide), ab_up_o (by decide)]; exact hq.2.2⟩
        rw [frF] at e
        first
          | (have ec : c = 0 := (nI_eq (a := c) (b := 0) (by omega) (by decide)).mp c100
             rw [if_pos (show agX mu g j = true from hc3.mp ec)] at e
             exact e)
          | (rw [if_neg (fun z : agX mu g j = true => c100 (by rw [hc3.mpr z]; rfl)), or_0] at e
             exact e)
      · refine a_iload_n B dX7_fright_103 rfl ?_
        refine a_iconst (v := 1) B dX7_fright_104 (by decide) ?_
        refine a_iload_n B dX7_fright_105 rfl ?_
        refine a_ishl B dX7_fright_106 ?_
        refine a_ior B dX7_fright_107 ?_
        refine a_istore_n B dX7_fright_108 (by decide) ?_
        refine a_iinc (v := 1) B dX7_fright_109 rfl (by decide) (by decide) ?_
        refine a_goto (tgt := 28) B dX7_fright_112 (by decide) ?_
        refine a_fg 4 ?_
        refine a_fg 5 ?_
        rw [nI_1]
        have e := ih (j + 1) (by omega) (ab_up mu63 12 j (dX mu g 0 99 j)) ⟨hrest, fun h hh => by
          rw [ab_up_s]
          by_cases e : h = j
          · rw [e, pk_us]
          · rw [pk_un e, hdd h hh, dX, dyD_fr hh, if_neg e]; rfl, by rw [ab_up_o (by decide), h63.1 11 (by decide), ab_up_o (by decide)]; exact hq.2.2⟩
        rw [frF] at e
        first
          | (have ec : c = 0 := (nI_eq (a := c) (b := 0) (by omega) (by decide)).mp c100
             rw [if_pos (show agX mu g j = true from hc3.mp ec)] at e
             exact e)
          | (rw [if_neg (fun z : agX mu g j = true => c100 (by rw [hc3.mpr z]; rfl)), or_0] at e
             exact e)
  refine a_iload_n B dX7_fright_0 rfl ?_
  refine a_callSi B k_X7_fright_66 (c_X7_isGeneral hV) rfl rfl (Nat.le_of_ble_eq_true rfl) dX7_fright_1 (fun r1 mu1 h1 => ?_)
  obtain ⟨rfl, rfl⟩ := h1
  refine a_if_ne_t (tgt := 10) B dX7_fright_4 (by decide) (bI_n0.mpr (inB_nI (n := 2) (by omega) (by decide))) ?_
  refine a_aload_n B dX7_fright_10 rfl ?_
  refine a_getr B fl_X7_fright_42 (by first | rfl | assumption) rfl dX7_fright_11 ?_
  refine a_aload_n B dX7_fright_14 rfl ?_
  refine a_getr B fl_X7_fright_11 (by first | rfl | assumption) rfl dX7_fright_15 ?_
  refine a_iload_n B dX7_fright_18 rfl ?_
  refine a_aald B (g) (by first | rfl | assumption) rfl rfl (elG hg) (by decide) dX7_fright_19 ?_
  refine a_iconst (v := 0) B dX7_fright_20 (by decide) ?_
  refine a_callVv B k_X7_fright_202 (c_X0_lay (o := 0) hV DL_11 hi hg (by decide)) (by first | rfl | assumption) rfl rfl rfl (Nat.le_of_ble_eq_true rfl) dX7_fright_21 (fun mu21 h21 => ?_)
  refine a_iconst (v := 0) B dX7_fright_24 (by decide) ?_
  refine a_istore_n B dX7_fright_25 (by decide) ?_
  refine a_iconst (v := 0) B dX7_fright_26 (by decide) ?_
  refine a_istore_n B dX7_fright_27 (by decide) ?_
  exact loop 24 0 rfl mu21 ⟨fun q a b c => h21.1 q a b, h21.2.1, h21.2.2⟩
set_option maxHeartbeats 4000000 in
set_option maxRecDepth 100000 in
theorem c_X7_fright_bad {l : Launch} {V : ab_V} {mu : ab_mem} {a : Int32} (hV : OKX V) (hbad : ¬ inB a 0 2 = true) : CT l V ShX yX7_fright wsX7_fright rm_X7_fright [.ref (aL V 0), .int a] mu (pI (fun r mu2 => r = -2 ∧ mu = mu2)) := by
  refine ab_enter hV.1 (by decide) rfl (Nat.le_of_ble_eq_true rfl) ?_
  intro X B E
  have B : CX X l rm_X7_fright RX7 cX7_fright wsX7_fright 6 V ShX := B
  show AW X V ShX 6 0 [some (.ref (aL V 0)), some (.int a), none, none, none, none] [] mu
  refine a_iload_n B dX7_fright_0 rfl ?_
  refine a_callSi B k_X7_fright_66 (c_X7_isGeneral hV) rfl rfl (Nat.le_of_ble_eq_true rfl) dX7_fright_1 (fun r1 mu1 h1 => ?_)
  obtain ⟨rfl, rfl⟩ := h1
  refine a_if_ne (tgt := 10) B dX7_fright_4 (by decide) (fun c4 => ?_) (fun c4 => ?_)
  · exfalso
    simp_all [bI_0, bI_n0]
  · refine a_bipush (v := -2) B dX7_fright_7 (by decide) ?_
    refine a_ireturn B E dX7_fright_9 ?_
    exact ⟨rfl, rfl⟩
