theorem lay_in {j o t : Nat} (hj : j < 24) (ho : o < 24) (ht : t ≤ 24) (h : 0 ≤ nI j - nI o ∧ nI j - nI o ≤ nI t - 1) : o ≤ j ∧ j - o < t := by
  have e1 := pk_sub_toInt (a := j) (b := o) (by omega) (by omega)
  have e2 := pk_sub_toInt (a := t) (b := 1) (by omega) (by omega)
  rw [fa_le, fa_le, e1] at h
  have e3 : (nI t - 1).toInt = (t : Int) - 1 := e2
  rw [e3] at h
  have : (0 : Int32).toInt = 0 := by decide
  omega
theorem lay_ni {j o t : Nat} (hj : j < 24) (ho : o < 24) (ht : t ≤ 24) (h : o ≤ j ∧ j - o < t) : inB (nI j - nI o) 0 (nI t - 1) = true := by
  rw [inB_t, fa_le, fa_le]
  have e1 := pk_sub_toInt (a := j) (b := o) (by omega) (by omega)
  have e3 : (nI t - 1).toInt = (t : Int) - 1 := pk_sub_toInt (a := t) (b := 1) (by omega) (by omega)
  have : (0 : Int32).toInt = 0 := by decide
  rw [e1, e3]
  omega
abbrev rm_X8_lays : Room := { frames := 3, cells := 0, slots := 0, locals := 63 }
set_option maxRecDepth 20000 in
theorem us_X8_lays_8 : ∀ w ∈ u_ws RX8 TX8 23, w ∈ wsX8_lays := by decide +kernel
set_option maxRecDepth 20000 in
theorem fl_X8_lays_13 : FL RX8 wsX8_lays 13 8 1 := ⟨RX8, TX8, 23, rfl, by decide, us_X8_lays_8, by decide +kernel⟩
set_option maxRecDepth 20000 in
theorem fl_X8_lays_16 : FL RX8 wsX8_lays 16 8 2 := ⟨RX8, TX8, 23, rfl, by decide, us_X8_lays_8, by decide +kernel⟩
set_option maxRecDepth 20000 in
theorem fl_X8_lays_25 : FL RX8 wsX8_lays 25 8 8 := ⟨RX8, TX8, 23, rfl, by decide, us_X8_lays_8, by decide +kernel⟩
set_option maxRecDepth 20000 in
theorem fl_X8_lays_28 : FL RX8 wsX8_lays 28 8 9 := ⟨RX8, TX8, 23, rfl, by decide, us_X8_lays_8, by decide +kernel⟩
set_option maxRecDepth 20000 in
theorem fl_X8_lays_31 : FL RX8 wsX8_lays 31 8 10 := ⟨RX8, TX8, 23, rfl, by decide, us_X8_lays_8, by decide +kernel⟩
theorem k_X8_lays_71 : KS RX8 wsX8_lays rm_X8_lays 71 yX8_in wsX8_in rm_X8_in 3 := ⟨_, _, _, _, gX8_lays_X8_in, rfl, rfl, rfl, by decide +kernel, by decide⟩
theorem k_X8_lays_79 : KS RX8 wsX8_lays rm_X8_lays 79 yX8_dishBy wsX8_dishBy rm_X8_dishBy 1 := ⟨_, _, _, _, gX8_lays_X8_dishBy, rfl, rfl, rfl, by decide +kernel, by decide⟩
theorem k_X8_lays_104 : KV RX8 wsX8_lays rm_X8_lays 104 RX8 yX8_toldMany wsX8_toldMany rm_X8_toldMany 1 := ⟨_, _, _, _, gX8_lays_X8_toldMany, rfl, rfl, rfl, by decide +kernel, by decide⟩
theorem k_X8_lays_107 : KV RX8 wsX8_lays rm_X8_lays 107 RX8 yX8_next wsX8_next rm_X8_next 2 := ⟨_, _, _, _, gX8_lays_X8_next, rfl, rfl, rfl, by decide +kernel, by decide⟩
theorem k_X8_lays_111 : KV RX8 wsX8_lays rm_X8_lays 111 RX8 yX8_doesHiccup wsX8_doesHiccup rm_X8_doesHiccup 2 := ⟨_, _, _, _, gX8_lays_X8_doesHiccup, rfl, rfl, rfl, by decide +kernel, by decide⟩

set_option maxHeartbeats 4000000 in
set_option maxRecDepth 100000 in
theorem c_X8_lays {l : Launch} {V : ab_V} {mu : ab_mem} {g o fr : Nat} {fI : Int32} (hV : ab_OK V ShM) (hi : IM mu) (hg : g < 3) (ho : o < 24) (hfr : ∀ h, h < 24 → (nI h = fI ↔ h = fr)) : CT l V ShM yX8_lays wsX8_lays rm_X8_lays [.ref (aL V 0), .int (nI g), .int (nI o), .int fI] mu (pV (fun mu2 => LY mu g o fr 24 mu2)) := by
  refine ab_enter hV (by decide) rfl (Nat.le_of_ble_eq_true rfl) ?_
  intro X B E
  have B : CX X l rm_X8_lays RX8 cX8_lays wsX8_lays 9 V ShM := B
  show AW X V ShM 9 0 [some (.ref (aL V 0)), some (.int (nI g)), some (.int (nI o)), some (.int fI), none, none, none, none, none] [] mu
  have hn := hi.1 g hg
  have loop : ∀ (m j : Nat), j + m = 24 → ∀ (mu1 : ab_mem), LY mu g o fr j mu1 → AW X V ShM 9 25 [some (.ref (aL V 0)), some (.int (nI g)), some (.int (nI o)), some (.int fI), some (.int (nI (tM mu g))), some (.int (lM mu g o fr j)), some (.int (nI j)), none, none] [] mu1 := by
    intro m
    induction m with
    | zero =>
      intro j hj mu1 hL
      have e : j = 24 := by omega
      subst e
      refine a_iload B dX8_lays_25 rfl ?_
      refine a_bipush (v := 24) B dX8_lays_27 (by decide) ?_
      refine a_icmp_ge_t (tgt := 154) B dX8_lays_29 (by decide) (by decide) ?_
      refine a_return B E dX8_lays_154 ?_
      exact hL
    | succ m ih =>
      intro j hj mu1 hL
      have hp := hL.1
      have tail2 : ∀ (x y b x7 : Int32), x = dM mu g o fr j → y = lM mu g o fr (j + 1) → b = (if hicB (mu 0 5) y x then 1 <<< (nI j &&& 31) else 0) → AW X V ShM 9 146 [some (.ref (aL V 0)), some (.int (nI g)), some (.int (nI o)), some (.int fI), some (.int (nI (tM mu g))), some (.int y), some (.int (nI j)), some (.int x7), some (.int x)] [.int b, .int ((ab_up (ab_up mu1 6 (24 * g + j) x) 7 (24 * g + j) y) 8 g), .int (nI g), .ref (aL V 8)] (ab_up (ab_up mu1 6 (24 * g + j) x) 7 (24 * g + j) y) := by
        intro x y b x7 hx hy hb
        refine a_ior B dX8_lays_146 ?_
        refine a_iastN B (g) (by first | rfl | assumption) rfl (by omega) (by decide)  dX8_lays_147 ?_
        refine a_iinc (v := 1) B dX8_lays_148 rfl (by decide) (by decide) ?_
        refine a_goto (tgt := 25) B dX8_lays_151 (by decide) ?_
        refine a_fg 7 ?_
        refine a_fg 8 ?_
        rw [nI_1]
        rw [hy]
        exact ih (j + 1) (by omega) _ (LY_step hg (by omega) hL hx rfl (by rw [ab_up_o (by decide), ab_up_o (by decide), hL.2.2.2.1, hb, hx, hy]; rfl))
      have tail : ∀ (x x7 : Int32), x = dM mu g o fr j → AW X V ShM 9 80 [some (.ref (aL V 0)), some (.int (nI g)), some (.int (nI o)), some (.int fI), some (.int (nI (tM mu g))), some (.int (lM mu g o fr j)), some (.int (nI j)), some (.int x7), none] [.int x] mu1 := by
        intro x x7 hx
        refine a_istore B dX8_lays_80 (by decide) ?_
        refine a_aload_n B dX8_lays_82 rfl ?_
        refine a_getr B fl_X8_lays_25 (by first | rfl | assumption) rfl dX8_lays_83 ?_
        refine a_bipush (v := 24) B dX8_lays_86 (by decide) ?_
        refine a_iload_n B dX8_lays_88 rfl ?_
        refine a_imul B dX8_lays_89 ?_
        refine a_iload B dX8_lays_90 rfl ?_
        refine a_iadd B dX8_lays_92 ?_
        refine a_iload B dX8_lays_93 rfl ?_
        refine a_iastN B (24 * g + j) (by first | rfl | assumption) (ix24 g j) (by omega) (by decide)  dX8_lays_95 ?_
        refine a_aload_n B dX8_lays_96 rfl ?_
        refine a_iload B dX8_lays_97 rfl ?_
        refine a_iload B dX8_lays_99 rfl ?_
        refine a_callVi B k_X8_lays_107 (c_X8_next hV (by rw [hx]; exact dM_in hi hg o fr j)) (by first | rfl | assumption) rfl rfl rfl (Nat.le_of_ble_eq_true rfl) dX8_lays_101 (fun r101 mu101 h101 => ?_)
        obtain ⟨rfl, rfl⟩ := h101
        have hy : nxt (ab_up mu1 6 (24 * g + j) x 4) (lM mu g o fr j) x = lM mu g o fr (j + 1) := by rw [ab_up_o (by decide), pM_at hp 4 rfl, hx]; rfl
        rw [hy]
        refine a_istore B dX8_lays_104 (by decide) ?_
        refine a_aload_n B dX8_lays_106 rfl ?_
        refine a_getr B fl_X8_lays_28 (by first | rfl | assumption) rfl dX8_lays_107 ?_
        refine a_bipush (v := 24) B dX8_lays_110 (by decide) ?_
        refine a_iload_n B dX8_lays_112 rfl ?_
        refine a_imul B dX8_lays_113 ?_
        refine a_iload B dX8_lays_114 rfl ?_
        refine a_iadd B dX8_lays_116 ?_
        refine a_iload B dX8_lays_117 rfl ?_
        refine a_iastN B (24 * g + j) (by first | rfl | assumption) (ix24 g j) (by omega) (by decide)  dX8_lays_119 ?_
        refine a_aload_n B dX8_lays_120 rfl ?_
        refine a_getr B fl_X8_lays_31 (by first | rfl | assumption) rfl dX8_lays_121 ?_
        refine a_iload_n B dX8_lays_124 rfl ?_
        refine a_dup2 B dX8_lays_125 rfl rfl ?_
        refine a_ialdN B (g) (by first | rfl | assumption) rfl (by omega) (by decide) dX8_lays_126 ?_
        refine a_aload_n B dX8_lays_127 rfl ?_
        refine a_iload B dX8_lays_128 rfl ?_
        refine a_iload B dX8_lays_130 rfl ?_
        refine a_callVi B k_X8_lays_111 (c_X8_doesHiccup hV) (by first | rfl | assumption) rfl rfl rfl (Nat.le_of_ble_eq_true rfl) dX8_lays_132 (fun r132 mu132 h132 => ?_)
        obtain ⟨rfl, rfl⟩ := h132
        rw [ab_up_o (by decide), ab_up_o (by decide), pM_at hp 0 rfl]
        refine a_if_eq (tgt := 145) B dX8_lays_135 (by decide) (fun c135 => ?_) (fun c135 => ?_)
        · refine a_iconst (v := 0) B dX8_lays_145 (by decide) ?_
          first
            | exact tail2 x _ _ _ hx rfl (by rw [if_pos (bI_n0.mp c135)])
            | exact tail2 x _ _ _ hx rfl (by rw [if_neg (by rw [bI_0.mp c135]; decide)])
        · refine a_iconst (v := 1) B dX8_lays_138 (by decide) ?_
          refine a_iload B dX8_lays_139 rfl ?_
          refine a_ishl B dX8_lays_141 ?_
          refine a_goto (tgt := 146) B dX8_lays_142 (by decide) ?_
          first
            | exact tail2 x _ _ _ hx rfl (by rw [if_pos (bI_n0.mp c135)])
            | exact tail2 x _ _ _ hx rfl (by rw [if_neg (by rw [bI_0.mp c135]; decide)])
      have hj24 : j < 24 := by omega
      refine a_iload B dX8_lays_25 rfl ?_
      refine a_bipush (v := 24) B dX8_lays_27 (by decide) ?_
      refine a_icmp_ge_f (tgt := 154) B dX8_lays_29 (by decide) (nI_ge (a := j) (b := 24) (by omega) (by decide)) ?_
      refine a_iload B dX8_lays_32 rfl ?_
      refine a_iload_n B dX8_lays_34 rfl ?_
      refine a_isub B dX8_lays_35 ?_
      refine a_istore B dX8_lays_36 (by decide) ?_
      refine a_iload B dX8_lays_38 rfl ?_
      refine a_iload_n B dX8_lays_40 rfl ?_
      refine a_icmp_ne (tgt := 48) B dX8_lays_41 (by decide) (fun c41 => ?_) (fun c41 => ?_)
      · refine a_iload B dX8_lays_48 rfl ?_
        refine a_iconst (v := 0) B dX8_lays_50 (by decide) ?_
        refine a_iload B dX8_lays_51 rfl ?_
        refine a_iconst (v := 1) B dX8_lays_53 (by decide) ?_
        refine a_isub B dX8_lays_54 ?_
        refine a_callSi B k_X8_lays_71 (c_X8_in hV) rfl rfl (Nat.le_of_ble_eq_true rfl) dX8_lays_55 (fun r55 mu55 h55 => ?_)
        obtain ⟨rfl, rfl⟩ := h55
        refine a_if_eq (tgt := 79) B dX8_lays_58 (by decide) (fun c58 => ?_) (fun c58 => ?_)
        · refine a_iconst (v := 0) B dX8_lays_79 (by decide) ?_
          first
            | exact tail 4 _ (by rw [dM, dyD, if_pos ((hfr j (by omega)).mp c41)])
            | exact tail 0 _ (by rw [dM, dyD, if_neg (fun e => c41 ((hfr j (by omega)).mpr e)), if_neg (fun e => absurd (lay_ni hj24 ho (tM_le hi hg) e) (by rw [bI_0.mp c58]; decide))])
            | exact tail _ _ (by rw [dM, dyD, if_neg (fun e => c41 ((hfr j (by omega)).mpr e)), if_pos q2, fM, pM_at hp 2 rfl])
        · refine a_aload_n B dX8_lays_61 rfl ?_
          refine a_getr B fl_X8_lays_13 (by first | rfl | assumption) rfl dX8_lays_62 ?_
          refine a_bipush (v := 24) B dX8_lays_65 (by decide) ?_
          refine a_iload_n B dX8_lays_67 rfl ?_
          refine a_imul B dX8_lays_68 ?_
          refine a_iload B dX8_lays_69 rfl ?_
          refine a_iadd B dX8_lays_71 ?_
          have q := bI_n0.mp c58
          rw [inB_t] at q
          have q2 : o ≤ j ∧ j - o < tM mu g := lay_in hj24 ho (tM_le hi hg) q
          rw [pk_sub q2.1]
          refine a_ialdN B (24 * g + (j - o)) (by first | rfl | assumption) (ix24 g (j - o)) (by omega) (by decide) dX8_lays_72 ?_
          refine a_callSi B k_X8_lays_79 (c_X8_dishBy hV) rfl rfl (Nat.le_of_ble_eq_true rfl) dX8_lays_73 (fun r73 mu73 h73 => ?_)
          obtain ⟨rfl, rfl⟩ := h73
          refine a_goto (tgt := 80) B dX8_lays_76 (by decide) ?_
          first
            | exact tail 4 _ (by rw [dM, dyD, if_pos ((hfr j (by omega)).mp c41)])
            | exact tail 0 _ (by rw [dM, dyD, if_neg (fun e => c41 ((hfr j (by omega)).mpr e)), if_neg (fun e => absurd (lay_ni hj24 ho (tM_le hi hg) e) (by rw [bI_0.mp c58]; decide))])
            | exact tail _ _ (by rw [dM, dyD, if_neg (fun e => c41 ((hfr j (by omega)).mpr e)), if_pos q2, fM, pM_at hp 2 rfl])
      · refine a_iconst (v := 4) B dX8_lays_44 (by decide) ?_
        refine a_goto (tgt := 80) B dX8_lays_45 (by decide) ?_
        first
          | exact tail 4 _ (by rw [dM, dyD, if_pos ((hfr j (by omega)).mp c41)])
          | exact tail 0 _ (by rw [dM, dyD, if_neg (fun e => c41 ((hfr j (by omega)).mpr e)), if_neg (fun e => absurd (lay_ni hj24 ho (tM_le hi hg) e) (by rw [bI_0.mp c58]; decide))])
          | exact tail _ _ (by rw [dM, dyD, if_neg (fun e => c41 ((hfr j (by omega)).mpr e)), if_pos q2, fM, pM_at hp 2 rfl])
  refine a_aload_n B dX8_lays_0 rfl ?_
  refine a_iload_n B dX8_lays_1 rfl ?_
  refine a_callVi B k_X8_lays_104 (c_X8_toldMany hV hg hn.2 hn.1) (by first | rfl | assumption) rfl rfl rfl (Nat.le_of_ble_eq_true rfl) dX8_lays_2 (fun r2 mu2 h2 => ?_)
  obtain ⟨rfl, rfl⟩ := h2
  refine a_istore B dX8_lays_5 (by decide) ?_
  refine a_aload_n B dX8_lays_7 rfl ?_
  refine a_getr B fl_X8_lays_16 (by first | rfl | assumption) rfl dX8_lays_8 ?_
  refine a_iload_n B dX8_lays_11 rfl ?_
  refine a_ialdN B (g) (by first | rfl | assumption) rfl (by omega) (by decide) dX8_lays_12 ?_
  refine a_istore B dX8_lays_13 (by decide) ?_
  refine a_aload_n B dX8_lays_15 rfl ?_
  refine a_getr B fl_X8_lays_31 (by first | rfl | assumption) rfl dX8_lays_16 ?_
  refine a_iload_n B dX8_lays_19 rfl ?_
  refine a_iconst (v := 0) B dX8_lays_20 (by decide) ?_
  refine a_iastN B (g) (by first | rfl | assumption) rfl (by omega) (by decide)  dX8_lays_21 ?_
  refine a_iconst (v := 0) B dX8_lays_22 (by decide) ?_
  refine a_istore B dX8_lays_23 (by decide) ?_
  refine loop 24 0 rfl _ ⟨pM_up rfl, fun h hh => by omega, fun h hh => by omega, by rw [ab_up_k]; rfl, fun g2 _ hne => ⟨fun h _ => ⟨by rw [ab_up_o (by decide)], by rw [ab_up_o (by decide)]⟩, by rw [ab_up_s, pk_un hne]⟩⟩
theorem hfr_no : ∀ h, h < 24 → (nI h = (-1 : Int32) ↔ h = 99) := fun h hh => ⟨fun e => absurd e (nI_neg1 (by omega)), fun e => by omega⟩
def LA_n (mu : ab_mem) (n : Nat) (mu2 : ab_mem) : Prop := pM mu2 = pM mu ∧ ∀ g, g < n → (∀ h, h < 24 → mu2 6 (24 * g + h) = dM mu g 0 99 h) ∧ (∀ h, h < 24 → mu2 7 (24 * g + h) = lM mu g 0 99 (h + 1)) ∧ mu2 8 g = bM mu g 0 99 24
theorem LA_step {mu mu1 mu2 : ab_mem} {j : Nat} (hj : j < 3) (h : LA_n mu j mu1) (h2 : LY mu1 j 0 99 24 mu2) : LA_n mu (j + 1) mu2 := by
  obtain ⟨a1, a2⟩ := h
  obtain ⟨b1, b2, b3, b4, b5⟩ := h2
  refine ⟨b1.trans a1, fun g hg => ?_⟩
  by_cases e : g = j
  · subst e
    refine ⟨fun h hh => ?_, fun h hh => ?_, ?_⟩
    · rw [b2 h hh, dM_p a1]
    · rw [b3 h hh, lM_p a1]
    · rw [b4, bM_p a1]
  · obtain ⟨c1, c2, c3⟩ := a2 g (by omega)
    obtain ⟨d1, d2⟩ := b5 g (by omega) e
    exact ⟨fun h hh => by rw [(d1 h hh).1]; exact c1 h hh, fun h hh => by rw [(d1 h hh).2]; exact c2 h hh, by rw [d2]; exact c3⟩
abbrev rm_X8_laysAll : Room := { frames := 4, cells := 0, slots := 0, locals := 91 }
theorem k_X8_laysAll_115 : KV RX8 wsX8_laysAll rm_X8_laysAll 115 RX8 yX8_lays wsX8_lays rm_X8_lays 3 := ⟨_, _, _, _, gX8_laysAll_X8_lays, rfl, rfl, rfl, by decide +kernel, by decide⟩

set_option maxHeartbeats 4000000 in
set_option maxRecDepth 100000 in
theorem c_X8_laysAll {l : Launch} {V : ab_V} {mu : ab_mem}  (hV : ab_OK V ShM) (hi : IM mu) : CT l V ShM yX8_laysAll wsX8_laysAll rm_X8_laysAll [.ref (aL V 0)] mu (pV (fun mu2 => LA mu mu2)) := by
  refine ab_enter hV (by decide) rfl (Nat.le_of_ble_eq_true rfl) ?_
  intro X B E
  have B : CX X l rm_X8_laysAll RX8 cX8_laysAll wsX8_laysAll 2 V ShM := B
  show AW X V ShM 2 0 [some (.ref (aL V 0)), none] [] mu
  have loop : ∀ (m j : Nat), j + m = 3 → ∀ (mu1 : ab_mem), LA_n mu j mu1 → AW X V ShM 2 2 [some (.ref (aL V 0)), some (.int (nI j))] [] mu1 := by
    intro m
    induction m with
    | zero =>
      intro j hj mu1 hL
      have e : j = 3 := by omega
      subst e
      refine a_iload_n B dX8_laysAll_2 rfl ?_
      refine a_iconst (v := 3) B dX8_laysAll_3 (by decide) ?_
      refine a_icmp_ge_t (tgt := 20) B dX8_laysAll_4 (by decide) (by decide) ?_
      refine a_return B E dX8_laysAll_20 ?_
      exact hL
    | succ m ih =>
      intro j hj mu1 hL
      refine a_iload_n B dX8_laysAll_2 rfl ?_
      refine a_iconst (v := 3) B dX8_laysAll_3 (by decide) ?_
      refine a_icmp_ge_f (tgt := 20) B dX8_laysAll_4 (by decide) (nI_ge (a := j) (b := 3) (by omega) (by decide)) ?_
      refine a_aload_n B dX8_laysAll_7 rfl ?_
      refine a_iload_n B dX8_laysAll_8 rfl ?_
      refine a_iconst (v := 0) B dX8_laysAll_9 (by decide) ?_
      refine a_iconst (v := -1) B dX8_laysAll_10 (by decide) ?_
      refine a_callVv B k_X8_laysAll_115 (c_X8_lays (o := 0) (fr := 99) hV (IM_p hL.1 hi) (by omega) (by decide) hfr_no) (by first | rfl | assumption) rfl rfl rfl (Nat.le_of_ble_eq_true rfl) dX8_laysAll_11 (fun mu11 h11 => ?_)
      refine a_iinc (v := 1) B dX8_laysAll_14 rfl (by decide) (by decide) ?_
      refine a_goto (tgt := 2) B dX8_laysAll_17 (by decide) ?_
      rw [nI_1]
      exact ih (j + 1) (by omega) _ (LA_step (by omega) hL h11)
  refine a_iconst (v := 0) B dX8_laysAll_0 (by decide) ?_
  refine a_istore_n B dX8_laysAll_1 (by decide) ?_
  exact loop 3 0 rfl _ ⟨rfl, fun g hg => by omega⟩
