def LYX (mu : ab_mem) (d g o : Nat) (mu2 : ab_mem) : Prop := (∀ q, q ≠ d → q ≠ d + 1 → mu2 q = mu q) ∧ (∀ h, h < 24 → mu2 (d + 1) h = dX mu g o 99 h) ∧ mu2 d 2 = mu (19 + 2 * g) 3
theorem lay_ge {j o t : Nat} (hj : j < 24) (ho : o < 24) (ht : t ≤ 24) (h : nI t ≤ nI j - nI o) : ¬ (o ≤ j ∧ j - o < t) := by
  rw [fa_le, pk_sub_toInt (a := j) (b := o) (by omega) (by omega), nI_toInt (by omega)] at h
  omega
theorem lay_lt {j o t : Nat} (hj : j < 24) (ho : o ≤ j) (ht : t ≤ 24) (h : ¬ nI t ≤ nI j - nI o) : j - o < t := by
  rw [pk_sub ho] at h
  exact Nat.lt_of_not_le fun q => h (nI_le q (by omega))
abbrev rm_X0_lay : Room := { frames := 1, cells := 0, slots := 0, locals := 21 }
set_option maxRecDepth 20000 in
theorem us_X0_lay_0 : ∀ w ∈ u_ws RX0 TX0 3, w ∈ wsX0_lay := by decide +kernel
set_option maxRecDepth 20000 in
theorem us_X0_lay_1 : ∀ w ∈ u_ws RX1 TX1 4, w ∈ wsX0_lay := by decide +kernel
set_option maxRecDepth 20000 in
theorem fl_X0_lay_9 : FL RX0 wsX0_lay 9 0 0 := ⟨RX0, TX0, 3, rfl, by decide, us_X0_lay_0, by decide +kernel⟩
set_option maxRecDepth 20000 in
theorem fl_X0_lay_32 : FL RX0 wsX0_lay 32 1 3 := ⟨RX1, TX1, 4, rfl, by decide, us_X0_lay_1, by decide +kernel⟩
set_option maxRecDepth 20000 in
theorem fp_X0_lay_18 : FP RX0 wsX0_lay 18 0 2 .int := ⟨RX0, TX0, 3, tyX0, rfl, by decide, us_X0_lay_0, by decide +kernel, tyX0_ok, nmX0, rfl, rfl⟩
theorem k_X0_lay_22 : KV RX0 wsX0_lay rm_X0_lay 22 RX1 yX1_dishesTold wsX1_dishesTold rm_X1_dishesTold 0 := ⟨_, _, _, _, gX0_lay_X1_dishesTold, rfl, rfl, rfl, by decide +kernel, by decide⟩
theorem k_X0_lay_28 : KV RX0 wsX0_lay rm_X0_lay 28 RX1 yX1_dishAt wsX1_dishAt rm_X1_dishAt 1 := ⟨_, _, _, _, gX0_lay_X1_dishAt, rfl, rfl, rfl, by decide +kernel, by decide⟩

set_option maxHeartbeats 4000000 in
set_option maxRecDepth 100000 in
theorem c_X0_lay {l : Launch} {V : ab_V} {mu : ab_mem} {d g o : Nat} (hV : OKX V) (hL : DL d) (hi : IX mu) (hg : g < 3) (ho : o < 24) : CT l V ShX yX0_lay wsX0_lay rm_X0_lay [.ref (aL V d), .ref (aL V (19 + 2 * g)), .int (nI o)] mu (pV (fun mu2 => LYX mu d g o mu2)) := by
  refine ab_enter hV.1 (by decide) rfl (Nat.le_of_ble_eq_true rfl) ?_
  intro X B E
  have B : CX X l rm_X0_lay RX0 cX0_lay wsX0_lay 5 V ShX := B
  show AW X V ShX 5 0 [some (.ref (aL V d)), some (.ref (aL V (19 + 2 * g))), some (.int (nI o)), none, none] [] mu
  have q5 := shD hL
  have q6 := shD1 hL
  have q7 := shD2 hL
  have q1 := shG hg
  have q2 := shGm hg
  have hn1 := hi.1 g hg
  have loop : ∀ (m j : Nat), j + m = 24 → ∀ mu1, ((∀ q, q ≠ d + 1 → mu1 q = mu q) ∧ ∀ h, h < j → mu1 (d + 1) h = dX mu g o 99 h) → AW X V ShX 5 8 [some (.ref (aL V d)), some (.ref (aL V (19 + 2 * g))), some (.int (nI o)), some (.int (nI (tX mu g))), some (.int (nI j))] [] mu1 := by
    intro m
    induction m with
    | zero =>
      intro j hj mu1 hq
      have e : j = 24 := by omega
      subst e
      refine a_iload B dX0_lay_8 rfl ?_
      refine a_bipush (v := 24) B dX0_lay_10 (by decide) ?_
      refine a_icmp_ge_t (tgt := 48) B dX0_lay_12 (by decide) (by decide) ?_
      refine a_aload_n B dX0_lay_48 rfl ?_
      refine a_aload_n B dX0_lay_49 rfl ?_
      refine a_geti B fl_X0_lay_32 (by first | rfl | assumption) rfl dX0_lay_50 ?_
      refine a_put B fp_X0_lay_18 (by first | rfl | assumption) rfl rfl rfl dX0_lay_53 ?_
      refine a_return B E dX0_lay_56 ?_
      have hne := sc_ne (DL_sc hL).2.1 (scG hg).1
      have hne2 := sc_ne (DL_sc hL).1 (scG hg).1
      have e1 : mu1 (19 + 2 * g) 3 = mu (19 + 2 * g) 3 := by rw [hq.1 _ hne]
      refine ⟨fun q h1 h2 => by rw [ab_up_o h1]; exact hq.1 q h2, fun h hh => by rw [ab_up_o (by omega)]; exact hq.2 h hh, by rw [ab_up_k, e1]⟩
    | succ m ih =>
      intro j hj mu1 hq
      have t41 : ∀ x : Int32, x = dX mu g o 99 j → AW X V ShX 5 41 [some (.ref (aL V d)), some (.ref (aL V (19 + 2 * g))), some (.int (nI o)), some (.int (nI (tX mu g))), some (.int (nI j))] [.int x, .int (nI j), .ref (aL V (d + 1))] mu1 := by
        intro x hx
        refine a_iastN B (j) (by first | rfl | assumption) rfl (by omega) (by decide)  dX0_lay_41 ?_
        refine a_iinc (v := 1) B dX0_lay_42 rfl (by decide) (by decide) ?_
        refine a_goto (tgt := 8) B dX0_lay_45 (by decide) ?_
        rw [nI_1]
        refine ih (j + 1) (by omega) _ ⟨fun q hq1 => by rw [ab_up_o hq1]; exact hq.1 q hq1, fun h hh => ?_⟩
        rw [ab_up_s]
        by_cases e : h = j
        · rw [e, pk_us, hx]
        · rw [pk_un e]; exact hq.2 h (by omega)
      have en : mu1 (19 + 2 * g) = mu (19 + 2 * g) := hq.1 _ (sc_ne (DL_sc hL).2.1 (scG hg).1)
      have enx : nX mu1 g = nX mu g := by unfold nX; rw [en]
      have efx : fX mu1 g = fX mu g := hq.1 _ (sc_ne (DL_sc hL).2.1 (scG hg).2)
      rcases Nat.lt_or_ge j o with hjo | hjo
      · skip
        refine a_iload B dX0_lay_8 rfl ?_
        refine a_bipush (v := 24) B dX0_lay_10 (by decide) ?_
        refine a_icmp_ge_f (tgt := 48) B dX0_lay_12 (by decide) (nI_ge (a := j) (b := 24) (by omega) (by decide)) ?_
        refine a_aload_n B dX0_lay_15 rfl ?_
        refine a_getr B fl_X0_lay_9 (by first | rfl | assumption) rfl dX0_lay_16 ?_
        refine a_iload B dX0_lay_19 rfl ?_
        refine a_iload B dX0_lay_21 rfl ?_
        refine a_iload_n B dX0_lay_23 rfl ?_
        refine a_isub B dX0_lay_24 ?_
        refine a_iload_n B dX0_lay_25 rfl ?_
        refine a_icmp_ge (tgt := 40) B dX0_lay_26 (by decide) (fun c26 => ?_) (fun c26 => ?_)
        · refine a_iconst (v := 0) B dX0_lay_40 (by decide) ?_
          first
            | exact t41 0 (by rw [dX, dyD, if_neg (by omega), if_neg (lay_ge (by omega) ho (tX_le hi hg) c26)])
            | exact t41 0 (by rw [dX, dyD, if_neg (by omega), if_neg (by omega)])
        · refine a_aload_n B dX0_lay_29 rfl ?_
          refine a_iload B dX0_lay_30 rfl ?_
          refine a_iload_n B dX0_lay_32 rfl ?_
          refine a_isub B dX0_lay_33 ?_
          refine a_callVi B k_X0_lay_28 (c_X1_dishAt_neg hV hg (pk_sneg (by omega) hjo)) (by first | rfl | assumption) rfl rfl rfl (Nat.le_of_ble_eq_true rfl) dX0_lay_34 (fun r34 mu34 h34 => ?_)
          obtain ⟨rfl, rfl⟩ := h34
          refine a_goto (tgt := 41) B dX0_lay_37 (by decide) ?_
          first
            | exact t41 0 (by rw [dX, dyD, if_neg (by omega), if_neg (lay_ge (by omega) ho (tX_le hi hg) c26)])
            | exact t41 0 (by rw [dX, dyD, if_neg (by omega), if_neg (by omega)])
      · skip
        refine a_iload B dX0_lay_8 rfl ?_
        refine a_bipush (v := 24) B dX0_lay_10 (by decide) ?_
        refine a_icmp_ge_f (tgt := 48) B dX0_lay_12 (by decide) (nI_ge (a := j) (b := 24) (by omega) (by decide)) ?_
        refine a_aload_n B dX0_lay_15 rfl ?_
        refine a_getr B fl_X0_lay_9 (by first | rfl | assumption) rfl dX0_lay_16 ?_
        refine a_iload B dX0_lay_19 rfl ?_
        refine a_iload B dX0_lay_21 rfl ?_
        refine a_iload_n B dX0_lay_23 rfl ?_
        refine a_isub B dX0_lay_24 ?_
        refine a_iload_n B dX0_lay_25 rfl ?_
        refine a_icmp_ge (tgt := 40) B dX0_lay_26 (by decide) (fun c26 => ?_) (fun c26 => ?_)
        · refine a_iconst (v := 0) B dX0_lay_40 (by decide) ?_
          first
            | exact t41 0 (by rw [dX, dyD, if_neg (by omega), if_neg (lay_ge (by omega) ho (tX_le hi hg) c26)])
            | exact t41 _ (by rw [efx, dX, dyD, if_neg (by omega), if_pos ⟨hjo, hlt⟩])
        · refine a_aload_n B dX0_lay_29 rfl ?_
          refine a_iload B dX0_lay_30 rfl ?_
          refine a_iload_n B dX0_lay_32 rfl ?_
          refine a_isub B dX0_lay_33 ?_
          have hlt := lay_lt (by omega) hjo (tX_le hi hg) c26
          rw [pk_sub hjo]
          refine a_callVi B k_X0_lay_28 (c_X1_dishAt hV hg (by rw [en, enx]; exact hn1.1) (by rw [enx]; exact hn1.2.1) (by rw [enx]; have := tX_n (mu := mu) (g := g); omega)) (by first | rfl | assumption) rfl rfl rfl (Nat.le_of_ble_eq_true rfl) dX0_lay_34 (fun r34 mu34 h34 => ?_)
          obtain ⟨rfl, rfl⟩ := h34
          refine a_goto (tgt := 41) B dX0_lay_37 (by decide) ?_
          first
            | exact t41 0 (by rw [dX, dyD, if_neg (by omega), if_neg (lay_ge (by omega) ho (tX_le hi hg) c26)])
            | exact t41 _ (by rw [efx, dX, dyD, if_neg (by omega), if_pos ⟨hjo, hlt⟩])
  refine a_aload_n B dX0_lay_0 rfl ?_
  refine a_callVi B k_X0_lay_22 (c_X1_dishesTold hV hg hn1.1) (by first | rfl | assumption) rfl rfl rfl (Nat.le_of_ble_eq_true rfl) dX0_lay_1 (fun r1 mu1 h1 => ?_)
  obtain ⟨rfl, rfl⟩ := h1
  refine a_istore_n B dX0_lay_4 (by decide) ?_
  refine a_iconst (v := 0) B dX0_lay_5 (by decide) ?_
  refine a_istore B dX0_lay_6 (by decide) ?_
  exact loop 24 0 rfl mu ⟨fun _ _ => rfl, fun h hh => by omega⟩
abbrev rm_X0_live : Room := { frames := 1, cells := 0, slots := 0, locals := 23 }
set_option maxRecDepth 20000 in
theorem us_X0_live_0 : ∀ w ∈ u_ws RX0 TX0 3, w ∈ wsX0_live := by decide +kernel
set_option maxRecDepth 20000 in
theorem fl_X0_live_9 : FL RX0 wsX0_live 9 0 0 := ⟨RX0, TX0, 3, rfl, by decide, us_X0_live_0, by decide +kernel⟩
set_option maxRecDepth 20000 in
theorem fl_X0_live_15 : FL RX0 wsX0_live 15 0 1 := ⟨RX0, TX0, 3, rfl, by decide, us_X0_live_0, by decide +kernel⟩
set_option maxRecDepth 20000 in
theorem fl_X0_live_18 : FL RX0 wsX0_live 18 0 2 := ⟨RX0, TX0, 3, rfl, by decide, us_X0_live_0, by decide +kernel⟩
theorem k_X0_live_35 : KV RX0 wsX0_live rm_X0_live 35 RX3 yX3_levelAfter wsX3_levelAfter rm_X3_levelAfter 2 := ⟨_, _, _, _, gX0_live_X3_levelAfter, rfl, rfl, rfl, by decide +kernel, by decide⟩

set_option maxHeartbeats 4000000 in
set_option maxRecDepth 100000 in
theorem c_X0_live {l : Launch} {V : ab_V} {mu : ab_mem} {d : Nat} (hV : OKX V) (hL : DL d) (hin : ∀ h, h < 24 → vp_in (mu (d + 1) h) 7) : CT l V ShX yX0_live wsX0_live rm_X0_live [.ref (aL V d), .ref (aL V 4)] mu (pV (fun mu2 => (∀ q, q ≠ d + 2 → mu2 q = mu q) ∧ ∀ h, h < 24 → mu2 (d + 2) h = (lvB (mu 5) (mu d 2) (mu (d + 1)) (h + 1)))) := by
  refine ab_enter hV.1 (by decide) rfl (Nat.le_of_ble_eq_true rfl) ?_
  intro X B E
  have B : CX X l rm_X0_live RX0 cX0_live wsX0_live 4 V ShX := B
  show AW X V ShX 4 0 [some (.ref (aL V d)), some (.ref (aL V 4)), none, none] [] mu
  have q5 := shD hL
  have q6 := shD1 hL
  have q7 := shD2 hL
  have loop : ∀ (m j : Nat), j + m = 24 → ∀ mu1, ((∀ q, q ≠ d + 2 → mu1 q = mu q) ∧ ∀ h, h < j → mu1 (d + 2) h = (lvB (mu 5) (mu d 2) (mu (d + 1)) (h + 1))) → AW X V ShX 4 7 [some (.ref (aL V d)), some (.ref (aL V 4)), some (.int (lvB (mu 5) (mu d 2) (mu (d + 1)) j)), some (.int (nI j))] [] mu1 := by
    intro m
    induction m with
    | zero =>
      intro j hj mu1 hq
      have e : j = 24 := by omega
      subst e
      refine a_iload_n B dX0_live_7 rfl ?_
      refine a_bipush (v := 24) B dX0_live_8 (by decide) ?_
      refine a_icmp_ge_t (tgt := 38) B dX0_live_10 (by decide) (by decide) ?_
      refine a_return B E dX0_live_38 ?_
      exact hq
    | succ m ih =>
      intro j hj mu1 hq
      refine a_iload_n B dX0_live_7 rfl ?_
      refine a_bipush (v := 24) B dX0_live_8 (by decide) ?_
      refine a_icmp_ge_f (tgt := 38) B dX0_live_10 (by decide) (nI_ge (a := j) (b := 24) (by omega) (by decide)) ?_
      refine a_aload_n B dX0_live_13 rfl ?_
      refine a_iload_n B dX0_live_14 rfl ?_
      refine a_aload_n B dX0_live_15 rfl ?_
      refine a_getr B fl_X0_live_9 (by first | rfl | assumption) rfl dX0_live_16 ?_
      refine a_iload_n B dX0_live_19 rfl ?_
      refine a_ialdN B (j) (by first | rfl | assumption) rfl (by omega) (by decide) dX0_live_20 ?_
      rw [hq.1 _ (by omega)]
      refine a_callVi B k_X0_live_35 (c_X3_levelAfter hV (hin j (by omega))) (by first | rfl | assumption) rfl rfl rfl (Nat.le_of_ble_eq_true rfl) dX0_live_21 (fun r21 mu21 h21 => ?_)
      obtain ⟨rfl, rfl⟩ := h21
      rw [hq.1 5 (fun e => absurd (e ▸ (DL_sc hL).2.2) (by decide))]
      refine a_istore_n B dX0_live_24 (by decide) ?_
      refine a_aload_n B dX0_live_25 rfl ?_
      refine a_getr B fl_X0_live_15 (by first | rfl | assumption) rfl dX0_live_26 ?_
      refine a_iload_n B dX0_live_29 rfl ?_
      refine a_iload_n B dX0_live_30 rfl ?_
      refine a_iastN B (j) (by first | rfl | assumption) rfl (by omega) (by decide)  dX0_live_31 ?_
      refine a_iinc (v := 1) B dX0_live_32 rfl (by decide) (by decide) ?_
      refine a_goto (tgt := 7) B dX0_live_35 (by decide) ?_
      rw [nI_1]
      have z := ih (j + 1) (by omega) (ab_up mu1 (d + 2) j (nxt (mu 5) (lvB (mu 5) (mu d 2) (mu (d + 1)) j) (mu (d + 1) j))) ⟨fun q hq1 => by rw [ab_up_o hq1]; exact hq.1 q hq1, fun h hh => by
        rw [ab_up_s]
        by_cases e : h = j
        · rw [e, pk_us]; rfl
        · rw [pk_un e]; exact hq.2 h (by omega)⟩
      exact z
  refine a_aload_n B dX0_live_0 rfl ?_
  refine a_geti B fl_X0_live_18 (by first | rfl | assumption) rfl dX0_live_1 ?_
  refine a_istore_n B dX0_live_4 (by decide) ?_
  refine a_iconst (v := 0) B dX0_live_5 (by decide) ?_
  refine a_istore_n B dX0_live_6 (by decide) ?_
  exact loop 24 0 rfl mu ⟨fun _ _ => rfl, fun h hh => by omega⟩
abbrev rm_X0_hiccupHours : Room := { frames := 1, cells := 0, slots := 0, locals := 22 }
set_option maxRecDepth 20000 in
theorem us_X0_hiccupHours_0 : ∀ w ∈ u_ws RX0 TX0 3, w ∈ wsX0_hiccupHours := by decide +kernel
set_option maxRecDepth 20000 in
theorem fl_X0_hiccupHours_9 : FL RX0 wsX0_hiccupHours 9 0 0 := ⟨RX0, TX0, 3, rfl, by decide, us_X0_hiccupHours_0, by decide +kernel⟩
set_option maxRecDepth 20000 in
theorem fl_X0_hiccupHours_15 : FL RX0 wsX0_hiccupHours 15 0 1 := ⟨RX0, TX0, 3, rfl, by decide, us_X0_hiccupHours_0, by decide +kernel⟩
theorem k_X0_hiccupHours_41 : KV RX0 wsX0_hiccupHours rm_X0_hiccupHours 41 RX3 yX3_hiccupsAt wsX3_hiccupsAt rm_X3_hiccupsAt 2 := ⟨_, _, _, _, gX0_hiccupHours_X3_hiccupsAt, rfl, rfl, rfl, by decide +kernel, by decide⟩

set_option maxHeartbeats 4000000 in
set_option maxRecDepth 100000 in
theorem c_X0_hiccupHours {l : Launch} {V : ab_V} {mu : ab_mem} {d : Nat} (hV : OKX V) (hL : DL d) : CT l V ShX yX0_hiccupHours wsX0_hiccupHours rm_X0_hiccupHours [.ref (aL V d), .ref (aL V 4)] mu (pI (fun r mu2 => r = (hhF (mu 4 2) (mu (d + 2)) (mu (d + 1)) 24) ∧ mu = mu2)) := by
  refine ab_enter hV.1 (by decide) rfl (Nat.le_of_ble_eq_true rfl) ?_
  intro X B E
  have B : CX X l rm_X0_hiccupHours RX0 cX0_hiccupHours wsX0_hiccupHours 4 V ShX := B
  show AW X V ShX 4 0 [some (.ref (aL V d)), some (.ref (aL V 4)), none, none] [] mu
  have q5 := shD hL
  have q6 := shD1 hL
  have q7 := shD2 hL
  have loop : ∀ (m j : Nat), j + m = 24 → AW X V ShX 4 4 [some (.ref (aL V d)), some (.ref (aL V 4)), some (.int (hhF (mu 4 2) (mu (d + 2)) (mu (d + 1)) j)), some (.int (nI j))] [] mu := by
    intro m
    induction m with
    | zero =>
      intro j hj
      have e : j = 24 := by omega
      subst e
      refine a_iload_n B dX0_hiccupHours_4 rfl ?_
      refine a_bipush (v := 24) B dX0_hiccupHours_5 (by decide) ?_
      refine a_icmp_ge_t (tgt := 41) B dX0_hiccupHours_7 (by decide) (by decide) ?_
      refine a_iload_n B dX0_hiccupHours_41 rfl ?_
      refine a_ireturn B E dX0_hiccupHours_42 ?_
      exact ⟨rfl, rfl⟩
    | succ m ih =>
      intro j hj
      refine a_iload_n B dX0_hiccupHours_4 rfl ?_
      refine a_bipush (v := 24) B dX0_hiccupHours_5 (by decide) ?_
      refine a_icmp_ge_f (tgt := 41) B dX0_hiccupHours_7 (by decide) (nI_ge (a := j) (b := 24) (by omega) (by decide)) ?_
      refine a_aload_n B dX0_hiccupHours_10 rfl ?_
      refine a_aload_n B dX0_hiccupHours_11 rfl ?_
      refine a_getr B fl_X0_hiccupHours_15 (by first | rfl | assumption) rfl dX0_hiccupHours_12 ?_
      refine a_iload_n B dX0_hiccupHours_15 rfl ?_
      refine a_ialdN B (j) (by first | rfl | assumption) rfl (by omega) (by decide) dX0_hiccupHours_16 ?_
      refine a_aload_n B dX0_hiccupHours_17 rfl ?_
      refine a_getr B fl_X0_hiccupHours_9 (by first | rfl | assumption) rfl dX0_hiccupHours_18 ?_
      refine a_iload_n B dX0_hiccupHours_21 rfl ?_
      refine a_ialdN B (j) (by first | rfl | assumption) rfl (by omega) (by decide) dX0_hiccupHours_22 ?_
      refine a_callVi B k_X0_hiccupHours_41 (c_X3_hiccupsAt hV) (by first | rfl | assumption) rfl rfl rfl (Nat.le_of_ble_eq_true rfl) dX0_hiccupHours_23 (fun r23 mu23 h23 => ?_)
      obtain ⟨rfl, rfl⟩ := h23
      refine a_if_eq (tgt := 35) B dX0_hiccupHours_26 (by decide) (fun c26 => ?_) (fun c26 => ?_)
      · refine a_iinc (v := 1) B dX0_hiccupHours_35 rfl (by decide) (by decide) ?_
        refine a_goto (tgt := 4) B dX0_hiccupHours_38 (by decide) ?_
        rw [nI_1]
        have z := ih (j + 1) (by omega)
        rw [hhF] at z
        first
          | (rw [if_neg (by rw [bI_0.mp c26]; decide), or_0] at z; exact z)
          | (rw [if_pos (bI_n0.mp c26)] at z; exact z)
      · refine a_iload_n B dX0_hiccupHours_29 rfl ?_
        refine a_iconst (v := 1) B dX0_hiccupHours_30 (by decide) ?_
        refine a_iload_n B dX0_hiccupHours_31 rfl ?_
        refine a_ishl B dX0_hiccupHours_32 ?_
        refine a_ior B dX0_hiccupHours_33 ?_
        refine a_istore_n B dX0_hiccupHours_34 (by decide) ?_
        refine a_iinc (v := 1) B dX0_hiccupHours_35 rfl (by decide) (by decide) ?_
        refine a_goto (tgt := 4) B dX0_hiccupHours_38 (by decide) ?_
        rw [nI_1]
        have z := ih (j + 1) (by omega)
        rw [hhF] at z
        first
          | (rw [if_neg (by rw [bI_0.mp c26]; decide), or_0] at z; exact z)
          | (rw [if_pos (bI_n0.mp c26)] at z; exact z)
  refine a_iconst (v := 0) B dX0_hiccupHours_0 (by decide) ?_
  refine a_istore_n B dX0_hiccupHours_1 (by decide) ?_
  refine a_iconst (v := 0) B dX0_hiccupHours_2 (by decide) ?_
  refine a_istore_n B dX0_hiccupHours_3 (by decide) ?_
  exact loop 24 0 rfl
abbrev rm_X0_levelAhead : Room := { frames := 0, cells := 0, slots := 0, locals := 0 }
set_option maxRecDepth 20000 in
theorem us_X0_levelAhead_0 : ∀ w ∈ u_ws RX0 TX0 3, w ∈ wsX0_levelAhead := by decide +kernel
set_option maxRecDepth 20000 in
theorem fl_X0_levelAhead_15 : FL RX0 wsX0_levelAhead 15 0 1 := ⟨RX0, TX0, 3, rfl, by decide, us_X0_levelAhead_0, by decide +kernel⟩
set_option maxRecDepth 20000 in
theorem fl_X0_levelAhead_18 : FL RX0 wsX0_levelAhead 18 0 2 := ⟨RX0, TX0, 3, rfl, by decide, us_X0_levelAhead_0, by decide +kernel⟩

set_option maxHeartbeats 4000000 in
set_option maxRecDepth 100000 in
theorem c_X0_levelAhead_0 {l : Launch} {V : ab_V} {mu : ab_mem} {d : Nat} (hV : OKX V) (hL : DL d) : CT l V ShX yX0_levelAhead wsX0_levelAhead rm_X0_levelAhead [.ref (aL V d), .int (nI 0)] mu (pI (fun r mu2 => r = mu d 2 ∧ mu = mu2)) := by
  refine ab_enter hV.1 (by decide) rfl (Nat.le_of_ble_eq_true rfl) ?_
  intro X B E
  have B : CX X l rm_X0_levelAhead RX0 cX0_levelAhead wsX0_levelAhead 2 V ShX := B
  show AW X V ShX 2 0 [some (.ref (aL V d)), some (.int (nI 0))] [] mu
  have q5 := shD hL
  have q6 := shD1 hL
  have q7 := shD2 hL
  refine a_iload_n B dX0_levelAhead_0 rfl ?_
  refine a_if_le_t (tgt := 21) B dX0_levelAhead_1 (by decide) (by decide) ?_
  refine a_aload_n B dX0_levelAhead_21 rfl ?_
  refine a_geti B fl_X0_levelAhead_18 (by first | rfl | assumption) rfl dX0_levelAhead_22 ?_
  refine a_ireturn B E dX0_levelAhead_25 ?_
  exact ⟨rfl, rfl⟩
set_option maxHeartbeats 4000000 in
set_option maxRecDepth 100000 in
theorem c_X0_levelAhead_s {l : Launch} {V : ab_V} {mu : ab_mem} {d h : Nat} (hV : OKX V) (hL : DL d) (hh : h < 24) : CT l V ShX yX0_levelAhead wsX0_levelAhead rm_X0_levelAhead [.ref (aL V d), .int (nI (h + 1))] mu (pI (fun r mu2 => r = mu (d + 2) h ∧ mu = mu2)) := by
  refine ab_enter hV.1 (by decide) rfl (Nat.le_of_ble_eq_true rfl) ?_
  intro X B E
  have B : CX X l rm_X0_levelAhead RX0 cX0_levelAhead wsX0_levelAhead 2 V ShX := B
  show AW X V ShX 2 0 [some (.ref (aL V d)), some (.int (nI (h + 1)))] [] mu
  have q5 := shD hL
  have q6 := shD1 hL
  have q7 := shD2 hL
  refine a_iload_n B dX0_levelAhead_0 rfl ?_
  refine a_if_le_f (tgt := 21) B dX0_levelAhead_1 (by decide) (nI_nle (by omega) (by omega)) ?_
  refine a_iload_n B dX0_levelAhead_4 rfl ?_
  refine a_bipush (v := 24) B dX0_levelAhead_5 (by decide) ?_
  refine a_icmp_gt_f (tgt := 21) B dX0_levelAhead_7 (by decide) (nI_nlt (a := 24) (b := h + 1) (by omega) (by decide)) ?_
  refine a_aload_n B dX0_levelAhead_10 rfl ?_
  refine a_getr B fl_X0_levelAhead_15 (by first | rfl | assumption) rfl dX0_levelAhead_11 ?_
  refine a_iload_n B dX0_levelAhead_14 rfl ?_
  refine a_iconst (v := 1) B dX0_levelAhead_15 (by decide) ?_
  refine a_isub B dX0_levelAhead_16 ?_
  refine a_ialdN B (h) (by first | rfl | assumption) (nI_pred h) (by omega) (by decide) dX0_levelAhead_17 ?_
  refine a_goto (tgt := 25) B dX0_levelAhead_18 (by decide) ?_
  refine a_ireturn B E dX0_levelAhead_25 ?_
  exact ⟨rfl, rfl⟩
abbrev rm_X0_chanceAt : Room := { frames := 2, cells := 0, slots := 0, locals := 42 }
set_option maxRecDepth 20000 in
theorem us_X0_chanceAt_0 : ∀ w ∈ u_ws RX0 TX0 3, w ∈ wsX0_chanceAt := by decide +kernel
set_option maxRecDepth 20000 in
theorem fl_X0_chanceAt_9 : FL RX0 wsX0_chanceAt 9 0 0 := ⟨RX0, TX0, 3, rfl, by decide, us_X0_chanceAt_0, by decide +kernel⟩
set_option maxRecDepth 20000 in
theorem fl_X0_chanceAt_15 : FL RX0 wsX0_chanceAt 15 0 1 := ⟨RX0, TX0, 3, rfl, by decide, us_X0_chanceAt_0, by decide +kernel⟩
set_option maxRecDepth 20000 in
theorem k_X0_chanceAt_45 : KN RX0 wsX0_chanceAt rm_X0_chanceAt yX7_isHour wsX7_isHour rm_X7_isHour 1 := ⟨_, _, _, _, gX0_chanceAt_X7_isHour_n45, by decide +kernel, by decide +kernel, rfl, rfl, rfl, by decide +kernel, by decide⟩

set_option maxHeartbeats 4000000 in
set_option maxRecDepth 100000 in
theorem c_X0_chanceAt {l : Launch} {V : ab_V} {mu : ab_mem} {d h : Nat} (hV : OKX V) (hL : DL d) (hh : h < 24) : CT l V ShX yX0_chanceAt wsX0_chanceAt rm_X0_chanceAt [.ref (aL V d), .int (nI h)] mu (pI (fun r mu2 => r = chB (mu (d + 2) h) (mu (d + 1) h) ∧ mu = mu2)) := by
  refine ab_enter hV.1 (by decide) rfl (Nat.le_of_ble_eq_true rfl) ?_
  intro X B E
  have B : CX X l rm_X0_chanceAt RX0 cX0_chanceAt wsX0_chanceAt 2 V ShX := B
  show AW X V ShX 2 0 [some (.ref (aL V d)), some (.int (nI h))] [] mu
  have q5 := shD hL
  have q6 := shD1 hL
  have q7 := shD2 hL
  refine a_iload_n B dX0_chanceAt_0 rfl ?_
  refine a_callNi B k_X0_chanceAt_45 (hV.2 _ B.2.2.2.1).2.1 (c_X7_isHour hV) rfl rfl (Nat.le_of_ble_eq_true rfl) dX0_chanceAt_1 (fun r1 mu1 h1 => ?_)
  obtain ⟨rfl, rfl⟩ := h1
  refine a_if_eq_f (tgt := 26) B dX0_chanceAt_4 (by decide) (bI_n0.mpr (inB_nI (n := 23) (by omega) (by decide))) ?_
  refine a_aload_n B dX0_chanceAt_7 rfl ?_
  refine a_getr B fl_X0_chanceAt_9 (by first | rfl | assumption) rfl dX0_chanceAt_8 ?_
  refine a_iload_n B dX0_chanceAt_11 rfl ?_
  refine a_ialdN B (h) (by first | rfl | assumption) rfl (by omega) (by decide) dX0_chanceAt_12 ?_
  refine a_iconst (v := 5) B dX0_chanceAt_13 (by decide) ?_
  refine a_icmp_eq (tgt := 26) B dX0_chanceAt_14 (by decide) (fun c14 => ?_) (fun c14 => ?_)
  · refine a_iconst (v := 0) B dX0_chanceAt_26 (by decide) ?_
    refine a_ireturn B E dX0_chanceAt_27 ?_
    refine ⟨?_, rfl⟩
    rw [chB]
    first | rw [if_pos c14] | rw [if_neg c14]
  · refine a_aload_n B dX0_chanceAt_17 rfl ?_
    refine a_getr B fl_X0_chanceAt_15 (by first | rfl | assumption) rfl dX0_chanceAt_18 ?_
    refine a_iload_n B dX0_chanceAt_21 rfl ?_
    refine a_ialdN B (h) (by first | rfl | assumption) rfl (by omega) (by decide) dX0_chanceAt_22 ?_
    refine a_goto (tgt := 27) B dX0_chanceAt_23 (by decide) ?_
    refine a_ireturn B E dX0_chanceAt_27 ?_
    refine ⟨?_, rfl⟩
    rw [chB]
    first | rw [if_pos c14] | rw [if_neg c14]
def DY (mu : ab_mem) (g : Nat) (mu2 : ab_mem) : Prop := pX mu2 = pX mu ∧ (∀ h, h < 24 → mu2 (25 + 3 * g + 1) h = dX mu g 0 99 h) ∧ (∀ h, h < 24 → mu2 (25 + 3 * g + 2) h = lX mu g 0 99 (h + 1)) ∧ mu2 (25 + 3 * g) 2 = mu (19 + 2 * g) 3 ∧ ∀ q, q ≠ 25 + 3 * g → q ≠ 25 + 3 * g + 1 → q ≠ 25 + 3 * g + 2 → mu2 q = mu q
/-- laying and living a day at label d -/
theorem day_ok {mu mu1 mu2 : ab_mem} {d g o : Nat} (hL : DL d) (h1 : LYX mu d g o mu1) (h2 : (∀ q, q ≠ d + 2 → mu2 q = mu1 q) ∧ ∀ h, h < 24 → mu2 (d + 2) h = lvB (mu1 5) (mu1 d 2) (mu1 (d + 1)) (h + 1)) : pX mu2 = pX mu ∧ (∀ h, h < 24 → mu2 (d + 1) h = dX mu g o 99 h) ∧ (∀ h, h < 24 → mu2 (d + 2) h = lX mu g o 99 (h + 1)) ∧ mu2 d 2 = mu (19 + 2 * g) 3 ∧ ∀ q, q ≠ d → q ≠ d + 1 → q ≠ d + 2 → mu2 q = mu q := by
  obtain ⟨s1, s2, s3⟩ := DL_sc hL
  have e5 : mu1 5 = mu 5 := h1.1 5 (sc_ne s1 rfl) (sc_ne s2 rfl)
  refine ⟨pX_of fun q hq => ?_, fun h hh => ?_, fun h hh => ?_, ?_, fun q a b c => ?_⟩
  · rw [h2.1 q (sc_ne s3 hq), h1.1 q (sc_ne s1 hq) (sc_ne s2 hq)]
  · rw [h2.1 _ (by omega)]; exact h1.2.1 h hh
  · rw [h2.2 h hh, e5, h1.2.2]
    exact lvB_congr (h + 1) (fun k hk => h1.2.1 k (by omega))
  · rw [h2.1 _ (by omega)]; exact h1.2.2
  · rw [h2.1 q c, h1.1 q a b]
abbrev rm_X7_dayOf : Room := { frames := 2, cells := 0, slots := 0, locals := 46 }
set_option maxRecDepth 20000 in
theorem us_X7_dayOf_7 : ∀ w ∈ u_ws RX7 TX7 9, w ∈ wsX7_dayOf := by decide +kernel
set_option maxRecDepth 20000 in
theorem fl_X7_dayOf_11 : FL RX7 wsX7_dayOf 11 7 0 := ⟨RX7, TX7, 9, rfl, by decide, us_X7_dayOf_7, by decide +kernel⟩
set_option maxRecDepth 20000 in
theorem fl_X7_dayOf_17 : FL RX7 wsX7_dayOf 17 7 1 := ⟨RX7, TX7, 9, rfl, by decide, us_X7_dayOf_7, by decide +kernel⟩
set_option maxRecDepth 20000 in
theorem fl_X7_dayOf_30 : FL RX7 wsX7_dayOf 30 7 3 := ⟨RX7, TX7, 9, rfl, by decide, us_X7_dayOf_7, by decide +kernel⟩
theorem k_X7_dayOf_202 : KV RX7 wsX7_dayOf rm_X7_dayOf 202 RX0 yX0_lay wsX0_lay rm_X0_lay 2 := ⟨_, _, _, _, gX7_dayOf_X0_lay, rfl, rfl, rfl, by decide +kernel, by decide⟩
theorem k_X7_dayOf_206 : KV RX7 wsX7_dayOf rm_X7_dayOf 206 RX0 yX0_live wsX0_live rm_X0_live 1 := ⟨_, _, _, _, gX7_dayOf_X0_live, rfl, rfl, rfl, by decide +kernel, by decide⟩

set_option maxHeartbeats 4000000 in
set_option maxRecDepth 100000 in
theorem c_X7_dayOf {l : Launch} {V : ab_V} {mu : ab_mem} {g : Nat} (hV : OKX V) (hi : IX mu) (hg : g < 3)  : CT l V ShX yX7_dayOf wsX7_dayOf rm_X7_dayOf [.ref (aL V 0), .int (nI g)] mu (pR (fun r mu2 => r = aL V (25 + 3 * g) ∧ DY mu g mu2)) := by
  refine ab_enter hV.1 (by decide) rfl (Nat.le_of_ble_eq_true rfl) ?_
  intro X B E
  have B : CX X l rm_X7_dayOf RX7 cX7_dayOf wsX7_dayOf 3 V ShX := B
  show AW X V ShX 3 0 [some (.ref (aL V 0)), some (.int (nI g)), none] [] mu
  have q1 := shG hg
  have q2 := shGm hg
  refine a_aload_n B dX7_dayOf_0 rfl ?_
  refine a_getr B fl_X7_dayOf_17 (by first | rfl | assumption) rfl dX7_dayOf_1 ?_
  refine a_iload_n B dX7_dayOf_4 rfl ?_
  refine a_aald B (g) (by first | rfl | assumption) rfl rfl (elD hg) (by decide) dX7_dayOf_5 ?_
  refine a_astore_n B dX7_dayOf_6 (by decide) ?_
  refine a_aload_n B dX7_dayOf_7 rfl ?_
  refine a_aload_n B dX7_dayOf_8 rfl ?_
  refine a_getr B fl_X7_dayOf_11 (by first | rfl | assumption) rfl dX7_dayOf_9 ?_
  refine a_iload_n B dX7_dayOf_12 rfl ?_
  refine a_aald B (g) (by first | rfl | assumption) rfl rfl (elG hg) (by decide) dX7_dayOf_13 ?_
  refine a_iconst (v := 0) B dX7_dayOf_14 (by decide) ?_
  have q5 := shD (DL_g hg)
  refine a_callVv B k_X7_dayOf_202 (c_X0_lay (o := 0) hV (DL_g hg) hi hg (by decide)) (by first | rfl | assumption) rfl rfl rfl (Nat.le_of_ble_eq_true rfl) dX7_dayOf_15 (fun mu15 h15 => ?_)
  have q5 := shD (DL_g hg)
  refine a_aload_n B dX7_dayOf_18 rfl ?_
  refine a_aload_n B dX7_dayOf_19 rfl ?_
  refine a_getr B fl_X7_dayOf_30 (by first | rfl | assumption) rfl dX7_dayOf_20 ?_
  refine a_callVv B k_X7_dayOf_206 (c_X0_live hV (DL_g hg) (fun h hh => by rw [h15.2.1 h hh]; exact dX_in hi hg 0 99 h)) (by first | rfl | assumption) rfl rfl rfl (Nat.le_of_ble_eq_true rfl) dX7_dayOf_23 (fun mu23 h23 => ?_)
  refine a_aload_n B dX7_dayOf_26 rfl ?_
  refine a_areturn B E dX7_dayOf_27 ?_
  exact ⟨rfl, day_ok (DL_g hg) h15 h23⟩
abbrev rm_X7_hoursOf : Room := { frames := 3, cells := 0, slots := 0, locals := 68 }
set_option maxRecDepth 20000 in
theorem us_X7_hoursOf_7 : ∀ w ∈ u_ws RX7 TX7 9, w ∈ wsX7_hoursOf := by decide +kernel
set_option maxRecDepth 20000 in
theorem fl_X7_hoursOf_30 : FL RX7 wsX7_hoursOf 30 7 3 := ⟨RX7, TX7, 9, rfl, by decide, us_X7_hoursOf_7, by decide +kernel⟩
theorem k_X7_hoursOf_130 : KV RX7 wsX7_hoursOf rm_X7_hoursOf 130 RX7 yX7_dayOf wsX7_dayOf rm_X7_dayOf 1 := ⟨_, _, _, _, gX7_hoursOf_X7_dayOf, rfl, rfl, rfl, by decide +kernel, by decide⟩
theorem k_X7_hoursOf_210 : KV RX7 wsX7_hoursOf rm_X7_hoursOf 210 RX0 yX0_hiccupHours wsX0_hiccupHours rm_X0_hiccupHours 1 := ⟨_, _, _, _, gX7_hoursOf_X0_hiccupHours, rfl, rfl, rfl, by decide +kernel, by decide⟩

set_option maxHeartbeats 4000000 in
set_option maxRecDepth 100000 in
theorem c_X7_hoursOf {l : Launch} {V : ab_V} {mu : ab_mem} {g : Nat} (hV : OKX V) (hi : IX mu) (hg : g < 3)  : CT l V ShX yX7_hoursOf wsX7_hoursOf rm_X7_hoursOf [.ref (aL V 0), .int (nI g)] mu (pI (fun r mu2 => r = bX mu g 0 99 24 ∧ DY mu g mu2)) := by
  refine ab_enter hV.1 (by decide) rfl (Nat.le_of_ble_eq_true rfl) ?_
  intro X B E
  have B : CX X l rm_X7_hoursOf RX7 cX7_hoursOf wsX7_hoursOf 2 V ShX := B
  show AW X V ShX 2 0 [some (.ref (aL V 0)), some (.int (nI g))] [] mu
  have hL := DL_g hg
  have q5 := shD hL
  have q6 := shD1 hL
  have q7 := shD2 hL
  refine a_aload_n B dX7_hoursOf_0 rfl ?_
  refine a_iload_n B dX7_hoursOf_1 rfl ?_
  refine a_callVr B k_X7_hoursOf_130 (c_X7_dayOf hV hi hg) (by first | rfl | assumption) rfl rfl rfl (Nat.le_of_ble_eq_true rfl) dX7_hoursOf_2 (fun r2 mu2 h2 => ?_)
  obtain ⟨rfl, hD⟩ := h2
  refine a_aload_n B dX7_hoursOf_5 rfl ?_
  refine a_getr B fl_X7_hoursOf_30 (by first | rfl | assumption) rfl dX7_hoursOf_6 ?_
  refine a_callVi B k_X7_hoursOf_210 (c_X0_hiccupHours hV (DL_g hg)) (by first | rfl | assumption) rfl rfl rfl (Nat.le_of_ble_eq_true rfl) dX7_hoursOf_9 (fun r9 mu9 h9 => ?_)
  obtain ⟨rfl, rfl⟩ := h9
  refine a_ireturn B E dX7_hoursOf_12 ?_
  refine ⟨?_, hD⟩
  rw [pX_at hD.1 4 rfl]
  exact hhF_bt 24 hD.2.2.1 hD.2.1
abbrev rm_X7_dish : Room := { frames := 3, cells := 0, slots := 0, locals := 68 }
set_option maxRecDepth 20000 in
theorem us_X7_dish_0 : ∀ w ∈ u_ws RX0 TX0 3, w ∈ wsX7_dish := by decide +kernel
set_option maxRecDepth 20000 in
theorem fl_X7_dish_134 : FL RX7 wsX7_dish 134 0 0 := ⟨RX0, TX0, 3, rfl, by decide, us_X7_dish_0, by decide +kernel⟩
theorem k_X7_dish_66 : KS RX7 wsX7_dish rm_X7_dish 66 yX7_isGeneral wsX7_isGeneral rm_X7_isGeneral 1 := ⟨_, _, _, _, gX7_dish_X7_isGeneral, rfl, rfl, rfl, by decide +kernel, by decide⟩
theorem k_X7_dish_127 : KS RX7 wsX7_dish rm_X7_dish 127 yX7_isHour wsX7_isHour rm_X7_isHour 1 := ⟨_, _, _, _, gX7_dish_X7_isHour, rfl, rfl, rfl, by decide +kernel, by decide⟩
theorem k_X7_dish_130 : KV RX7 wsX7_dish rm_X7_dish 130 RX7 yX7_dayOf wsX7_dayOf rm_X7_dayOf 1 := ⟨_, _, _, _, gX7_dish_X7_dayOf, rfl, rfl, rfl, by decide +kernel, by decide⟩

set_option maxHeartbeats 4000000 in
set_option maxRecDepth 100000 in
theorem c_X7_dish {l : Launch} {V : ab_V} {mu : ab_mem} {g h : Nat} (hV : OKX V) (hi : IX mu) (hg : g < 3) (hh : h < 24) : CT l V ShX yX7_dish wsX7_dish rm_X7_dish [.ref (aL V 0), .int (nI g), .int (nI h)] mu (pI (fun r mu2 => r = dX mu g 0 99 h ∧ pX mu2 = pX mu)) := by
  refine ab_enter hV.1 (by decide) rfl (Nat.le_of_ble_eq_true rfl) ?_
  intro X B E
  have B : CX X l rm_X7_dish RX7 cX7_dish wsX7_dish 3 V ShX := B
  show AW X V ShX 3 0 [some (.ref (aL V 0)), some (.int (nI g)), some (.int (nI h))] [] mu
  have hL := DL_g hg
  have q5 := shD hL
  have q6 := shD1 hL
  have q7 := shD2 hL
  refine a_iload_n B dX7_dish_0 rfl ?_
  refine a_callSi B k_X7_dish_66 (c_X7_isGeneral hV) rfl rfl (Nat.le_of_ble_eq_true rfl) dX7_dish_1 (fun r1 mu1 h1 => ?_)
  obtain ⟨rfl, rfl⟩ := h1
  refine a_if_eq_f (tgt := 14) B dX7_dish_4 (by decide) (bI_n0.mpr (inB_nI (n := 2) (by omega) (by decide))) ?_
  refine a_iload_n B dX7_dish_7 rfl ?_
  refine a_callSi B k_X7_dish_127 (c_X7_isHour hV) rfl rfl (Nat.le_of_ble_eq_true rfl) dX7_dish_8 (fun r8 mu8 h8 => ?_)
  obtain ⟨rfl, rfl⟩ := h8
  refine a_if_ne_t (tgt := 17) B dX7_dish_11 (by decide) (bI_n0.mpr (inB_nI (n := 23) (by omega) (by decide))) ?_
  refine a_aload_n B dX7_dish_17 rfl ?_
  refine a_iload_n B dX7_dish_18 rfl ?_
  refine a_callVr B k_X7_dish_130 (c_X7_dayOf hV hi hg) (by first | rfl | assumption) rfl rfl rfl (Nat.le_of_ble_eq_true rfl) dX7_dish_19 (fun r19 mu19 h19 => ?_)
  obtain ⟨rfl, hD⟩ := h19
  refine a_getr B fl_X7_dish_134 (by first | rfl | assumption) rfl dX7_dish_22 ?_
  refine a_iload_n B dX7_dish_25 rfl ?_
  refine a_ialdN B (h) (by first | rfl | assumption) rfl (by omega) (by decide) dX7_dish_26 ?_
  refine a_ireturn B E dX7_dish_27 ?_
  exact ⟨hD.2.1 h hh, hD.1⟩
abbrev rm_X7_level : Room := { frames := 3, cells := 0, slots := 0, locals := 68 }
set_option maxRecDepth 20000 in
theorem us_X7_level_0 : ∀ w ∈ u_ws RX0 TX0 3, w ∈ wsX7_level := by decide +kernel
set_option maxRecDepth 20000 in
theorem fl_X7_level_137 : FL RX7 wsX7_level 137 0 1 := ⟨RX0, TX0, 3, rfl, by decide, us_X7_level_0, by decide +kernel⟩
theorem k_X7_level_66 : KS RX7 wsX7_level rm_X7_level 66 yX7_isGeneral wsX7_isGeneral rm_X7_isGeneral 1 := ⟨_, _, _, _, gX7_level_X7_isGeneral, rfl, rfl, rfl, by decide +kernel, by decide⟩
theorem k_X7_level_127 : KS RX7 wsX7_level rm_X7_level 127 yX7_isHour wsX7_isHour rm_X7_isHour 1 := ⟨_, _, _, _, gX7_level_X7_isHour, rfl, rfl, rfl, by decide +kernel, by decide⟩
theorem k_X7_level_130 : KV RX7 wsX7_level rm_X7_level 130 RX7 yX7_dayOf wsX7_dayOf rm_X7_dayOf 1 := ⟨_, _, _, _, gX7_level_X7_dayOf, rfl, rfl, rfl, by decide +kernel, by decide⟩

set_option maxHeartbeats 4000000 in
set_option maxRecDepth 100000 in
theorem c_X7_level {l : Launch} {V : ab_V} {mu : ab_mem} {g h : Nat} (hV : OKX V) (hi : IX mu) (hg : g < 3) (hh : h < 24) : CT l V ShX yX7_level wsX7_level rm_X7_level [.ref (aL V 0), .int (nI g), .int (nI h)] mu (pI (fun r mu2 => r = lX mu g 0 99 (h + 1) ∧ pX mu2 = pX mu)) := by
  refine ab_enter hV.1 (by decide) rfl (Nat.le_of_ble_eq_true rfl) ?_
  intro X B E
  have B : CX X l rm_X7_level RX7 cX7_level wsX7_level 3 V ShX := B
  show AW X V ShX 3 0 [some (.ref (aL V 0)), some (.int (nI g)), some (.int (nI h))] [] mu
  have hL := DL_g hg
  have q5 := shD hL
  have q6 := shD1 hL
  have q7 := shD2 hL
  refine a_iload_n B dX7_level_0 rfl ?_
  refine a_callSi B k_X7_level_66 (c_X7_isGeneral hV) rfl rfl (Nat.le_of_ble_eq_true rfl) dX7_level_1 (fun r1 mu1 h1 => ?_)
  obtain ⟨rfl, rfl⟩ := h1
  refine a_if_eq_f (tgt := 14) B dX7_level_4 (by decide) (bI_n0.mpr (inB_nI (n := 2) (by omega) (by decide))) ?_
  refine a_iload_n B dX7_level_7 rfl ?_
  refine a_callSi B k_X7_level_127 (c_X7_isHour hV) rfl rfl (Nat.le_of_ble_eq_true rfl) dX7_level_8 (fun r8 mu8 h8 => ?_)
  obtain ⟨rfl, rfl⟩ := h8
  refine a_if_ne_t (tgt := 17) B dX7_level_11 (by decide) (bI_n0.mpr (inB_nI (n := 23) (by omega) (by decide))) ?_
  refine a_aload_n B dX7_level_17 rfl ?_
  refine a_iload_n B dX7_level_18 rfl ?_
  refine a_callVr B k_X7_level_130 (c_X7_dayOf hV hi hg) (by first | rfl | assumption) rfl rfl rfl (Nat.le_of_ble_eq_true rfl) dX7_level_19 (fun r19 mu19 h19 => ?_)
  obtain ⟨rfl, hD⟩ := h19
  refine a_getr B fl_X7_level_137 (by first | rfl | assumption) rfl dX7_level_22 ?_
  refine a_iload_n B dX7_level_25 rfl ?_
  refine a_ialdN B (h) (by first | rfl | assumption) rfl (by omega) (by decide) dX7_level_26 ?_
  refine a_ireturn B E dX7_level_27 ?_
  exact ⟨hD.2.2.1 h hh, hD.1⟩
set_option maxHeartbeats 4000000 in
set_option maxRecDepth 100000 in
theorem c_X7_dish_bad {l : Launch} {V : ab_V} {mu : ab_mem} {a b : Int32} (hV : OKX V) (hbad : ¬ (inB a 0 2 = true ∧ inB b 0 23 = true)) : CT l V ShX yX7_dish wsX7_dish rm_X7_dish [.ref (aL V 0), .int a, .int b] mu (pI (fun r mu2 => r = -2 ∧ mu = mu2)) := by
  refine ab_enter hV.1 (by decide) rfl (Nat.le_of_ble_eq_true rfl) ?_
  intro X B E
  have B : CX X l rm_X7_dish RX7 cX7_dish wsX7_dish 3 V ShX := B
  show AW X V ShX 3 0 [some (.ref (aL V 0)), some (.int a), some (.int b)] [] mu
  refine a_iload_n B dX7_dish_0 rfl ?_
  refine a_callSi B k_X7_dish_66 (c_X7_isGeneral hV) rfl rfl (Nat.le_of_ble_eq_true rfl) dX7_dish_1 (fun r1 mu1 h1 => ?_)
  obtain ⟨rfl, rfl⟩ := h1
  refine a_if_eq (tgt := 14) B dX7_dish_4 (by decide) (fun c4 => ?_) (fun c4 => ?_)
  · refine a_bipush (v := -2) B dX7_dish_14 (by decide) ?_
    refine a_ireturn B E dX7_dish_16 ?_
    exact ⟨rfl, rfl⟩
  · refine a_iload_n B dX7_dish_7 rfl ?_
    refine a_callSi B k_X7_dish_127 (c_X7_isHour hV) rfl rfl (Nat.le_of_ble_eq_true rfl) dX7_dish_8 (fun r8 mu8 h8 => ?_)
    obtain ⟨rfl, rfl⟩ := h8
    refine a_if_ne (tgt := 17) B dX7_dish_11 (by decide) (fun c11 => ?_) (fun c11 => ?_)
    · exfalso
      simp_all [bI_0, bI_n0]
    · refine a_bipush (v := -2) B dX7_dish_14 (by decide) ?_
      refine a_ireturn B E dX7_dish_16 ?_
      exact ⟨rfl, rfl⟩
set_option maxHeartbeats 4000000 in
set_option maxRecDepth 100000 in
theorem c_X7_level_bad {l : Launch} {V : ab_V} {mu : ab_mem} {a b : Int32} (hV : OKX V) (hbad : ¬ (inB a 0 2 = true ∧ inB b 0 23 = true)) : CT l V ShX yX7_level wsX7_level rm_X7_level [.ref (aL V 0), .int a, .int b] mu (pI (fun r mu2 => r = -2 ∧ mu = mu2)) := by
  refine ab_enter hV.1 (by decide) rfl (Nat.le_of_ble_eq_true rfl) ?_
  intro X B E
  have B : CX X l rm_X7_level RX7 cX7_level wsX7_level 3 V ShX := B
  show AW X V ShX 3 0 [some (.ref (aL V 0)), some (.int a), some (.int b)] [] mu
  refine a_iload_n B dX7_level_0 rfl ?_
  refine a_callSi B k_X7_level_66 (c_X7_isGeneral hV) rfl rfl (Nat.le_of_ble_eq_true rfl) dX7_level_1 (fun r1 mu1 h1 => ?_)
  obtain ⟨rfl, rfl⟩ := h1
  refine a_if_eq (tgt := 14) B dX7_level_4 (by decide) (fun c4 => ?_) (fun c4 => ?_)
  · refine a_bipush (v := -2) B dX7_level_14 (by decide) ?_
    refine a_ireturn B E dX7_level_16 ?_
    exact ⟨rfl, rfl⟩
  · refine a_iload_n B dX7_level_7 rfl ?_
    refine a_callSi B k_X7_level_127 (c_X7_isHour hV) rfl rfl (Nat.le_of_ble_eq_true rfl) dX7_level_8 (fun r8 mu8 h8 => ?_)
    obtain ⟨rfl, rfl⟩ := h8
    refine a_if_ne (tgt := 17) B dX7_level_11 (by decide) (fun c11 => ?_) (fun c11 => ?_)
    · exfalso
      simp_all [bI_0, bI_n0]
    · refine a_bipush (v := -2) B dX7_level_14 (by decide) ?_
      refine a_ireturn B E dX7_level_16 ?_
      exact ⟨rfl, rfl⟩
abbrev rm_X7_led : Room := { frames := 3, cells := 0, slots := 0, locals := 68 }
set_option maxRecDepth 20000 in
theorem us_X7_led_0 : ∀ w ∈ u_ws RX0 TX0 3, w ∈ wsX7_led := by decide +kernel
set_option maxRecDepth 20000 in
theorem us_X7_led_3 : ∀ w ∈ u_ws RX3 TX3 5, w ∈ wsX7_led := by decide +kernel
set_option maxRecDepth 20000 in
theorem us_X7_led_7 : ∀ w ∈ u_ws RX7 TX7 9, w ∈ wsX7_led := by decide +kernel
set_option maxRecDepth 20000 in
theorem fl_X7_led_30 : FL RX7 wsX7_led 30 7 3 := ⟨RX7, TX7, 9, rfl, by decide, us_X7_led_7, by decide +kernel⟩
set_option maxRecDepth 20000 in
theorem fl_X7_led_134 : FL RX7 wsX7_led 134 0 0 := ⟨RX0, TX0, 3, rfl, by decide, us_X7_led_0, by decide +kernel⟩
set_option maxRecDepth 20000 in
theorem fl_X7_led_137 : FL RX7 wsX7_led 137 0 1 := ⟨RX0, TX0, 3, rfl, by decide, us_X7_led_0, by decide +kernel⟩
set_option maxRecDepth 20000 in
theorem fl_X7_led_159 : FL RX7 wsX7_led 159 3 2 := ⟨RX3, TX3, 5, rfl, by decide, us_X7_led_3, by decide +kernel⟩
theorem k_X7_led_66 : KS RX7 wsX7_led rm_X7_led 66 yX7_isGeneral wsX7_isGeneral rm_X7_isGeneral 1 := ⟨_, _, _, _, gX7_led_X7_isGeneral, rfl, rfl, rfl, by decide +kernel, by decide⟩
theorem k_X7_led_127 : KS RX7 wsX7_led rm_X7_led 127 yX7_isHour wsX7_isHour rm_X7_isHour 1 := ⟨_, _, _, _, gX7_led_X7_isHour, rfl, rfl, rfl, by decide +kernel, by decide⟩
theorem k_X7_led_130 : KV RX7 wsX7_led rm_X7_led 130 RX7 yX7_dayOf wsX7_dayOf rm_X7_dayOf 1 := ⟨_, _, _, _, gX7_led_X7_dayOf, rfl, rfl, rfl, by decide +kernel, by decide⟩
theorem k_X7_led_153 : KV RX7 wsX7_led rm_X7_led 153 RX3 yX3_hiccupsAt wsX3_hiccupsAt rm_X3_hiccupsAt 2 := ⟨_, _, _, _, gX7_led_X3_hiccupsAt, rfl, rfl, rfl, by decide +kernel, by decide⟩
theorem k_X7_led_156 : KV RX7 wsX7_led rm_X7_led 156 RX0 yX0_levelAhead wsX0_levelAhead rm_X0_levelAhead 1 := ⟨_, _, _, _, gX7_led_X0_levelAhead, rfl, rfl, rfl, by decide +kernel, by decide⟩

set_option maxHeartbeats 4000000 in
set_option maxRecDepth 100000 in
theorem c_X7_led_bad {l : Launch} {V : ab_V} {mu : ab_mem} {a b : Int32} (hV : OKX V) (hbad : ¬ (inB a 0 2 = true ∧ inB b 0 23 = true)) : CT l V ShX yX7_led wsX7_led rm_X7_led [.ref (aL V 0), .int a, .int b] mu (pI (fun r mu2 => r = -2 ∧ mu = mu2)) := by
  refine ab_enter hV.1 (by decide) rfl (Nat.le_of_ble_eq_true rfl) ?_
  intro X B E
  have B : CX X l rm_X7_led RX7 cX7_led wsX7_led 5 V ShX := B
  show AW X V ShX 5 0 [some (.ref (aL V 0)), some (.int a), some (.int b), none, none] [] mu
  refine a_iload_n B dX7_led_0 rfl ?_
  refine a_callSi B k_X7_led_66 (c_X7_isGeneral hV) rfl rfl (Nat.le_of_ble_eq_true rfl) dX7_led_1 (fun r1 mu1 h1 => ?_)
  obtain ⟨rfl, rfl⟩ := h1
  refine a_if_eq (tgt := 14) B dX7_led_4 (by decide) (fun c4 => ?_) (fun c4 => ?_)
  · refine a_bipush (v := -2) B dX7_led_14 (by decide) ?_
    refine a_ireturn B E dX7_led_16 ?_
    exact ⟨rfl, rfl⟩
  · refine a_iload_n B dX7_led_7 rfl ?_
    refine a_callSi B k_X7_led_127 (c_X7_isHour hV) rfl rfl (Nat.le_of_ble_eq_true rfl) dX7_led_8 (fun r8 mu8 h8 => ?_)
    obtain ⟨rfl, rfl⟩ := h8
    refine a_if_ne (tgt := 17) B dX7_led_11 (by decide) (fun c11 => ?_) (fun c11 => ?_)
    · exfalso
      simp_all [bI_0, bI_n0]
    · refine a_bipush (v := -2) B dX7_led_14 (by decide) ?_
      refine a_ireturn B E dX7_led_16 ?_
      exact ⟨rfl, rfl⟩
abbrev rm_X7_hiccups : Room := { frames := 4, cells := 0, slots := 0, locals := 89 }
theorem k_X7_hiccups_66 : KS RX7 wsX7_hiccups rm_X7_hiccups 66 yX7_isGeneral wsX7_isGeneral rm_X7_isGeneral 1 := ⟨_, _, _, _, gX7_hiccups_X7_isGeneral, rfl, rfl, rfl, by decide +kernel, by decide⟩
theorem k_X7_hiccups_140 : KV RX7 wsX7_hiccups rm_X7_hiccups 140 RX7 yX7_hoursOf wsX7_hoursOf rm_X7_hoursOf 1 := ⟨_, _, _, _, gX7_hiccups_X7_hoursOf, rfl, rfl, rfl, by decide +kernel, by decide⟩

set_option maxHeartbeats 4000000 in
set_option maxRecDepth 100000 in
theorem c_X7_hiccups {l : Launch} {V : ab_V} {mu : ab_mem} {g : Nat} (hV : OKX V) (hi : IX mu) (hg : g < 3)  : CT l V ShX yX7_hiccups wsX7_hiccups rm_X7_hiccups [.ref (aL V 0), .int (nI g)] mu (pI (fun r mu2 => r = bX mu g 0 99 24 ∧ pX mu2 = pX mu)) := by
  refine ab_enter hV.1 (by decide) rfl (Nat.le_of_ble_eq_true rfl) ?_
  intro X B E
  have B : CX X l rm_X7_hiccups RX7 cX7_hiccups wsX7_hiccups 2 V ShX := B
  show AW X V ShX 2 0 [some (.ref (aL V 0)), some (.int (nI g))] [] mu
  refine a_iload_n B dX7_hiccups_0 rfl ?_
  refine a_callSi B k_X7_hiccups_66 (c_X7_isGeneral hV) rfl rfl (Nat.le_of_ble_eq_true rfl) dX7_hiccups_1 (fun r1 mu1 h1 => ?_)
  obtain ⟨rfl, rfl⟩ := h1
  refine a_if_ne_t (tgt := 10) B dX7_hiccups_4 (by decide) (bI_n0.mpr (inB_nI (n := 2) (by omega) (by decide))) ?_
  refine a_aload_n B dX7_hiccups_10 rfl ?_
  refine a_iload_n B dX7_hiccups_11 rfl ?_
  refine a_callVi B k_X7_hiccups_140 (c_X7_hoursOf hV hi hg) (by first | rfl | assumption) rfl rfl rfl (Nat.le_of_ble_eq_true rfl) dX7_hiccups_12 (fun r12 mu12 h12 => ?_)
  refine a_ireturn B E dX7_hiccups_15 ?_
  exact ⟨h12.1, h12.2.1⟩
set_option maxHeartbeats 4000000 in
set_option maxRecDepth 100000 in
theorem c_X7_hiccups_bad {l : Launch} {V : ab_V} {mu : ab_mem} {a : Int32} (hV : OKX V) (hbad : ¬ inB a 0 2 = true) : CT l V ShX yX7_hiccups wsX7_hiccups rm_X7_hiccups [.ref (aL V 0), .int a] mu (pI (fun r mu2 => r = -2 ∧ mu = mu2)) := by
  refine ab_enter hV.1 (by decide) rfl (Nat.le_of_ble_eq_true rfl) ?_
  intro X B E
  have B : CX X l rm_X7_hiccups RX7 cX7_hiccups wsX7_hiccups 2 V ShX := B
  show AW X V ShX 2 0 [some (.ref (aL V 0)), some (.int a)] [] mu
  refine a_iload_n B dX7_hiccups_0 rfl ?_
  refine a_callSi B k_X7_hiccups_66 (c_X7_isGeneral hV) rfl rfl (Nat.le_of_ble_eq_true rfl) dX7_hiccups_1 (fun r1 mu1 h1 => ?_)
  obtain ⟨rfl, rfl⟩ := h1
  refine a_if_ne (tgt := 10) B dX7_hiccups_4 (by decide) (fun c4 => ?_) (fun c4 => ?_)
  · exfalso
    simp_all [bI_0, bI_n0]
  · refine a_bipush (v := -2) B dX7_hiccups_7 (by decide) ?_
    refine a_ireturn B E dX7_hiccups_9 ?_
    exact ⟨rfl, rfl⟩
def bkX (mu : ab_mem) (w : Int32) : Int32 := if w = 1 then bX mu 0 0 99 24 ||| bX mu 1 0 99 24 else if w = 2 then ((bX mu 0 0 99 24 &&& bX mu 1 0 99 24) ||| (bX mu 0 0 99 24 &&& (bX mu 1 0 99 24 <<< ((1 : Int32) &&& 31)))) ||| (bX mu 1 0 99 24 &&& (bX mu 0 0 99 24 <<< ((1 : Int32) &&& 31))) else bX mu 0 0 99 24 &&& bX mu 1 0 99 24
abbrev rm_X7_brokenHours : Room := { frames := 4, cells := 0, slots := 0, locals := 89 }
theorem k_X7_brokenHours_140 : KV RX7 wsX7_brokenHours rm_X7_brokenHours 140 RX7 yX7_hoursOf wsX7_hoursOf rm_X7_hoursOf 1 := ⟨_, _, _, _, gX7_brokenHours_X7_hoursOf, rfl, rfl, rfl, by decide +kernel, by decide⟩

set_option maxHeartbeats 4000000 in
set_option maxRecDepth 100000 in
theorem c_X7_brokenHours {l : Launch} {V : ab_V} {mu : ab_mem} {w : Int32} (hV : OKX V) (hi : IX mu)  : CT l V ShX yX7_brokenHours wsX7_brokenHours rm_X7_brokenHours [.ref (aL V 0), .int w] mu (pI (fun r mu2 => r = bkX mu w ∧ pX mu2 = pX mu)) := by
  refine ab_enter hV.1 (by decide) rfl (Nat.le_of_ble_eq_true rfl) ?_
  intro X B E
  have B : CX X l rm_X7_brokenHours RX7 cX7_brokenHours wsX7_brokenHours 4 V ShX := B
  show AW X V ShX 4 0 [some (.ref (aL V 0)), some (.int w), none, none] [] mu
  refine a_aload_n B dX7_brokenHours_0 rfl ?_
  refine a_iconst (v := 0) B dX7_brokenHours_1 (by decide) ?_
  refine a_callVi B k_X7_brokenHours_140 (c_X7_hoursOf (g := 0) hV hi (by decide)) (by first | rfl | assumption) rfl rfl rfl (Nat.le_of_ble_eq_true rfl) dX7_brokenHours_2 (fun r2 mu2 h2 => ?_)
  obtain ⟨rfl, hD0⟩ := h2
  refine a_istore_n B dX7_brokenHours_5 (by decide) ?_
  refine a_aload_n B dX7_brokenHours_6 rfl ?_
  refine a_iconst (v := 1) B dX7_brokenHours_7 (by decide) ?_
  refine a_callVi B k_X7_brokenHours_140 (c_X7_hoursOf (g := 1) hV (IX_p hD0.1 hi) (by decide)) (by first | rfl | assumption) rfl rfl rfl (Nat.le_of_ble_eq_true rfl) dX7_brokenHours_8 (fun r8 mu8 h8 => ?_)
  obtain ⟨rfl, hD1⟩ := h8
  rw [bX_p hD0.1 (g := 1) (by decide)]
  refine a_istore_n B dX7_brokenHours_11 (by decide) ?_
  refine a_iload_n B dX7_brokenHours_12 rfl ?_
  refine a_iconst (v := 1) B dX7_brokenHours_13 (by decide) ?_
  refine a_icmp_ne (tgt := 21) B dX7_brokenHours_14 (by decide) (fun c14 => ?_) (fun c14 => ?_)
  · refine a_iload_n B dX7_brokenHours_21 rfl ?_
    refine a_iconst (v := 2) B dX7_brokenHours_22 (by decide) ?_
    refine a_icmp_ne (tgt := 42) B dX7_brokenHours_23 (by decide) (fun c23 => ?_) (fun c23 => ?_)
    · refine a_iload_n B dX7_brokenHours_42 rfl ?_
      refine a_iload_n B dX7_brokenHours_43 rfl ?_
      refine a_iand B dX7_brokenHours_44 ?_
      refine a_ireturn B E dX7_brokenHours_45 ?_
      refine ⟨?_, hD1.1.trans hD0.1⟩
      rw [bkX]
      first | rw [if_pos c14] | rw [if_neg c14, if_pos c23] | rw [if_neg c14, if_neg c23]
    · refine a_iload_n B dX7_brokenHours_26 rfl ?_
      refine a_iload_n B dX7_brokenHours_27 rfl ?_
      refine a_iand B dX7_brokenHours_28 ?_
      refine a_iload_n B dX7_brokenHours_29 rfl ?_
      refine a_iload_n B dX7_brokenHours_30 rfl ?_
      refine a_iconst (v := 1) B dX7_brokenHours_31 (by decide) ?_
      refine a_ishl B dX7_brokenHours_32 ?_
      refine a_iand B dX7_brokenHours_33 ?_
      refine a_ior B dX7_brokenHours_34 ?_
      refine a_iload_n B dX7_brokenHours_35 rfl ?_
      refine a_iload_n B dX7_brokenHours_36 rfl ?_
      refine a_iconst (v := 1) B dX7_brokenHours_37 (by decide) ?_
      refine a_ishl B dX7_brokenHours_38 ?_
      refine a_iand B dX7_brokenHours_39 ?_
      refine a_ior B dX7_brokenHours_40 ?_
      refine a_ireturn B E dX7_brokenHours_41 ?_
      refine ⟨?_, hD1.1.trans hD0.1⟩
      rw [bkX]
      first | rw [if_pos c14] | rw [if_neg c14, if_pos c23] | rw [if_neg c14, if_neg c23]
  · refine a_iload_n B dX7_brokenHours_17 rfl ?_
    refine a_iload_n B dX7_brokenHours_18 rfl ?_
    refine a_ior B dX7_brokenHours_19 ?_
    refine a_ireturn B E dX7_brokenHours_20 ?_
    refine ⟨?_, hD1.1.trans hD0.1⟩
    rw [bkX]
    first | rw [if_pos c14] | rw [if_neg c14, if_pos c23] | rw [if_neg c14, if_neg c23]
abbrev rm_X7_broken : Room := { frames := 5, cells := 0, slots := 0, locals := 112 }
theorem k_X7_broken_70 : KS RX7 wsX7_broken rm_X7_broken 70 yX7_within wsX7_within rm_X7_within 3 := ⟨_, _, _, _, gX7_broken_X7_within, rfl, rfl, rfl, by decide +kernel, by decide⟩
theorem k_X7_broken_143 : KV RX7 wsX7_broken rm_X7_broken 143 RX7 yX7_brokenHours wsX7_brokenHours rm_X7_brokenHours 1 := ⟨_, _, _, _, gX7_broken_X7_brokenHours, rfl, rfl, rfl, by decide +kernel, by decide⟩

set_option maxHeartbeats 4000000 in
set_option maxRecDepth 100000 in
theorem c_X7_broken {l : Launch} {V : ab_V} {mu : ab_mem} {w : Int32} (hV : OKX V) (hi : IX mu) (hw : inB w 0 2 = true) : CT l V ShX yX7_broken wsX7_broken rm_X7_broken [.ref (aL V 0), .int w] mu (pI (fun r mu2 => r = bkX mu w ∧ pX mu2 = pX mu)) := by
  refine ab_enter hV.1 (by decide) rfl (Nat.le_of_ble_eq_true rfl) ?_
  intro X B E
  have B : CX X l rm_X7_broken RX7 cX7_broken wsX7_broken 2 V ShX := B
  show AW X V ShX 2 0 [some (.ref (aL V 0)), some (.int w)] [] mu
  refine a_iload_n B dX7_broken_0 rfl ?_
  refine a_iconst (v := 0) B dX7_broken_1 (by decide) ?_
  refine a_iconst (v := 2) B dX7_broken_2 (by decide) ?_
  refine a_callSi B k_X7_broken_70 (c_X7_within hV) rfl rfl (Nat.le_of_ble_eq_true rfl) dX7_broken_3 (fun r3 mu3 h3 => ?_)
  obtain ⟨rfl, rfl⟩ := h3
  refine a_if_ne_t (tgt := 12) B dX7_broken_6 (by decide) (bI_n0.mpr hw) ?_
  refine a_aload_n B dX7_broken_12 rfl ?_
  refine a_iload_n B dX7_broken_13 rfl ?_
  refine a_callVi B k_X7_broken_143 (c_X7_brokenHours hV hi) (by first | rfl | assumption) rfl rfl rfl (Nat.le_of_ble_eq_true rfl) dX7_broken_14 (fun r14 mu14 h14 => ?_)
  refine a_ireturn B E dX7_broken_17 ?_
  exact h14
set_option maxHeartbeats 4000000 in
set_option maxRecDepth 100000 in
theorem c_X7_broken_bad {l : Launch} {V : ab_V} {mu : ab_mem} {w : Int32} (hV : OKX V) (hbad : ¬ inB w 0 2 = true) : CT l V ShX yX7_broken wsX7_broken rm_X7_broken [.ref (aL V 0), .int w] mu (pI (fun r mu2 => r = -2 ∧ mu = mu2)) := by
  refine ab_enter hV.1 (by decide) rfl (Nat.le_of_ble_eq_true rfl) ?_
  intro X B E
  have B : CX X l rm_X7_broken RX7 cX7_broken wsX7_broken 2 V ShX := B
  show AW X V ShX 2 0 [some (.ref (aL V 0)), some (.int w)] [] mu
  refine a_iload_n B dX7_broken_0 rfl ?_
  refine a_iconst (v := 0) B dX7_broken_1 (by decide) ?_
  refine a_iconst (v := 2) B dX7_broken_2 (by decide) ?_
  refine a_callSi B k_X7_broken_70 (c_X7_within hV) rfl rfl (Nat.le_of_ble_eq_true rfl) dX7_broken_3 (fun r3 mu3 h3 => ?_)
  obtain ⟨rfl, rfl⟩ := h3
  refine a_if_ne (tgt := 12) B dX7_broken_6 (by decide) (fun c6 => ?_) (fun c6 => ?_)
  · exfalso
    simp_all [bI_0, bI_n0]
  · refine a_bipush (v := -2) B dX7_broken_9 (by decide) ?_
    refine a_ireturn B E dX7_broken_11 ?_
    exact ⟨rfl, rfl⟩
abbrev rm_X7_judged : Room := { frames := 5, cells := 0, slots := 0, locals := 112 }
set_option maxRecDepth 20000 in
theorem us_X7_judged_3 : ∀ w ∈ u_ws RX3 TX3 5, w ∈ wsX7_judged := by decide +kernel
set_option maxRecDepth 20000 in
theorem us_X7_judged_7 : ∀ w ∈ u_ws RX7 TX7 9, w ∈ wsX7_judged := by decide +kernel
set_option maxRecDepth 20000 in
theorem fl_X7_judged_30 : FL RX7 wsX7_judged 30 7 3 := ⟨RX7, TX7, 9, rfl, by decide, us_X7_judged_7, by decide +kernel⟩
set_option maxRecDepth 20000 in
theorem fl_X7_judged_146 : FL RX7 wsX7_judged 146 3 3 := ⟨RX3, TX3, 5, rfl, by decide, us_X7_judged_3, by decide +kernel⟩
theorem k_X7_judged_143 : KV RX7 wsX7_judged rm_X7_judged 143 RX7 yX7_brokenHours wsX7_brokenHours rm_X7_brokenHours 1 := ⟨_, _, _, _, gX7_judged_X7_brokenHours, rfl, rfl, rfl, by decide +kernel, by decide⟩
theorem k_X7_judged_149 : KS RX7 wsX7_judged rm_X7_judged 149 yX7_hasHour wsX7_hasHour rm_X7_hasHour 2 := ⟨_, _, _, _, gX7_judged_X7_hasHour, rfl, rfl, rfl, by decide +kernel, by decide⟩

set_option maxHeartbeats 4000000 in
set_option maxRecDepth 100000 in
theorem c_X7_judged {l : Launch} {V : ab_V} {mu : ab_mem}  (hV : OKX V) (hi : IX mu)  : CT l V ShX yX7_judged wsX7_judged rm_X7_judged [.ref (aL V 0)] mu (pI (fun r mu2 => r = jdF (bkX mu (mu 4 3)) 0 24 ∧ pX mu2 = pX mu)) := by
  refine ab_enter hV.1 (by decide) rfl (Nat.le_of_ble_eq_true rfl) ?_
  intro X B E
  have B : CX X l rm_X7_judged RX7 cX7_judged wsX7_judged 3 V ShX := B
  show AW X V ShX 3 0 [some (.ref (aL V 0)), none, none] [] mu
  have loop : ∀ (mu1 : ab_mem), pX mu1 = pX mu → ∀ (m j : Nat), j + m = 24 → jdF (bkX mu (mu 4 3)) j m = jdF (bkX mu (mu 4 3)) 0 24 → AW X V ShX 3 14 [some (.ref (aL V 0)), some (.int (bkX mu (mu 4 3))), some (.int (nI j))] [] mu1 := by
    intro mu1 hp m
    induction m with
    | zero =>
      intro j hj hf
      refine a_iload_n B dX7_judged_14 rfl ?_
      refine a_bipush (v := 24) B dX7_judged_15 (by decide) ?_
      refine a_icmp_ge_t (tgt := 36) B dX7_judged_17 (by decide) (nI_le (a := 24) (b := j) (by omega) (by omega)) ?_
      refine a_iconst (v := -1) B dX7_judged_36 (by decide) ?_
      refine a_ireturn B E dX7_judged_37 ?_
      exact ⟨hf, hp⟩
    | succ m ih =>
      intro j hj hf
      refine a_iload_n B dX7_judged_14 rfl ?_
      refine a_bipush (v := 24) B dX7_judged_15 (by decide) ?_
      refine a_icmp_ge_f (tgt := 36) B dX7_judged_17 (by decide) (nI_ge (a := j) (b := 24) (by omega) (by decide)) ?_
      refine a_iload_n B dX7_judged_20 rfl ?_
      refine a_iload_n B dX7_judged_21 rfl ?_
      refine a_callSi B k_X7_judged_149 (c_X7_hasHour hV) rfl rfl (Nat.le_of_ble_eq_true rfl) dX7_judged_22 (fun r22 mu22 h22 => ?_)
      obtain ⟨rfl, rfl⟩ := h22
      refine a_if_eq (tgt := 30) B dX7_judged_25 (by decide) (fun c25 => ?_) (fun c25 => ?_)
      · refine a_iinc (v := 1) B dX7_judged_30 rfl (by decide) (by decide) ?_
        refine a_goto (tgt := 14) B dX7_judged_33 (by decide) ?_
        rw [nI_1]
        refine ih (j + 1) (by omega) ?_
        rw [← hf, jdF, if_neg (by rw [bI_0.mp c25]; decide)]
      · refine a_iload_n B dX7_judged_28 rfl ?_
        refine a_ireturn B E dX7_judged_29 ?_
        refine ⟨?_, hp⟩
        rw [← hf, jdF, if_pos (bI_n0.mp c25)]
  refine a_aload_n B dX7_judged_0 rfl ?_
  refine a_aload_n B dX7_judged_1 rfl ?_
  refine a_getr B fl_X7_judged_30 (by first | rfl | assumption) rfl dX7_judged_2 ?_
  refine a_geti B fl_X7_judged_146 (by first | rfl | assumption) rfl dX7_judged_5 ?_
  refine a_callVi B k_X7_judged_143 (c_X7_brokenHours hV hi) (by first | rfl | assumption) rfl rfl rfl (Nat.le_of_ble_eq_true rfl) dX7_judged_8 (fun r8 mu8 h8 => ?_)
  obtain ⟨rfl, hp⟩ := h8
  have loop := loop mu8 hp
  refine a_istore_n B dX7_judged_11 (by decide) ?_
  refine a_iconst (v := 0) B dX7_judged_12 (by decide) ?_
  refine a_istore_n B dX7_judged_13 (by decide) ?_
  exact loop 24 0 rfl rfl
def lnX (x : Int32) : Nat → Nat
  | 0 => 0
  | j + 1 => if bitB x (nI j) then 0 else lnX x j + 1
theorem lnX_le (x : Int32) : ∀ j, lnX x j ≤ j := by
  intro j
  induction j with
  | zero => exact Nat.le_refl _
  | succ j ih => rw [lnX]; split <;> omega
def arX (x : Int32) : Nat → Int32 × Nat
  | 0 => (-1, 0)
  | j + 1 => if (arX x j).2 < lnX x (j + 1) then (nI j - nI (lnX x (j + 1)) + 1, lnX x (j + 1)) else arX x j
theorem arX_le (x : Int32) : ∀ j, (arX x j).2 ≤ j := by
  intro j
  induction j with
  | zero => exact Nat.le_refl _
  | succ j ih =>
    rw [arX]
    split
    · exact lnX_le x (j + 1)
    · omega
abbrev rm_X7_armistice : Room := { frames := 5, cells := 0, slots := 0, locals := 112 }
set_option maxRecDepth 20000 in
theorem us_X7_armistice_3 : ∀ w ∈ u_ws RX3 TX3 5, w ∈ wsX7_armistice := by decide +kernel
set_option maxRecDepth 20000 in
theorem us_X7_armistice_7 : ∀ w ∈ u_ws RX7 TX7 9, w ∈ wsX7_armistice := by decide +kernel
set_option maxRecDepth 20000 in
theorem fl_X7_armistice_30 : FL RX7 wsX7_armistice 30 7 3 := ⟨RX7, TX7, 9, rfl, by decide, us_X7_armistice_7, by decide +kernel⟩
set_option maxRecDepth 20000 in
theorem fl_X7_armistice_146 : FL RX7 wsX7_armistice 146 3 3 := ⟨RX3, TX3, 5, rfl, by decide, us_X7_armistice_3, by decide +kernel⟩
theorem k_X7_armistice_70 : KS RX7 wsX7_armistice rm_X7_armistice 70 yX7_within wsX7_within rm_X7_within 3 := ⟨_, _, _, _, gX7_armistice_X7_within, rfl, rfl, rfl, by decide +kernel, by decide⟩
theorem k_X7_armistice_143 : KV RX7 wsX7_armistice rm_X7_armistice 143 RX7 yX7_brokenHours wsX7_brokenHours rm_X7_brokenHours 1 := ⟨_, _, _, _, gX7_armistice_X7_brokenHours, rfl, rfl, rfl, by decide +kernel, by decide⟩
theorem k_X7_armistice_149 : KS RX7 wsX7_armistice rm_X7_armistice 149 yX7_hasHour wsX7_hasHour rm_X7_hasHour 2 := ⟨_, _, _, _, gX7_armistice_X7_hasHour, rfl, rfl, rfl, by decide +kernel, by decide⟩

set_option maxHeartbeats 4000000 in
set_option maxRecDepth 100000 in
theorem c_X7_armistice {l : Launch} {V : ab_V} {mu : ab_mem} {w : Int32} (hV : OKX V) (hi : IX mu) (hw : inB w 0 1 = true) : CT l V ShX yX7_armistice wsX7_armistice rm_X7_armistice [.ref (aL V 0), .int w] mu (pI (fun r mu2 => r = (if w = 0 then (arX (bkX mu (mu 4 3)) 24).1 else nI (arX (bkX mu (mu 4 3)) 24).2) ∧ pX mu2 = pX mu)) := by
  refine ab_enter hV.1 (by decide) rfl (Nat.le_of_ble_eq_true rfl) ?_
  intro X B E
  have B : CX X l rm_X7_armistice RX7 cX7_armistice wsX7_armistice 7 V ShX := B
  show AW X V ShX 7 0 [some (.ref (aL V 0)), some (.int w), none, none, none, none, none] [] mu
  generalize hx : bkX mu (mu 4 3) = x at E
  have loop : ∀ (mu1 : ab_mem), pX mu1 = pX mu → ∀ (m j : Nat), j + m = 24 → AW X V ShX 7 35 [some (.ref (aL V 0)), some (.int w), some (.int x), some (.int (arX x j).1), some (.int (nI (arX x j).2)), some (.int (nI (lnX x j))), some (.int (nI j))] [] mu1 := by
    intro mu1 hp m
    induction m with
    | zero =>
      intro j hj
      have e : j = 24 := by omega
      subst e
      refine a_iload B dX7_armistice_35 rfl ?_
      refine a_bipush (v := 24) B dX7_armistice_37 (by decide) ?_
      refine a_icmp_ge_t (tgt := 86) B dX7_armistice_39 (by decide) (by decide) ?_
      refine a_iload_n B dX7_armistice_86 rfl ?_
      refine a_if_ne (tgt := 94) B dX7_armistice_87 (by decide) (fun c87 => ?_) (fun c87 => ?_)
      · refine a_iload B dX7_armistice_94 rfl ?_
        refine a_ireturn B E dX7_armistice_96 ?_
        refine ⟨?_, hp⟩
        first | rw [if_pos c87] | rw [if_neg c87]
      · refine a_iload_n B dX7_armistice_90 rfl ?_
        refine a_goto (tgt := 96) B dX7_armistice_91 (by decide) ?_
        refine a_ireturn B E dX7_armistice_96 ?_
        refine ⟨?_, hp⟩
        first | rw [if_pos c87] | rw [if_neg c87]
    | succ m ih =>
      intro j hj
      have hle := arX_le x j
      have hln := lnX_le x (j + 1)
      have lt_of_nle : ¬ nI (lnX x (j + 1)) ≤ nI (arX x j).2 → (arX x j).2 < lnX x (j + 1) := fun q => Nat.lt_of_not_le fun z => q (nI_le z (by omega))
      have nlt_of_le : nI (lnX x (j + 1)) ≤ nI (arX x j).2 → ¬ (arX x j).2 < lnX x (j + 1) := fun q z => absurd q (nI_ge z (by omega))
      have t59 : ∀ y : Int32, y = nI (lnX x (j + 1)) → AW X V ShX 7 59 [some (.ref (aL V 0)), some (.int w), some (.int x), some (.int (arX x j).1), some (.int (nI (arX x j).2)), some (.int (nI (lnX x j))), some (.int (nI j))] [.int y] mu1 := by
        intro y hy
        subst hy
        refine a_istore B dX7_armistice_59 (by decide) ?_
        refine a_iload B dX7_armistice_61 rfl ?_
        refine a_iload B dX7_armistice_63 rfl ?_
        refine a_icmp_le (tgt := 80) B dX7_armistice_65 (by decide) (fun c65 => ?_) (fun c65 => ?_)
        · refine a_iinc (v := 1) B dX7_armistice_80 rfl (by decide) (by decide) ?_
          refine a_goto (tgt := 35) B dX7_armistice_83 (by decide) ?_
          rw [nI_1]
          have e := ih (j + 1) (by omega)
          rw [arX] at e
          first
            | (rw [if_pos (lt_of_nle c65)] at e; exact e)
            | (rw [if_neg (nlt_of_le c65)] at e; exact e)
        · refine a_iload B dX7_armistice_68 rfl ?_
          refine a_istore B dX7_armistice_70 (by decide) ?_
          refine a_iload B dX7_armistice_72 rfl ?_
          refine a_iload B dX7_armistice_74 rfl ?_
          refine a_isub B dX7_armistice_76 ?_
          refine a_iconst (v := 1) B dX7_armistice_77 (by decide) ?_
          refine a_iadd B dX7_armistice_78 ?_
          refine a_istore_n B dX7_armistice_79 (by decide) ?_
          refine a_iinc (v := 1) B dX7_armistice_80 rfl (by decide) (by decide) ?_
          refine a_goto (tgt := 35) B dX7_armistice_83 (by decide) ?_
          rw [nI_1]
          have e := ih (j + 1) (by omega)
          rw [arX] at e
          first
            | (rw [if_pos (lt_of_nle c65)] at e; exact e)
            | (rw [if_neg (nlt_of_le c65)] at e; exact e)
      refine a_iload B dX7_armistice_35 rfl ?_
      refine a_bipush (v := 24) B dX7_armistice_37 (by decide) ?_
      refine a_icmp_ge_f (tgt := 86) B dX7_armistice_39 (by decide) (nI_ge (a := j) (b := 24) (by omega) (by decide)) ?_
      refine a_iload_n B dX7_armistice_42 rfl ?_
      refine a_iload B dX7_armistice_43 rfl ?_
      refine a_callSi B k_X7_armistice_149 (c_X7_hasHour hV) rfl rfl (Nat.le_of_ble_eq_true rfl) dX7_armistice_45 (fun r45 mu45 h45 => ?_)
      obtain ⟨rfl, rfl⟩ := h45
      refine a_if_eq (tgt := 55) B dX7_armistice_48 (by decide) (fun c48 => ?_) (fun c48 => ?_)
      · refine a_iload B dX7_armistice_55 rfl ?_
        refine a_iconst (v := 1) B dX7_armistice_57 (by decide) ?_
        refine a_iadd B dX7_armistice_58 ?_
        first
          | exact t59 0 (by rw [lnX, if_pos (bI_n0.mp c48)]; rfl)
          | exact t59 _ (by rw [lnX, if_neg (by rw [bI_0.mp c48]; decide)]; exact nI_1 _)
      · refine a_iconst (v := 0) B dX7_armistice_51 (by decide) ?_
        refine a_goto (tgt := 59) B dX7_armistice_52 (by decide) ?_
        first
          | exact t59 0 (by rw [lnX, if_pos (bI_n0.mp c48)]; rfl)
          | exact t59 _ (by rw [lnX, if_neg (by rw [bI_0.mp c48]; decide)]; exact nI_1 _)
  refine a_iload_n B dX7_armistice_0 rfl ?_
  refine a_iconst (v := 0) B dX7_armistice_1 (by decide) ?_
  refine a_iconst (v := 1) B dX7_armistice_2 (by decide) ?_
  refine a_callSi B k_X7_armistice_70 (c_X7_within hV) rfl rfl (Nat.le_of_ble_eq_true rfl) dX7_armistice_3 (fun r3 mu3 h3 => ?_)
  obtain ⟨rfl, rfl⟩ := h3
  refine a_if_ne_t (tgt := 12) B dX7_armistice_6 (by decide) (bI_n0.mpr hw) ?_
  refine a_aload_n B dX7_armistice_12 rfl ?_
  refine a_aload_n B dX7_armistice_13 rfl ?_
  refine a_getr B fl_X7_armistice_30 (by first | rfl | assumption) rfl dX7_armistice_14 ?_
  refine a_geti B fl_X7_armistice_146 (by first | rfl | assumption) rfl dX7_armistice_17 ?_
  refine a_callVi B k_X7_armistice_143 (c_X7_brokenHours hV hi) (by first | rfl | assumption) rfl rfl rfl (Nat.le_of_ble_eq_true rfl) dX7_armistice_20 (fun r20 mu20 h20 => ?_)
  obtain ⟨rfl, hp⟩ := h20
  rw [hx]
  have loop := loop mu20 hp
  refine a_istore_n B dX7_armistice_23 (by decide) ?_
  refine a_iconst (v := -1) B dX7_armistice_24 (by decide) ?_
  refine a_istore_n B dX7_armistice_25 (by decide) ?_
  refine a_iconst (v := 0) B dX7_armistice_26 (by decide) ?_
  refine a_istore B dX7_armistice_27 (by decide) ?_
  refine a_iconst (v := 0) B dX7_armistice_29 (by decide) ?_
  refine a_istore B dX7_armistice_30 (by decide) ?_
  refine a_iconst (v := 0) B dX7_armistice_32 (by decide) ?_
  refine a_istore B dX7_armistice_33 (by decide) ?_
  exact loop 24 0 rfl
set_option maxHeartbeats 4000000 in
set_option maxRecDepth 100000 in
theorem c_X7_armistice_bad {l : Launch} {V : ab_V} {mu : ab_mem} {w : Int32} (hV : OKX V) (hbad : ¬ inB w 0 1 = true) : CT l V ShX yX7_armistice wsX7_armistice rm_X7_armistice [.ref (aL V 0), .int w] mu (pI (fun r mu2 => r = -2 ∧ mu = mu2)) := by
  refine ab_enter hV.1 (by decide) rfl (Nat.le_of_ble_eq_true rfl) ?_
  intro X B E
  have B : CX X l rm_X7_armistice RX7 cX7_armistice wsX7_armistice 7 V ShX := B
  show AW X V ShX 7 0 [some (.ref (aL V 0)), some (.int w), none, none, none, none, none] [] mu
  refine a_iload_n B dX7_armistice_0 rfl ?_
  refine a_iconst (v := 0) B dX7_armistice_1 (by decide) ?_
  refine a_iconst (v := 1) B dX7_armistice_2 (by decide) ?_
  refine a_callSi B k_X7_armistice_70 (c_X7_within hV) rfl rfl (Nat.le_of_ble_eq_true rfl) dX7_armistice_3 (fun r3 mu3 h3 => ?_)
  obtain ⟨rfl, rfl⟩ := h3
  refine a_if_ne (tgt := 12) B dX7_armistice_6 (by decide) (fun c6 => ?_) (fun c6 => ?_)
  · exfalso
    simp_all [bI_0, bI_n0]
  · refine a_bipush (v := -2) B dX7_armistice_9 (by decide) ?_
    refine a_ireturn B E dX7_armistice_11 ?_
    exact ⟨rfl, rfl⟩
set_option maxHeartbeats 4000000 in
set_option maxRecDepth 100000 in
theorem c_X7_led {l : Launch} {V : ab_V} {mu : ab_mem} {g hr : Nat} (hV : OKX V) (hi : IX mu) (hg : g < 3) (hh : hr < 24) : CT l V ShX yX7_led wsX7_led rm_X7_led [.ref (aL V 0), .int (nI g), .int (nI hr)] mu (pI (fun r mu2 => r = (if hicB (mu 4 2) (lX mu g 0 99 (hr + 1)) (dX mu g 0 99 hr) then (ldF (mu 4 2) (lX mu g 0 99) hr) else -3) ∧ pX mu2 = pX mu)) := by
  refine ab_enter hV.1 (by decide) rfl (Nat.le_of_ble_eq_true rfl) ?_
  intro X B E
  have B : CX X l rm_X7_led RX7 cX7_led wsX7_led 5 V ShX := B
  show AW X V ShX 5 0 [some (.ref (aL V 0)), some (.int (nI g)), some (.int (nI hr)), none, none] [] mu
  have hL := DL_g hg
  have q5 := shD hL
  have q6 := shD1 hL
  have q7 := shD2 hL
  have loop2 : ∀ mu1, DY mu g mu1 → hicB (mu 4 2) (lX mu g 0 99 (hr + 1)) (dX mu g 0 99 hr) = true → ∀ n, n ≤ hr + 1 → ∀ x4, x4 = nI n + -1 → (match n with | 0 => (-1 : Int32) | k + 1 => ldF (mu 4 2) (lX mu g 0 99) k) = (ldF (mu 4 2) (lX mu g 0 99) hr) → AW X V ShX 5 51 [some (.ref (aL V 0)), some (.int (nI g)), some (.int (nI hr)), some (.ref (aL V (25 + 3 * g))), some (.int x4)] [] mu1 := by
    intro mu1 hD hb n
    rw [if_pos hb] at E
    induction n with
    | zero =>
      intro hn x4 e4 hf
      refine a_iload B dX7_led_51 rfl ?_
      refine a_if_lt_t (tgt := 81) B dX7_led_53 (by decide) (by rw [e4]; decide) ?_
      refine a_iconst (v := -1) B dX7_led_81 (by decide) ?_
      refine a_ireturn B E dX7_led_82 ?_
      exact ⟨hf, hD.1⟩
    | succ n ih =>
      intro hn x4 e4 hf
      have e4b : x4 = nI n := by rw [e4]; exact pk_m1 n
      cases n with
      | zero =>
        refine a_iload B dX7_led_51 rfl ?_
        refine a_if_lt_f (tgt := 81) B dX7_led_53 (by decide) (by rw [e4b]; exact nI_pos (by omega)) ?_
        refine a_aload_n B dX7_led_56 rfl ?_
        refine a_iload B dX7_led_57 rfl ?_
        rw [e4b]
        refine a_callVi B k_X7_led_156 (c_X0_levelAhead_0 hV hL) (by first | rfl | assumption) rfl rfl rfl (Nat.le_of_ble_eq_true rfl) dX7_led_59 (fun r59 mu59 h59 => ?_)
        obtain ⟨rfl, rfl⟩ := h59
        rw [hD.2.2.2.1]
        refine a_aload_n B dX7_led_62 rfl ?_
        refine a_getr B fl_X7_led_30 (by first | rfl | assumption) rfl dX7_led_63 ?_
        refine a_geti B fl_X7_led_159 (by first | rfl | assumption) rfl dX7_led_66 ?_
        refine a_icmp_ge (tgt := 75) B dX7_led_69 (by decide) (fun c69 => ?_) (fun c69 => ?_)
        · refine a_iinc (v := -1) B dX7_led_75 rfl (by decide) (by decide) ?_
          refine a_goto (tgt := 51) B dX7_led_78 (by decide) ?_
          rw [pX_at hD.1 4 rfl] at c69
          refine ih (by omega) _ rfl ?_
          rw [← hf]
          show _ = if mu 4 2 ≤ mu (19 + 2 * g) 3 then (-1 : Int32) else 0
          rw [if_pos c69]
        · refine a_iload B dX7_led_72 rfl ?_
          refine a_ireturn B E dX7_led_74 ?_
          rw [pX_at hD.1 4 rfl] at c69
          refine ⟨?_, hD.1⟩
          rw [← hf]
          show _ = if mu 4 2 ≤ mu (19 + 2 * g) 3 then (-1 : Int32) else 0
          rw [if_neg c69]; rfl
      | succ k =>
        refine a_iload B dX7_led_51 rfl ?_
        refine a_if_lt_f (tgt := 81) B dX7_led_53 (by decide) (by rw [e4b]; exact nI_pos (by omega)) ?_
        refine a_aload_n B dX7_led_56 rfl ?_
        refine a_iload B dX7_led_57 rfl ?_
        rw [e4b]
        refine a_callVi B k_X7_led_156 (c_X0_levelAhead_s (h := k) hV hL (by omega)) (by first | rfl | assumption) rfl rfl rfl (Nat.le_of_ble_eq_true rfl) dX7_led_59 (fun r59 mu59 h59 => ?_)
        obtain ⟨rfl, rfl⟩ := h59
        rw [hD.2.2.1 k (by omega)]
        refine a_aload_n B dX7_led_62 rfl ?_
        refine a_getr B fl_X7_led_30 (by first | rfl | assumption) rfl dX7_led_63 ?_
        refine a_geti B fl_X7_led_159 (by first | rfl | assumption) rfl dX7_led_66 ?_
        refine a_icmp_ge (tgt := 75) B dX7_led_69 (by decide) (fun c69 => ?_) (fun c69 => ?_)
        · refine a_iinc (v := -1) B dX7_led_75 rfl (by decide) (by decide) ?_
          refine a_goto (tgt := 51) B dX7_led_78 (by decide) ?_
          rw [pX_at hD.1 4 rfl] at c69
          refine ih (by omega) _ rfl ?_
          rw [← hf]
          show _ = if mu 4 2 ≤ lX mu g 0 99 (k + 1) then ldF (mu 4 2) (lX mu g 0 99) k else nI (k + 1)
          rw [if_pos c69]
        · refine a_iload B dX7_led_72 rfl ?_
          refine a_ireturn B E dX7_led_74 ?_
          rw [pX_at hD.1 4 rfl] at c69
          refine ⟨?_, hD.1⟩
          rw [← hf]
          show _ = if mu 4 2 ≤ lX mu g 0 99 (k + 1) then ldF (mu 4 2) (lX mu g 0 99) k else nI (k + 1)
          rw [if_neg c69]
  refine a_iload_n B dX7_led_0 rfl ?_
  refine a_callSi B k_X7_led_66 (c_X7_isGeneral hV) rfl rfl (Nat.le_of_ble_eq_true rfl) dX7_led_1 (fun r1 mu1 h1 => ?_)
  obtain ⟨rfl, rfl⟩ := h1
  refine a_if_eq_f (tgt := 14) B dX7_led_4 (by decide) (bI_n0.mpr (inB_nI (n := 2) (by omega) (by decide))) ?_
  refine a_iload_n B dX7_led_7 rfl ?_
  refine a_callSi B k_X7_led_127 (c_X7_isHour hV) rfl rfl (Nat.le_of_ble_eq_true rfl) dX7_led_8 (fun r8 mu8 h8 => ?_)
  obtain ⟨rfl, rfl⟩ := h8
  refine a_if_ne_t (tgt := 17) B dX7_led_11 (by decide) (bI_n0.mpr (inB_nI (n := 23) (by omega) (by decide))) ?_
  refine a_aload_n B dX7_led_17 rfl ?_
  refine a_iload_n B dX7_led_18 rfl ?_
  refine a_callVr B k_X7_led_130 (c_X7_dayOf hV hi hg) (by first | rfl | assumption) rfl rfl rfl (Nat.le_of_ble_eq_true rfl) dX7_led_19 (fun r19 mu19 h19 => ?_)
  obtain ⟨rfl, hD⟩ := h19
  refine a_astore_n B dX7_led_22 (by decide) ?_
  refine a_aload_n B dX7_led_23 rfl ?_
  refine a_getr B fl_X7_led_30 (by first | rfl | assumption) rfl dX7_led_24 ?_
  refine a_aload_n B dX7_led_27 rfl ?_
  refine a_getr B fl_X7_led_137 (by first | rfl | assumption) rfl dX7_led_28 ?_
  refine a_iload_n B dX7_led_31 rfl ?_
  refine a_ialdN B (hr) (by first | rfl | assumption) rfl (by omega) (by decide) dX7_led_32 ?_
  refine a_aload_n B dX7_led_33 rfl ?_
  refine a_getr B fl_X7_led_134 (by first | rfl | assumption) rfl dX7_led_34 ?_
  refine a_iload_n B dX7_led_37 rfl ?_
  refine a_ialdN B (hr) (by first | rfl | assumption) rfl (by omega) (by decide) dX7_led_38 ?_
  rw [hD.2.1 hr hh, hD.2.2.1 hr hh]
  refine a_callVi B k_X7_led_153 (c_X3_hiccupsAt hV) (by first | rfl | assumption) rfl rfl rfl (Nat.le_of_ble_eq_true rfl) dX7_led_39 (fun r39 mu39 h39 => ?_)
  obtain ⟨rfl, rfl⟩ := h39
  rw [pX_at hD.1 4 rfl]
  refine a_if_ne (tgt := 48) B dX7_led_42 (by decide) (fun c42 => ?_) (fun c42 => ?_)
  · refine a_iload_n B dX7_led_48 rfl ?_
    refine a_istore B dX7_led_49 (by decide) ?_
    exact loop2 mu19 hD (bI_n0.mp c42) (hr + 1) (by omega) _ (pk_m1 hr).symm rfl
  · refine a_bipush (v := -3) B dX7_led_45 (by decide) ?_
    refine a_ireturn B E dX7_led_47 ?_
    rw [if_neg (by rw [bI_0.mp c42]; decide)]
    exact ⟨rfl, hD.1⟩
