def wnF (N : Nat → Int32) (h : Nat) (a b : Nat) : Bool := decide (0 < N (10 * a + b)) && decide (N (10 * a + b) ≤ nI h)
abbrev rm_X6_wonWithin : Room := { frames := 0, cells := 0, slots := 0, locals := 0 }
set_option maxRecDepth 20000 in
theorem us_X6_wonWithin_6 : ∀ w ∈ u_ws RX6 TX6 1, w ∈ wsX6_wonWithin := by decide +kernel
set_option maxRecDepth 20000 in
theorem fl_X6_wonWithin_9 : FL RX6 wsX6_wonWithin 9 6 0 := ⟨RX6, TX6, 1, rfl, by decide, us_X6_wonWithin_6, by decide +kernel⟩

set_option maxHeartbeats 4000000 in
set_option maxRecDepth 100000 in
theorem c_X6_wonWithin {l : Launch} {V : ab_V} {mu : ab_mem} {a b h : Nat} (hV : OKX V) (ha : a ≤ 9) (hb : b ≤ 9) : CT l V ShX yX6_wonWithin wsX6_wonWithin rm_X6_wonWithin [.ref (aL V 17), .int (nI a), .int (nI b), .int (nI h)] mu (pI (fun r mu2 => r = bI (wnF (mu 18) h a b) ∧ mu = mu2)) := by
  refine ab_enter hV.1 (by decide) rfl (Nat.le_of_ble_eq_true rfl) ?_
  intro X B E
  have B : CX X l rm_X6_wonWithin RX6 cX6_wonWithin wsX6_wonWithin 5 V ShX := B
  show AW X V ShX 5 0 [some (.ref (aL V 17)), some (.int (nI a)), some (.int (nI b)), some (.int (nI h)), none] [] mu
  refine a_aload_n B dX6_wonWithin_0 rfl ?_
  refine a_getr B fl_X6_wonWithin_9 (by first | rfl | assumption) rfl dX6_wonWithin_1 ?_
  refine a_iload_n B dX6_wonWithin_4 rfl ?_
  refine a_bipush (v := 10) B dX6_wonWithin_5 (by decide) ?_
  refine a_imul B dX6_wonWithin_7 ?_
  refine a_iload_n B dX6_wonWithin_8 rfl ?_
  refine a_iadd B dX6_wonWithin_9 ?_
  refine a_ialdN B (10 * a + b) (by first | rfl | assumption) (ix10r a b) (by omega) (by decide) dX6_wonWithin_10 ?_
  refine a_istore B dX6_wonWithin_11 (by decide) ?_
  refine a_iload B dX6_wonWithin_13 rfl ?_
  refine a_if_le (tgt := 28) B dX6_wonWithin_15 (by decide) (fun c15 => ?_) (fun c15 => ?_)
  · refine a_iconst (v := 0) B dX6_wonWithin_28 (by decide) ?_
    refine a_zreturn B E dX6_wonWithin_29 (by first | rfl | exact nar_bI _) ?_
    refine ⟨?_, rfl⟩
    rw [wnF]
    first
      | (have z : ¬ 0 < mu 18 (10 * a + b) := Int32.not_lt.mpr c15
         rw [decide_eq_false z]; rfl)
      | (have z : ¬ mu 18 (10 * a + b) ≤ nI h := Int32.not_le.mpr c21
         rw [decide_eq_false z, Bool.and_false]; rfl)
      | (have z1 : 0 < mu 18 (10 * a + b) := Int32.not_le.mp c15
         have z2 : mu 18 (10 * a + b) ≤ nI h := Int32.not_lt.mp c21
         rw [decide_eq_true z1, decide_eq_true z2]; rfl)
  · refine a_iload B dX6_wonWithin_18 rfl ?_
    refine a_iload_n B dX6_wonWithin_20 rfl ?_
    refine a_icmp_gt (tgt := 28) B dX6_wonWithin_21 (by decide) (fun c21 => ?_) (fun c21 => ?_)
    · refine a_iconst (v := 0) B dX6_wonWithin_28 (by decide) ?_
      refine a_zreturn B E dX6_wonWithin_29 (by first | rfl | exact nar_bI _) ?_
      refine ⟨?_, rfl⟩
      rw [wnF]
      first
        | (have z : ¬ 0 < mu 18 (10 * a + b) := Int32.not_lt.mpr c15
           rw [decide_eq_false z]; rfl)
        | (have z : ¬ mu 18 (10 * a + b) ≤ nI h := Int32.not_le.mpr c21
           rw [decide_eq_false z, Bool.and_false]; rfl)
        | (have z1 : 0 < mu 18 (10 * a + b) := Int32.not_le.mp c15
           have z2 : mu 18 (10 * a + b) ≤ nI h := Int32.not_lt.mp c21
           rw [decide_eq_true z1, decide_eq_true z2]; rfl)
    · refine a_iconst (v := 1) B dX6_wonWithin_24 (by decide) ?_
      refine a_goto (tgt := 29) B dX6_wonWithin_25 (by decide) ?_
      refine a_zreturn B E dX6_wonWithin_29 (by first | rfl | exact nar_bI _) ?_
      refine ⟨?_, rfl⟩
      rw [wnF]
      first
        | (have z : ¬ 0 < mu 18 (10 * a + b) := Int32.not_lt.mpr c15
           rw [decide_eq_false z]; rfl)
        | (have z : ¬ mu 18 (10 * a + b) ≤ nI h := Int32.not_le.mpr c21
           rw [decide_eq_false z, Bool.and_false]; rfl)
        | (have z1 : 0 < mu 18 (10 * a + b) := Int32.not_le.mp c15
           have z2 : mu 18 (10 * a + b) ≤ nI h := Int32.not_lt.mp c21
           rw [decide_eq_true z1, decide_eq_true z2]; rfl)
theorem alF_stop {e : Nat → Int32} {mk fb : Int32} {can : Nat → Nat → Bool} {a b dish : Nat} : ∀ n k, alF e mk fb can a b dish k = false → alF e mk fb can a b dish (k + n) = false := by
  intro n
  induction n with
  | zero => intro k h; exact h
  | succ n ih => intro k h; rw [← Nat.add_assoc, alF, ih k h, Bool.false_and]
abbrev rm_X6_forces : Room := { frames := 1, cells := 0, slots := 0, locals := 24 }
theorem k_X6_forces_23 : KV RX6 wsX6_forces rm_X6_forces 23 RX3 yX3_mayServe wsX3_mayServe rm_X3_mayServe 1 := ⟨_, _, _, _, gX6_forces_X3_mayServe, rfl, rfl, rfl, by decide +kernel, by decide⟩
theorem k_X6_forces_33 : KV RX6 wsX6_forces rm_X6_forces 33 RX3 yX3_levelAfter wsX3_levelAfter rm_X3_levelAfter 2 := ⟨_, _, _, _, gX6_forces_X3_levelAfter, rfl, rfl, rfl, by decide +kernel, by decide⟩
theorem k_X6_forces_37 : KV RX6 wsX6_forces rm_X6_forces 37 RX3 yX3_hiccupsAt wsX3_hiccupsAt rm_X3_hiccupsAt 2 := ⟨_, _, _, _, gX6_forces_X3_hiccupsAt, rfl, rfl, rfl, by decide +kernel, by decide⟩
theorem k_X6_forces_41 : KV RX6 wsX6_forces rm_X6_forces 41 RX6 yX6_wonWithin wsX6_wonWithin rm_X6_wonWithin 3 := ⟨_, _, _, _, gX6_forces_X6_wonWithin, rfl, rfl, rfl, by decide +kernel, by decide⟩

set_option maxHeartbeats 4000000 in
set_option maxRecDepth 100000 in
theorem c_X6_forces {l : Launch} {V : ab_V} {mu : ab_mem} {a b dish hr : Nat} (hV : OKX V) (hd : dish < 7) : CT l V ShX yX6_forces wsX6_forces rm_X6_forces [.ref (aL V 17), .ref (aL V 4), .int (nI a), .int (nI b), .int (nI dish), .int (nI (hr + 1))] mu (pI (fun r mu2 => r = bI (alF (mu 5) (mu 4 2) (mu 4 4) (wnF (mu 18) hr) a b dish 7) ∧ mu = mu2)) := by
  refine ab_enter hV.1 (by decide) rfl (Nat.le_of_ble_eq_true rfl) ?_
  intro X B E
  have B : CX X l rm_X6_forces RX6 cX6_forces wsX6_forces 11 V ShX := B
  show AW X V ShX 11 0 [some (.ref (aL V 17)), some (.ref (aL V 4)), some (.int (nI a)), some (.int (nI b)), some (.int (nI dish)), some (.int (nI (hr + 1))), none, none, none, none, none] [] mu
  have loop : ∀ (m d : Nat), d + m = 7 → (alF (mu 5) (mu 4 2) (mu 4 4) (wnF (mu 18) hr) a b dish d) = true → AW X V ShX 11 22 [some (.ref (aL V 17)), some (.ref (aL V 4)), some (.int (nI a)), some (.int (nI b)), some (.int (nI dish)), some (.int (nI (hr + 1))), some (.int (nI (qN (mu 5) b dish))), some (.int (bI (hicB (mu 4 2) (nI (qN (mu 5) b dish)) (nI dish)))), some (.int (nI d)), none, none] [] mu := by
    intro m
    induction m with
    | zero =>
      intro d hd2 hal
      have e : d = 7 := by omega
      subst e
      refine a_iload B dX6_forces_22 rfl ?_
      refine a_bipush (v := 7) B dX6_forces_24 (by decide) ?_
      refine a_icmp_ge_t (tgt := 98) B dX6_forces_26 (by decide) (by decide) ?_
      refine a_iconst (v := 1) B dX6_forces_98 (by decide) ?_
      refine a_zreturn B E dX6_forces_99 (by first | rfl | exact nar_bI _) ?_
      refine ⟨?_, rfl⟩
      rw [hal]
      rfl
    | succ m ih =>
      intro d hd2 hal
      have t59 : ∀ bo : Bool, bo = ((hicB (mu 4 2) (nI (qN (mu 5) b dish)) (nI dish)) && (hicB (mu 4 2) (nI (qN (mu 5) a d)) (nI d))) → AW X V ShX 11 59 [some (.ref (aL V 17)), some (.ref (aL V 4)), some (.int (nI a)), some (.int (nI b)), some (.int (nI dish)), some (.int (nI (hr + 1))), some (.int (nI (qN (mu 5) b dish))), some (.int (bI (hicB (mu 4 2) (nI (qN (mu 5) b dish)) (nI dish)))), some (.int (nI d)), some (.int (nI (qN (mu 5) a d))), none] [.int (bI bo)] mu := by
        intro bo hb
        refine a_istore B dX6_forces_59 (by decide) ?_
        refine a_aload_n B dX6_forces_61 rfl ?_
        refine a_iload B dX6_forces_62 rfl ?_
        refine a_callVi B k_X6_forces_23 (c_X3_mayServe hV) (by first | rfl | assumption) rfl rfl rfl (Nat.le_of_ble_eq_true rfl) dX6_forces_64 (fun r64 mu64 h64 => ?_)
        obtain ⟨rfl, rfl⟩ := h64
        refine a_if_eq (tgt := 92) B dX6_forces_67 (by decide) (fun c67 => ?_) (fun c67 => ?_)
        · refine a_iinc (v := 1) B dX6_forces_92 rfl (by decide) (by decide) ?_
          refine a_goto (tgt := 22) B dX6_forces_95 (by decide) ?_
          refine a_fg 9 ?_
          refine a_fg 10 ?_
          rw [nI_1]
          refine ih (d + 1) (by omega) ?_
          rw [alF, hal, (qN_ok (mu 5) a d).2, (qN_ok (mu 5) b dish).2]
          first
            | (rw [show bitB (mu 4 4) (nI d) = true by simpa using bI_0.mp c67]; rfl)
            | (rw [Bool.and_comm] at hb
               rw [← hb, bI_n0.mp c72, Bool.or_true]; rfl)
            | (rw [bI_n0.mp c87, Bool.or_true]; rfl)
        · refine a_iload B dX6_forces_70 rfl ?_
          refine a_if_ne (tgt := 92) B dX6_forces_72 (by decide) (fun c72 => ?_) (fun c72 => ?_)
          · refine a_iinc (v := 1) B dX6_forces_92 rfl (by decide) (by decide) ?_
            refine a_goto (tgt := 22) B dX6_forces_95 (by decide) ?_
            refine a_fg 9 ?_
            refine a_fg 10 ?_
            rw [nI_1]
            refine ih (d + 1) (by omega) ?_
            rw [alF, hal, (qN_ok (mu 5) a d).2, (qN_ok (mu 5) b dish).2]
            first
              | (rw [show bitB (mu 4 4) (nI d) = true by simpa using bI_0.mp c67]; rfl)
              | (rw [Bool.and_comm] at hb
                 rw [← hb, bI_n0.mp c72, Bool.or_true]; rfl)
              | (rw [bI_n0.mp c87, Bool.or_true]; rfl)
          · refine a_aload_n B dX6_forces_75 rfl ?_
            refine a_iload B dX6_forces_76 rfl ?_
            refine a_iload B dX6_forces_78 rfl ?_
            refine a_iload B dX6_forces_80 rfl ?_
            refine a_iconst (v := 1) B dX6_forces_82 (by decide) ?_
            refine a_isub B dX6_forces_83 ?_
            rw [show nI (hr + 1) - 1 = nI hr from nI_pred hr]
            refine a_callVi B k_X6_forces_41 (c_X6_wonWithin hV (qN_ok (mu 5) a d).1 (qN_ok (mu 5) b dish).1) (by first | rfl | assumption) rfl rfl rfl (Nat.le_of_ble_eq_true rfl) dX6_forces_84 (fun r84 mu84 h84 => ?_)
            obtain ⟨rfl, rfl⟩ := h84
            refine a_if_ne (tgt := 92) B dX6_forces_87 (by decide) (fun c87 => ?_) (fun c87 => ?_)
            · refine a_iinc (v := 1) B dX6_forces_92 rfl (by decide) (by decide) ?_
              refine a_goto (tgt := 22) B dX6_forces_95 (by decide) ?_
              refine a_fg 9 ?_
              refine a_fg 10 ?_
              rw [nI_1]
              refine ih (d + 1) (by omega) ?_
              rw [alF, hal, (qN_ok (mu 5) a d).2, (qN_ok (mu 5) b dish).2]
              first
                | (rw [show bitB (mu 4 4) (nI d) = true by simpa using bI_0.mp c67]; rfl)
                | (rw [Bool.and_comm] at hb
                   rw [← hb, bI_n0.mp c72, Bool.or_true]; rfl)
                | (rw [bI_n0.mp c87, Bool.or_true]; rfl)
            · refine a_iconst (v := 0) B dX6_forces_90 (by decide) ?_
              refine a_zreturn B E dX6_forces_91 (by first | rfl | exact nar_bI _) ?_
              refine ⟨?_, rfl⟩
              have z : alF (mu 5) (mu 4 2) (mu 4 4) (wnF (mu 18) hr) a b dish (d + 1) = false := by
                rw [Bool.and_comm] at hb
                rw [alF, (qN_ok (mu 5) a d).2, (qN_ok (mu 5) b dish).2, ← hb, bI_0.mp c72, bI_0.mp c87, show bitB (mu 4 4) (nI d) = false by simpa using bI_n0.mp c67]
                simp
              have z2 := alF_stop (7 - (d + 1)) (d + 1) z
              rw [show d + 1 + (7 - (d + 1)) = 7 by omega] at z2
              rw [z2]
              rfl
      refine a_iload B dX6_forces_22 rfl ?_
      refine a_bipush (v := 7) B dX6_forces_24 (by decide) ?_
      refine a_icmp_ge_f (tgt := 98) B dX6_forces_26 (by decide) (nI_ge (a := d) (b := 7) (by omega) (by decide)) ?_
      refine a_aload_n B dX6_forces_29 rfl ?_
      refine a_iload_n B dX6_forces_30 rfl ?_
      refine a_iload B dX6_forces_31 rfl ?_
      refine a_callVi B k_X6_forces_33 (c_X3_levelAfter hV (vp_in_nI (n := d) (by omega) (by decide))) (by first | rfl | assumption) rfl rfl rfl (Nat.le_of_ble_eq_true rfl) dX6_forces_33 (fun r33 mu33 h33 => ?_)
      obtain ⟨rfl, rfl⟩ := h33
      rw [(qN_ok (mu 5) a d).2]
      refine a_istore B dX6_forces_36 (by decide) ?_
      refine a_iload B dX6_forces_38 rfl ?_
      refine a_if_eq (tgt := 58) B dX6_forces_40 (by decide) (fun c40 => ?_) (fun c40 => ?_)
      · refine a_iconst (v := 0) B dX6_forces_58 (by decide) ?_
        first
          | exact t59 false (by rw [bI_0.mp c40, Bool.false_and])
          | exact t59 false (by rw [bI_0.mp c51, Bool.and_false])
          | exact t59 true (by rw [bI_n0.mp c40, bI_n0.mp c51]; rfl)
      · refine a_aload_n B dX6_forces_43 rfl ?_
        refine a_iload B dX6_forces_44 rfl ?_
        refine a_iload B dX6_forces_46 rfl ?_
        refine a_callVi B k_X6_forces_37 (c_X3_hiccupsAt hV) (by first | rfl | assumption) rfl rfl rfl (Nat.le_of_ble_eq_true rfl) dX6_forces_48 (fun r48 mu48 h48 => ?_)
        obtain ⟨rfl, rfl⟩ := h48
        refine a_if_eq (tgt := 58) B dX6_forces_51 (by decide) (fun c51 => ?_) (fun c51 => ?_)
        · refine a_iconst (v := 0) B dX6_forces_58 (by decide) ?_
          first
            | exact t59 false (by rw [bI_0.mp c40, Bool.false_and])
            | exact t59 false (by rw [bI_0.mp c51, Bool.and_false])
            | exact t59 true (by rw [bI_n0.mp c40, bI_n0.mp c51]; rfl)
        · refine a_iconst (v := 1) B dX6_forces_54 (by decide) ?_
          refine a_goto (tgt := 59) B dX6_forces_55 (by decide) ?_
          first
            | exact t59 false (by rw [bI_0.mp c40, Bool.false_and])
            | exact t59 false (by rw [bI_0.mp c51, Bool.and_false])
            | exact t59 true (by rw [bI_n0.mp c40, bI_n0.mp c51]; rfl)
  refine a_aload_n B dX6_forces_0 rfl ?_
  refine a_iload_n B dX6_forces_1 rfl ?_
  refine a_iload B dX6_forces_2 rfl ?_
  refine a_callVi B k_X6_forces_33 (c_X3_levelAfter hV (vp_in_nI (n := dish) (by omega) (by decide))) (by first | rfl | assumption) rfl rfl rfl (Nat.le_of_ble_eq_true rfl) dX6_forces_4 (fun r4 mu4 h4 => ?_)
  obtain ⟨rfl, rfl⟩ := h4
  rw [(qN_ok (mu 5) b dish).2]
  refine a_istore B dX6_forces_7 (by decide) ?_
  refine a_aload_n B dX6_forces_9 rfl ?_
  refine a_iload B dX6_forces_10 rfl ?_
  refine a_iload B dX6_forces_12 rfl ?_
  refine a_callVi B k_X6_forces_37 (c_X3_hiccupsAt hV) (by first | rfl | assumption) rfl rfl rfl (Nat.le_of_ble_eq_true rfl) dX6_forces_14 (fun r14 mu14 h14 => ?_)
  obtain ⟨rfl, rfl⟩ := h14
  refine a_istore B dX6_forces_17 (by decide) ?_
  refine a_iconst (v := 0) B dX6_forces_19 (by decide) ?_
  refine a_istore B dX6_forces_20 (by decide) ?_
  exact loop 7 0 rfl rfl
abbrev rm_X6_firstDish : Room := { frames := 2, cells := 0, slots := 0, locals := 54 }
theorem k_X6_firstDish_23 : KV RX6 wsX6_firstDish rm_X6_firstDish 23 RX3 yX3_mayServe wsX3_mayServe rm_X3_mayServe 1 := ⟨_, _, _, _, gX6_firstDish_X3_mayServe, rfl, rfl, rfl, by decide +kernel, by decide⟩
theorem k_X6_firstDish_29 : KV RX6 wsX6_firstDish rm_X6_firstDish 29 RX6 yX6_forces wsX6_forces rm_X6_forces 5 := ⟨_, _, _, _, gX6_firstDish_X6_forces, rfl, rfl, rfl, by decide +kernel, by decide⟩

set_option maxHeartbeats 4000000 in
set_option maxRecDepth 100000 in
theorem c_X6_firstDish {l : Launch} {V : ab_V} {mu : ab_mem} {a b hr : Nat} (hV : OKX V)  : CT l V ShX yX6_firstDish wsX6_firstDish rm_X6_firstDish [.ref (aL V 17), .ref (aL V 4), .int (nI a), .int (nI b), .int (nI (hr + 1))] mu (pI (fun r mu2 => r = lsF (fcF (mu 5) (mu 4 2) (mu 4 4) (wnF (mu 18) hr) a b) 0 7 ∧ mu = mu2)) := by
  refine ab_enter hV.1 (by decide) rfl (Nat.le_of_ble_eq_true rfl) ?_
  intro X B E
  have B : CX X l rm_X6_firstDish RX6 cX6_firstDish wsX6_firstDish 6 V ShX := B
  show AW X V ShX 6 0 [some (.ref (aL V 17)), some (.ref (aL V 4)), some (.int (nI a)), some (.int (nI b)), some (.int (nI (hr + 1))), none] [] mu
  have loop : ∀ (m d : Nat), d + m = 7 → lsF (fcF (mu 5) (mu 4 2) (mu 4 4) (wnF (mu 18) hr) a b) d m = lsF (fcF (mu 5) (mu 4 2) (mu 4 4) (wnF (mu 18) hr) a b) 0 7 → AW X V ShX 6 3 [some (.ref (aL V 17)), some (.ref (aL V 4)), some (.int (nI a)), some (.int (nI b)), some (.int (nI (hr + 1))), some (.int (nI d))] [] mu := by
    intro m
    induction m with
    | zero =>
      intro d hd hf
      refine a_iload B dX6_firstDish_3 rfl ?_
      refine a_bipush (v := 7) B dX6_firstDish_5 (by decide) ?_
      refine a_icmp_ge_t (tgt := 42) B dX6_firstDish_7 (by decide) (nI_le (a := 7) (b := d) (by omega) (by omega)) ?_
      refine a_iconst (v := -1) B dX6_firstDish_42 (by decide) ?_
      refine a_ireturn B E dX6_firstDish_43 ?_
      exact ⟨hf, rfl⟩
    | succ m ih =>
      intro d hd hf
      refine a_iload B dX6_firstDish_3 rfl ?_
      refine a_bipush (v := 7) B dX6_firstDish_5 (by decide) ?_
      refine a_icmp_ge_f (tgt := 42) B dX6_firstDish_7 (by decide) (nI_ge (a := d) (b := 7) (by omega) (by decide)) ?_
      refine a_aload_n B dX6_firstDish_10 rfl ?_
      refine a_iload B dX6_firstDish_11 rfl ?_
      refine a_callVi B k_X6_firstDish_23 (c_X3_mayServe hV) (by first | rfl | assumption) rfl rfl rfl (Nat.le_of_ble_eq_true rfl) dX6_firstDish_13 (fun r13 mu13 h13 => ?_)
      obtain ⟨rfl, rfl⟩ := h13
      refine a_if_eq (tgt := 36) B dX6_firstDish_16 (by decide) (fun c16 => ?_) (fun c16 => ?_)
      · refine a_iinc (v := 1) B dX6_firstDish_36 rfl (by decide) (by decide) ?_
        refine a_goto (tgt := 3) B dX6_firstDish_39 (by decide) ?_
        rw [nI_1]
        refine ih (d + 1) (by omega) ?_
        rw [← hf, lsF]
        first
          | (rw [if_neg (by rw [fcF, bI_0.mp c16, Bool.false_and]; decide)])
          | (rw [if_neg (by rw [fcF, bI_0.mp c30, Bool.and_false]; decide)])
      · refine a_aload_n B dX6_firstDish_19 rfl ?_
        refine a_aload_n B dX6_firstDish_20 rfl ?_
        refine a_iload_n B dX6_firstDish_21 rfl ?_
        refine a_iload_n B dX6_firstDish_22 rfl ?_
        refine a_iload B dX6_firstDish_23 rfl ?_
        refine a_iload B dX6_firstDish_25 rfl ?_
        refine a_callVi B k_X6_firstDish_29 (c_X6_forces hV (by omega)) (by first | rfl | assumption) rfl rfl rfl (Nat.le_of_ble_eq_true rfl) dX6_firstDish_27 (fun r27 mu27 h27 => ?_)
        obtain ⟨rfl, rfl⟩ := h27
        refine a_if_eq (tgt := 36) B dX6_firstDish_30 (by decide) (fun c30 => ?_) (fun c30 => ?_)
        · refine a_iinc (v := 1) B dX6_firstDish_36 rfl (by decide) (by decide) ?_
          refine a_goto (tgt := 3) B dX6_firstDish_39 (by decide) ?_
          rw [nI_1]
          refine ih (d + 1) (by omega) ?_
          rw [← hf, lsF]
          first
            | (rw [if_neg (by rw [fcF, bI_0.mp c16, Bool.false_and]; decide)])
            | (rw [if_neg (by rw [fcF, bI_0.mp c30, Bool.and_false]; decide)])
        · refine a_iload B dX6_firstDish_33 rfl ?_
          refine a_ireturn B E dX6_firstDish_35 ?_
          refine ⟨?_, rfl⟩
          rw [← hf, lsF, if_pos (by rw [fcF, bI_n0.mp c16, bI_n0.mp c30]; rfl)]
  refine a_iconst (v := 0) B dX6_firstDish_0 (by decide) ?_
  refine a_istore B dX6_firstDish_1 (by decide) ?_
  exact loop 7 0 rfl rfl
theorem lsF_an {ok : Nat → Bool} : ∀ k i, i + k < 2 ^ 31 → (lsF ok i k = -1 ↔ ∀ d, i ≤ d → d < i + k → ok d = false) := by
  intro k
  induction k with
  | zero => intro i _; exact ⟨fun _ d h1 h2 => by omega, fun _ => rfl⟩
  | succ k ih =>
    intro i hi
    rw [lsF]
    by_cases h : ok i = true
    · rw [if_pos h]
      constructor
      · intro q; exact absurd q (nI_neg1 (by omega))
      · intro q; rw [q i (Nat.le_refl _) (by omega)] at h; cases h
    · rw [if_neg h, ih (i + 1) (by omega)]
      constructor
      · intro q d h1 h2
        by_cases e : d = i
        · rw [e]; simpa using h
        · exact q d (by omega) (by omega)
      · intro q d h1 h2; exact q d (by omega) (by omega)
theorem anF_iff {p : Nat → Bool} : ∀ n, anF p n = true ↔ ∃ d, d < n ∧ p d = true := by
  intro n
  induction n with
  | zero => simp [anF]
  | succ n ih =>
    rw [anF, Bool.or_eq_true, ih]
    constructor
    · rintro (⟨d, h1, h2⟩ | h)
      · exact ⟨d, by omega, h2⟩
      · exact ⟨n, by omega, h⟩
    · rintro ⟨d, h1, h2⟩
      by_cases e : d = n
      · rw [e] at h2; exact Or.inr h2
      · exact Or.inl ⟨d, by omega, h2⟩
theorem lsF_anF {ok : Nat → Bool} : lsF ok 0 7 = -1 ↔ anF ok 7 = false := by
  rw [lsF_an 7 0 (by decide), ← Bool.not_eq_true, anF_iff]
  constructor
  · rintro h ⟨d, h1, h2⟩
    rw [h d (Nat.zero_le _) (by omega)] at h2
    cases h2
  · intro h d _ h1
    cases q : ok d with
    | false => rfl
    | true => exact absurd ⟨d, by omega, q⟩ h
/-- only places up to 9 are asked -/
theorem alF_congr {e : Nat → Int32} {mk fb : Int32} {c1 c2 : Nat → Nat → Bool} {a b dish : Nat} (h : ∀ x y, x ≤ 9 → y ≤ 9 → c1 x y = c2 x y) : ∀ n, alF e mk fb c1 a b dish n = alF e mk fb c2 a b dish n := by
  intro n
  induction n with
  | zero => rfl
  | succ n ih => rw [alF, alF, ih, h _ _ (qN_ok e a n).1 (qN_ok e b dish).1]
theorem fcF_congr {e : Nat → Int32} {mk fb : Int32} {c1 c2 : Nat → Nat → Bool} {a b : Nat} (h : ∀ x y, x ≤ 9 → y ≤ 9 → c1 x y = c2 x y) : fcF e mk fb c1 a b = fcF e mk fb c2 a b := by
  funext d
  rw [fcF, fcF, alF_congr h]
theorem alF_mono {e : Nat → Int32} {mk fb : Int32} {c1 c2 : Nat → Nat → Bool} {a b dish : Nat} (h : ∀ x y, x ≤ 9 → y ≤ 9 → c1 x y = true → c2 x y = true) : ∀ n, alF e mk fb c1 a b dish n = true → alF e mk fb c2 a b dish n = true := by
  intro n
  induction n with
  | zero => intro _; rfl
  | succ n ih =>
    intro q
    rw [alF, Bool.and_eq_true, Bool.or_eq_true] at q
    rw [alF, Bool.and_eq_true, Bool.or_eq_true]
    exact ⟨ih q.1, q.2.elim Or.inl (fun z => Or.inr (h _ _ (qN_ok e a n).1 (qN_ok e b dish).1 z))⟩
theorem cnF_mono (e : Nat → Int32) (mk fb : Int32) : ∀ l a b, cnF e mk fb l a b = true → cnF e mk fb (l + 1) a b = true := by
  intro l
  induction l with
  | zero => intro a b h; cases h
  | succ l ih =>
    intro a b h
    have h' : anF (fun d => fcF e mk fb (cnF e mk fb l) a b d) 7 = true := h
    obtain ⟨d, h1, h2⟩ := (anF_iff 7).mp h'
    show anF (fun d => fcF e mk fb (cnF e mk fb (l + 1)) a b d) 7 = true
    refine (anF_iff 7).mpr ⟨d, h1, ?_⟩
    rw [fcF, Bool.and_eq_true] at h2
    rw [fcF, Bool.and_eq_true]
    exact ⟨h2.1, alF_mono (fun x y _ _ z => ih x y z) 7 h2.2⟩
theorem cnF_fix {e : Nat → Int32} {mk fb : Int32} {l : Nat} (h : ∀ a b, a ≤ 9 → b ≤ 9 → cnF e mk fb (l + 1) a b = cnF e mk fb l a b) : ∀ k a b, a ≤ 9 → b ≤ 9 → cnF e mk fb (l + k) a b = cnF e mk fb l a b := by
  intro k
  induction k with
  | zero => intro a b _ _; rfl
  | succ k ih =>
    intro a b ha hb
    rw [← Nat.add_assoc]
    show anF (fun d => fcF e mk fb (cnF e mk fb (l + k)) a b d) 7 = _
    rw [← h a b ha hb]
    show anF (fcF e mk fb (cnF e mk fb (l + k)) a b) 7 = anF (fcF e mk fb (cnF e mk fb l) a b) 7
    rw [fcF_congr ih]
def cnX (mu : ab_mem) : Nat → Nat → Nat → Bool := cnF (mu 5) (mu 4 2) (mu 4 4)
/-- the table of hours needed, t hours weighed: place k holds c, at most t; within any h up to t it says what can be forced -/
def NX (mu : ab_mem) (t : Nat) (N : Nat → Int32) : Prop := ∀ a b, a ≤ 9 → b ≤ 9 → (∃ c, c ≤ t ∧ N (10 * a + b) = nI c) ∧ ∀ h, h ≤ t → wnF N h a b = cnX mu h a b
theorem wnF_nI {N : Nat → Int32} {a b c h : Nat} (e : N (10 * a + b) = nI c) (hc : c < 2 ^ 31) (hh : h < 2 ^ 31) : wnF N h a b = true ↔ 0 < c ∧ c ≤ h := by
  rw [wnF, e, Bool.and_eq_true, decide_eq_true_eq, decide_eq_true_eq, nI_leI hc hh]
  have : (0 : Int32) < nI c ↔ 0 < c := nI_ltI (a := 0) (by decide) hc
  rw [this]
/-- a place of the next hour -/
def nwX (mu : ab_mem) (t : Nat) (N : Nat → Int32) (k : Nat) : Int32 := if N k = 0 ∧ cnX mu (t + 1) (k / 10) (k % 10) = true then nI (t + 1) else N k
theorem NX_wn {mu : ab_mem} {t : Nat} {N N2 : Nat → Int32} (ht : t < 2 ^ 30) (h : NX mu t N) (h2 : ∀ k, k < 100 → N2 k = N k ∨ N2 k = nwX mu t N k) : ∀ x y, x ≤ 9 → y ≤ 9 → wnF N2 t x y = cnX mu t x y := by
  intro x y hx hy
  obtain ⟨⟨c, hc, e⟩, hw⟩ := h x y hx hy
  rw [← hw t (Nat.le_refl _)]
  rcases h2 (10 * x + y) (by omega) with q | q
  · unfold wnF; rw [q]
  · unfold nwX at q
    split at q
    · rename_i z
      have e1 : ¬ wnF N2 t x y = true := by rw [wnF_nI q (by omega) (by omega)]; omega
      have e2 : ¬ wnF N t x y = true := by
        have c0 : c = 0 := (nI_eq (b := 0) (by omega) (by decide)).mp (e.symm.trans z.1)
        rw [wnF_nI e (by omega) (by omega)]; omega
      rw [Bool.not_eq_true] at e1 e2
      rw [e1, e2]
    · unfold wnF; rw [q]
theorem NX_next {mu : ab_mem} {t : Nat} {N N2 : Nat → Int32} (ht : t < 2 ^ 30) (h : NX mu t N) (h2 : ∀ k, k < 100 → N2 k = nwX mu t N k) : NX mu (t + 1) N2 := by
  intro a b ha hb
  obtain ⟨⟨c, hc, e⟩, hw⟩ := h a b ha hb
  have hk := h2 (10 * a + b) (by omega)
  have ea : (10 * a + b) / 10 = a := by omega
  have eb : (10 * a + b) % 10 = b := by omega
  unfold nwX at hk
  rw [ea, eb] at hk
  by_cases q : N (10 * a + b) = 0 ∧ cnX mu (t + 1) a b = true
  · rw [if_pos q] at hk
    have c0 : c = 0 := (nI_eq (b := 0) (by omega) (by decide)).mp (e.symm.trans q.1)
    refine ⟨⟨t + 1, Nat.le_refl _, hk⟩, fun hh hle => ?_⟩
    by_cases z : hh = t + 1
    · subst z
      rw [q.2, wnF_nI hk (by omega) (by omega)]; omega
    · have e1 : ¬ wnF N2 hh a b = true := by rw [wnF_nI hk (by omega) (by omega)]; omega
      have e2 : ¬ wnF N hh a b = true := by rw [wnF_nI e (by omega) (by omega)]; omega
      rw [Bool.not_eq_true] at e1 e2
      rw [e1, ← e2]; exact hw hh (by omega)
  · rw [if_neg q] at hk
    refine ⟨⟨c, by omega, hk.trans e⟩, fun hh hle => ?_⟩
    have e0 : wnF N2 hh a b = wnF N hh a b := by unfold wnF; rw [hk]
    rw [e0]
    by_cases z : hh = t + 1
    · subst z
      by_cases c0 : c = 0
      · have e2 : ¬ wnF N (t + 1) a b = true := by rw [wnF_nI e (by omega) (by omega)]; omega
        have e3 : ¬ cnX mu (t + 1) a b = true := fun y => q ⟨by rw [e, c0]; rfl, y⟩
        rw [Bool.not_eq_true] at e2 e3
        rw [e2, e3]
      · have e2 : wnF N (t + 1) a b = true := by rw [wnF_nI e (by omega) (by omega)]; omega
        have e3 : wnF N t a b = true := by rw [wnF_nI e (by omega) (by omega)]; omega
        rw [hw t (Nat.le_refl _)] at e3
        rw [e2]
        exact (cnF_mono _ _ _ t a b e3).symm
    · exact hw hh (by omega)
def moX (mu : ab_mem) (t : Nat) (N : Nat → Int32) : Nat → Bool
  | 0 => false
  | k + 1 => moX mu t N k || (decide (N k = 0) && cnX mu (t + 1) (k / 10) (k % 10))
theorem moX_f {mu : ab_mem} {t : Nat} {N : Nat → Int32} : ∀ n, moX mu t N n = false → ∀ k, k < n → ¬ (N k = 0 ∧ cnX mu (t + 1) (k / 10) (k % 10) = true) := by
  intro n
  induction n with
  | zero => intro _ k hk; omega
  | succ n ih =>
    intro h k hk
    rw [moX, Bool.or_eq_false_iff] at h
    by_cases e : k = n
    · subst e
      intro q
      rw [q.2, decide_eq_true q.1] at h
      cases h.2
    · exact ih h.1 k (by omega)
/-- once nothing new is won, nothing later is -/
theorem NX_stop {mu : ab_mem} {t : Nat} {N : Nat → Int32} (ht : t < 2 ^ 30) (h : NX mu t N) (hm : moX mu t N 100 = false) : ∀ m, m < 2 ^ 30 → t ≤ m → ∀ a b, a ≤ 9 → b ≤ 9 → wnF N m a b = cnX mu m a b := by
  intro m hm2 htm a b ha hb
  have hfix : ∀ a b, a ≤ 9 → b ≤ 9 → cnX mu (t + 1) a b = cnX mu t a b := by
    intro a b ha hb
    obtain ⟨⟨c, hc, e⟩, hw⟩ := h a b ha hb
    have z := moX_f 100 hm (10 * a + b) (by omega)
    rw [show (10 * a + b) / 10 = a by omega, show (10 * a + b) % 10 = b by omega] at z
    cases q : cnX mu (t + 1) a b with
    | false =>
      cases q2 : cnX mu t a b with
      | false => rfl
      | true => have := cnF_mono (mu 5) (mu 4 2) (mu 4 4) t a b q2; unfold cnX at q; rw [this] at q; cases q
    | true =>
      have c0 : c ≠ 0 := fun y => z ⟨by rw [e, y]; rfl, q⟩
      have e3 : wnF N t a b = true := by rw [wnF_nI e (by omega) (by omega)]; omega
      rw [← hw t (Nat.le_refl _), e3]
  obtain ⟨⟨c, hc, e⟩, hw⟩ := h a b ha hb
  have e1 : cnX mu m a b = cnX mu t a b := by
    have := cnF_fix (e := mu 5) (mk := mu 4 2) (fb := mu 4 4) (l := t) hfix (m - t) a b ha hb
    rw [show t + (m - t) = m by omega] at this
    exact this
  rw [e1, ← hw t (Nat.le_refl _)]
  cases q : wnF N t a b with
  | true => rw [wnF_nI e (by omega) (by omega)] at q ⊢; omega
  | false =>
    rw [← Bool.not_eq_true] at q ⊢
    rw [wnF_nI e (by omega) (by omega)] at q ⊢
    omega
abbrev rm_X6_weighHour : Room := { frames := 3, cells := 0, slots := 0, locals := 79 }
set_option maxRecDepth 20000 in
theorem us_X6_weighHour_6 : ∀ w ∈ u_ws RX6 TX6 1, w ∈ wsX6_weighHour := by decide +kernel
set_option maxRecDepth 20000 in
theorem fl_X6_weighHour_9 : FL RX6 wsX6_weighHour 9 6 0 := ⟨RX6, TX6, 1, rfl, by decide, us_X6_weighHour_6, by decide +kernel⟩
theorem k_X6_weighHour_19 : KV RX6 wsX6_weighHour rm_X6_weighHour 19 RX6 yX6_firstDish wsX6_firstDish rm_X6_firstDish 4 := ⟨_, _, _, _, gX6_weighHour_X6_firstDish, rfl, rfl, rfl, by decide +kernel, by decide⟩

set_option maxHeartbeats 4000000 in
set_option maxRecDepth 100000 in
theorem c_X6_weighHour {l : Launch} {V : ab_V} {mu : ab_mem} {tt : Nat} (hV : OKX V) (htt : tt ≤ 12) (hN0 : NX mu tt (mu 18)) : CT l V ShX yX6_weighHour wsX6_weighHour rm_X6_weighHour [.ref (aL V 17), .ref (aL V 4), .int (nI (tt + 1))] mu (pI (fun r mu2 => r = bI (moX mu tt (mu 18) 100) ∧ (∀ q, q ≠ 18 → mu2 q = mu q) ∧ ∀ j, j < 100 → mu2 18 j = nwX mu tt (mu 18) j)) := by
  refine ab_enter hV.1 (by decide) rfl (Nat.le_of_ble_eq_true rfl) ?_
  intro X B E
  have B : CX X l rm_X6_weighHour RX6 cX6_weighHour wsX6_weighHour 5 V ShX := B
  show AW X V ShX 5 0 [some (.ref (aL V 17)), some (.ref (aL V 4)), some (.int (nI (tt + 1))), none, none] [] mu
  have loop : ∀ (m k : Nat), k + m = 100 → ∀ mu1, ((∀ q, q ≠ 18 → mu1 q = mu q) ∧ (∀ j, j < k → mu1 18 j = nwX mu tt (mu 18) j) ∧ ∀ j, k ≤ j → j < 100 → mu1 18 j = mu 18 j) → AW X V ShX 5 5 [some (.ref (aL V 17)), some (.ref (aL V 4)), some (.int (nI (tt + 1))), some (.int (bI (moX mu tt (mu 18) k))), some (.int (nI k))] [] mu1 := by
    intro m
    induction m with
    | zero =>
      intro k hk mu1 hq
      have e : k = 100 := by omega
      subst e
      refine a_iload B dX6_weighHour_5 rfl ?_
      refine a_bipush (v := 100) B dX6_weighHour_7 (by decide) ?_
      refine a_icmp_ge_t (tgt := 58) B dX6_weighHour_9 (by decide) (by decide) ?_
      refine a_iload_n B dX6_weighHour_58 rfl ?_
      refine a_zreturn B E dX6_weighHour_59 (by first | rfl | exact nar_bI _) ?_
      exact ⟨rfl, hq.1, fun j hj => hq.2.1 j hj⟩
    | succ m ih =>
      intro k hk mu1 hq
      refine a_iload B dX6_weighHour_5 rfl ?_
      refine a_bipush (v := 100) B dX6_weighHour_7 (by decide) ?_
      refine a_icmp_ge_f (tgt := 58) B dX6_weighHour_9 (by decide) (nI_ge (a := k) (b := 100) (by omega) (by decide)) ?_
      refine a_aload_n B dX6_weighHour_12 rfl ?_
      refine a_getr B fl_X6_weighHour_9 (by first | rfl | assumption) rfl dX6_weighHour_13 ?_
      refine a_iload B dX6_weighHour_16 rfl ?_
      refine a_ialdN B (k) (by first | rfl | assumption) rfl (by omega) (by decide) dX6_weighHour_18 ?_
      rw [hq.2.2 k (Nat.le_refl _) (by omega)]
      refine a_if_ne (tgt := 52) B dX6_weighHour_19 (by decide) (fun c19 => ?_) (fun c19 => ?_)
      · refine a_iinc (v := 1) B dX6_weighHour_52 rfl (by decide) (by decide) ?_
        refine a_goto (tgt := 5) B dX6_weighHour_55 (by decide) ?_
        rw [nI_1]
        have e := ih (k + 1) (by omega)
        rw [moX] at e
        first
          | (have z : ¬ mu 18 k = 0 := c19
             rw [decide_eq_false z, Bool.false_and, Bool.or_false] at e
             exact e mu1 ⟨hq.1, fun j hj => by
               by_cases ej : j = k
               · rw [ej, hq.2.2 k (Nat.le_refl _) (by omega), nwX, if_neg (fun y => z y.1)]
               · exact hq.2.1 j (by omega), fun j h1 h2 => hq.2.2 j (by omega) h2⟩)
          | (have z : cnX mu (tt + 1) (k / 10) (k % 10) = false := hN.mp c39
             rw [z, Bool.and_false, Bool.or_false] at e
             exact e mu1 ⟨hq.1, fun j hj => by
               by_cases ej : j = k
               · rw [ej, hq.2.2 k (Nat.le_refl _) (by omega), nwX, if_neg (fun y => absurd y.2 (by rw [z]; decide))]
               · exact hq.2.1 j (by omega), fun j h1 h2 => hq.2.2 j (by omega) h2⟩)
          | (have z0 : mu 18 k = 0 := c19
             have z : cnX mu (tt + 1) (k / 10) (k % 10) = true := by
               cases y : cnX mu (tt + 1) (k / 10) (k % 10) with
               | true => rfl
               | false => exact absurd (hN.mpr y) c39
             rw [z, decide_eq_true z0, Bool.true_and, Bool.or_true] at e
             exact e (ab_up mu1 18 k (nI (tt + 1))) ⟨fun q h => by rw [ab_up_o h]; exact hq.1 q h, fun j hj => by
               rw [ab_up_s]
               by_cases ej : j = k
               · rw [ej, pk_us, nwX, if_pos ⟨z0, z⟩]
               · rw [pk_un ej]; exact hq.2.1 j (by omega), fun j h1 h2 => by rw [ab_up_s, pk_un (by omega)]; exact hq.2.2 j (by omega) h2⟩)
      · refine a_aload_n B dX6_weighHour_22 rfl ?_
        refine a_aload_n B dX6_weighHour_23 rfl ?_
        refine a_iload B dX6_weighHour_24 rfl ?_
        refine a_bipush (v := 10) B dX6_weighHour_26 (by decide) ?_
        refine a_idiv B dX6_weighHour_28 (by decide) ?_
        rw [show nI k / 10 = nI (k / 10) from pk_div (d := 10) (by omega) (by decide) (by decide)]
        refine a_iload B dX6_weighHour_29 rfl ?_
        refine a_bipush (v := 10) B dX6_weighHour_31 (by decide) ?_
        refine a_irem B dX6_weighHour_33 (by decide) ?_
        rw [show nI k - nI k / 10 * 10 = nI (k % 10) from pk_rem (d := 10) (by omega) (by decide) (by decide)]
        refine a_iload_n B dX6_weighHour_34 rfl ?_
        have hN : lsF (fcF (mu1 5) (mu1 4 2) (mu1 4 4) (wnF (mu1 18) tt) (k / 10) (k % 10)) 0 7 = -1 ↔ cnX mu (tt + 1) (k / 10) (k % 10) = false := by
          rw [lsF_anF, hq.1 4 (by decide), hq.1 5 (by decide), fcF_congr (c2 := cnX mu tt) (NX_wn (by omega) hN0 (fun j hj => by
            rcases Nat.lt_or_ge j k with z | z
            · exact Or.inr (hq.2.1 j z)
            · exact Or.inl (hq.2.2 j z hj)))]
          rfl
        refine a_callVi B k_X6_weighHour_19 (c_X6_firstDish hV) (by first | rfl | assumption) rfl rfl rfl (Nat.le_of_ble_eq_true rfl) dX6_weighHour_35 (fun r35 mu35 h35 => ?_)
        obtain ⟨rfl, rfl⟩ := h35
        refine a_iconst (v := -1) B dX6_weighHour_38 (by decide) ?_
        refine a_icmp_eq (tgt := 52) B dX6_weighHour_39 (by decide) (fun c39 => ?_) (fun c39 => ?_)
        · refine a_iinc (v := 1) B dX6_weighHour_52 rfl (by decide) (by decide) ?_
          refine a_goto (tgt := 5) B dX6_weighHour_55 (by decide) ?_
          rw [nI_1]
          have e := ih (k + 1) (by omega)
          rw [moX] at e
          first
            | (have z : ¬ mu 18 k = 0 := c19
               rw [decide_eq_false z, Bool.false_and, Bool.or_false] at e
               exact e mu1 ⟨hq.1, fun j hj => by
                 by_cases ej : j = k
                 · rw [ej, hq.2.2 k (Nat.le_refl _) (by omega), nwX, if_neg (fun y => z y.1)]
                 · exact hq.2.1 j (by omega), fun j h1 h2 => hq.2.2 j (by omega) h2⟩)
            | (have z : cnX mu (tt + 1) (k / 10) (k % 10) = false := hN.mp c39
               rw [z, Bool.and_false, Bool.or_false] at e
               exact e mu1 ⟨hq.1, fun j hj => by
                 by_cases ej : j = k
                 · rw [ej, hq.2.2 k (Nat.le_refl _) (by omega), nwX, if_neg (fun y => absurd y.2 (by rw [z]; decide))]
                 · exact hq.2.1 j (by omega), fun j h1 h2 => hq.2.2 j (by omega) h2⟩)
            | (have z0 : mu 18 k = 0 := c19
               have z : cnX mu (tt + 1) (k / 10) (k % 10) = true := by
                 cases y : cnX mu (tt + 1) (k / 10) (k % 10) with
                 | true => rfl
                 | false => exact absurd (hN.mpr y) c39
               rw [z, decide_eq_true z0, Bool.true_and, Bool.or_true] at e
               exact e (ab_up mu1 18 k (nI (tt + 1))) ⟨fun q h => by rw [ab_up_o h]; exact hq.1 q h, fun j hj => by
                 rw [ab_up_s]
                 by_cases ej : j = k
                 · rw [ej, pk_us, nwX, if_pos ⟨z0, z⟩]
                 · rw [pk_un ej]; exact hq.2.1 j (by omega), fun j h1 h2 => by rw [ab_up_s, pk_un (by omega)]; exact hq.2.2 j (by omega) h2⟩)
        · refine a_aload_n B dX6_weighHour_42 rfl ?_
          refine a_getr B fl_X6_weighHour_9 (by first | rfl | assumption) rfl dX6_weighHour_43 ?_
          refine a_iload B dX6_weighHour_46 rfl ?_
          refine a_iload_n B dX6_weighHour_48 rfl ?_
          refine a_iastN B (k) (by first | rfl | assumption) rfl (by omega) (by decide)  dX6_weighHour_49 ?_
          refine a_iconst (v := 1) B dX6_weighHour_50 (by decide) ?_
          refine a_istore_n B dX6_weighHour_51 (by decide) ?_
          refine a_iinc (v := 1) B dX6_weighHour_52 rfl (by decide) (by decide) ?_
          refine a_goto (tgt := 5) B dX6_weighHour_55 (by decide) ?_
          rw [nI_1]
          have e := ih (k + 1) (by omega)
          rw [moX] at e
          first
            | (have z : ¬ mu 18 k = 0 := c19
               rw [decide_eq_false z, Bool.false_and, Bool.or_false] at e
               exact e mu1 ⟨hq.1, fun j hj => by
                 by_cases ej : j = k
                 · rw [ej, hq.2.2 k (Nat.le_refl _) (by omega), nwX, if_neg (fun y => z y.1)]
                 · exact hq.2.1 j (by omega), fun j h1 h2 => hq.2.2 j (by omega) h2⟩)
            | (have z : cnX mu (tt + 1) (k / 10) (k % 10) = false := hN.mp c39
               rw [z, Bool.and_false, Bool.or_false] at e
               exact e mu1 ⟨hq.1, fun j hj => by
                 by_cases ej : j = k
                 · rw [ej, hq.2.2 k (Nat.le_refl _) (by omega), nwX, if_neg (fun y => absurd y.2 (by rw [z]; decide))]
                 · exact hq.2.1 j (by omega), fun j h1 h2 => hq.2.2 j (by omega) h2⟩)
            | (have z0 : mu 18 k = 0 := c19
               have z : cnX mu (tt + 1) (k / 10) (k % 10) = true := by
                 cases y : cnX mu (tt + 1) (k / 10) (k % 10) with
                 | true => rfl
                 | false => exact absurd (hN.mpr y) c39
               rw [z, decide_eq_true z0, Bool.true_and, Bool.or_true] at e
               exact e (ab_up mu1 18 k (nI (tt + 1))) ⟨fun q h => by rw [ab_up_o h]; exact hq.1 q h, fun j hj => by
                 rw [ab_up_s]
                 by_cases ej : j = k
                 · rw [ej, pk_us, nwX, if_pos ⟨z0, z⟩]
                 · rw [pk_un ej]; exact hq.2.1 j (by omega), fun j h1 h2 => by rw [ab_up_s, pk_un (by omega)]; exact hq.2.2 j (by omega) h2⟩)
  refine a_iconst (v := 0) B dX6_weighHour_0 (by decide) ?_
  refine a_istore_n B dX6_weighHour_1 (by decide) ?_
  refine a_iconst (v := 0) B dX6_weighHour_2 (by decide) ?_
  refine a_istore B dX6_weighHour_3 (by decide) ?_
  exact loop 100 0 rfl mu ⟨fun _ _ => rfl, fun j hj => by omega, fun j _ _ => rfl⟩
theorem NX_p {mu mu1 : ab_mem} (h : ∀ q, q ≠ 18 → mu1 q = mu q) {t : Nat} {N : Nat → Int32} : NX mu1 t N ↔ NX mu t N := by
  unfold NX cnX
  rw [h 4 (by decide), h 5 (by decide)]
theorem nwX_p {mu mu1 : ab_mem} (h : ∀ q, q ≠ 18 → mu1 q = mu q) {t : Nat} {N : Nat → Int32} : nwX mu1 t N = nwX mu t N := by
  funext k
  unfold nwX cnX
  rw [h 4 (by decide), h 5 (by decide)]
theorem moX_p {mu mu1 : ab_mem} (h : ∀ q, q ≠ 18 → mu1 q = mu q) {t : Nat} {N : Nat → Int32} : ∀ n, moX mu1 t N n = moX mu t N n := by
  intro n
  induction n with
  | zero => rfl
  | succ n ih => rw [moX, moX, ih]; unfold cnX; rw [h 4 (by decide), h 5 (by decide)]
abbrev rm_X6_weigh : Room := { frames := 4, cells := 0, slots := 0, locals := 103 }
set_option maxRecDepth 20000 in
theorem us_X6_weigh_6 : ∀ w ∈ u_ws RX6 TX6 1, w ∈ wsX6_weigh := by decide +kernel
set_option maxRecDepth 20000 in
theorem fl_X6_weigh_9 : FL RX6 wsX6_weigh 9 6 0 := ⟨RX6, TX6, 1, rfl, by decide, us_X6_weigh_6, by decide +kernel⟩
theorem k_X6_weigh_15 : KV RX6 wsX6_weigh rm_X6_weigh 15 RX6 yX6_weighHour wsX6_weighHour rm_X6_weighHour 2 := ⟨_, _, _, _, gX6_weigh_X6_weighHour, rfl, rfl, rfl, by decide +kernel, by decide⟩

set_option maxHeartbeats 4000000 in
set_option maxRecDepth 100000 in
theorem c_X6_weigh {l : Launch} {V : ab_V} {mu : ab_mem} {mx : Nat} (hV : OKX V) (hmx : mx ≤ 11) : CT l V ShX yX6_weigh wsX6_weigh rm_X6_weigh [.ref (aL V 17), .ref (aL V 4), .int (nI mx)] mu (pV (fun mu2 => (∀ q, q ≠ 18 → mu2 q = mu q) ∧ ∀ a b, a ≤ 9 → b ≤ 9 → wnF (mu2 18) mx a b = cnX mu mx a b)) := by
  refine ab_enter hV.1 (by decide) rfl (Nat.le_of_ble_eq_true rfl) ?_
  intro X B E
  have B : CX X l rm_X6_weigh RX6 cX6_weigh wsX6_weigh 5 V ShX := B
  show AW X V ShX 5 0 [some (.ref (aL V 17)), some (.ref (aL V 4)), some (.int (nI mx)), none, none] [] mu
  have l26 : ∀ (m tt : Nat), tt + m = mx → ∀ mu1 (mo : Bool), (∀ q, q ≠ 18 → mu1 q = mu q) → NX mu tt (mu1 18) → (mo = false → ∃ t2, tt = t2 + 1 ∧ ∃ N2, NX mu t2 N2 ∧ moX mu t2 N2 100 = false ∧ ∀ k, k < 100 → mu1 18 k = N2 k) → AW X V ShX 5 26 [some (.ref (aL V 17)), some (.ref (aL V 4)), some (.int (nI mx)), some (.int (bI mo)), some (.int (nI (tt + 1)))] [] mu1 := by
    intro m
    induction m with
    | zero =>
      intro tt htt mu1 mo hp hN hmo
      refine a_iload B dX6_weigh_26 rfl ?_
      refine a_iload_n B dX6_weigh_28 rfl ?_
      refine a_icmp_gt_t (tgt := 50) B dX6_weigh_29 (by decide) (nI_lt (a := mx) (b := tt + 1) (by omega) (by omega)) ?_
      refine a_return B E dX6_weigh_50 ?_
      have et : tt = mx := by omega
      subst et
      exact ⟨hp, fun a b ha hb => (hN a b ha hb).2 tt (Nat.le_refl _)⟩
    | succ m ih =>
      intro tt htt mu1 mo hp hN hmo
      refine a_iload B dX6_weigh_26 rfl ?_
      refine a_iload_n B dX6_weigh_28 rfl ?_
      refine a_icmp_gt_f (tgt := 50) B dX6_weigh_29 (by decide) (nI_nlt (a := mx) (b := tt + 1) (by omega) (by omega)) ?_
      refine a_iload_n B dX6_weigh_32 rfl ?_
      refine a_if_eq (tgt := 50) B dX6_weigh_33 (by decide) (fun c33 => ?_) (fun c33 => ?_)
      · refine a_return B E dX6_weigh_50 ?_
        refine ⟨hp, fun a b ha hb => ?_⟩
        obtain ⟨t2, et, N2, hN2, hm2, heq⟩ := hmo (bI_0.mp c33)
        have z := NX_stop (by omega) hN2 hm2 mx (by omega) (by omega) a b ha hb
        rw [← z]
        unfold wnF
        rw [heq _ (by omega)]
      · refine a_aload_n B dX6_weigh_36 rfl ?_
        refine a_aload_n B dX6_weigh_37 rfl ?_
        refine a_iload B dX6_weigh_38 rfl ?_
        refine a_callVi B k_X6_weigh_15 (c_X6_weighHour hV (by omega) ((NX_p hp).mpr hN)) (by first | rfl | assumption) rfl rfl rfl (Nat.le_of_ble_eq_true rfl) dX6_weigh_40 (fun r40 mu40 h40 => ?_)
        obtain ⟨rfl, hq1, hq2⟩ := h40
        rw [moX_p hp]
        refine a_istore_n B dX6_weigh_43 (by decide) ?_
        refine a_iinc (v := 1) B dX6_weigh_44 rfl (by decide) (by decide) ?_
        refine a_goto (tgt := 26) B dX6_weigh_47 (by decide) ?_
        rw [nI_1]
        exact ih (tt + 1) (by omega) _ _ (fun q h => by rw [hq1 q h]; exact hp q h) (NX_next (by omega) hN (fun k hk => by rw [hq2 k hk, nwX_p hp])) (fun z => ⟨tt, rfl, mu1 18, hN, z, fun k hk => by
          rw [hq2 k hk, nwX_p hp, nwX, if_neg (moX_f 100 z k hk)]⟩)
  have l2 : ∀ (m j : Nat), j + m = 100 → ∀ mu1, ((∀ q, q ≠ 18 → mu1 q = mu q) ∧ ∀ v, v < j → mu1 18 v = 0) → AW X V ShX 5 2 [some (.ref (aL V 17)), some (.ref (aL V 4)), some (.int (nI mx)), some (.int (nI j)), none] [] mu1 := by
    intro m
    induction m with
    | zero =>
      intro j hj mu1 hq
      have e : j = 100 := by omega
      subst e
      refine a_iload_n B dX6_weigh_2 rfl ?_
      refine a_bipush (v := 100) B dX6_weigh_3 (by decide) ?_
      refine a_icmp_ge_t (tgt := 21) B dX6_weigh_5 (by decide) (by decide) ?_
      refine a_iconst (v := 1) B dX6_weigh_21 (by decide) ?_
      refine a_istore_n B dX6_weigh_22 (by decide) ?_
      refine a_iconst (v := 1) B dX6_weigh_23 (by decide) ?_
      refine a_istore B dX6_weigh_24 (by decide) ?_
      exact l26 mx 0 (by omega) mu1 true hq.1 (fun a b ha hb => ⟨⟨0, Nat.le_refl _, hq.2 _ (by omega)⟩, fun h hh => by
        rw [show h = 0 by omega]
        have z : ¬ wnF (mu1 18) 0 a b = true := by rw [wnF_nI (c := 0) (hq.2 _ (by omega)) (by decide) (by decide)]; omega
        rw [Bool.not_eq_true] at z
        rw [z]; rfl⟩) (fun z => by cases z)
    | succ m ih =>
      intro j hj mu1 hq
      refine a_iload_n B dX6_weigh_2 rfl ?_
      refine a_bipush (v := 100) B dX6_weigh_3 (by decide) ?_
      refine a_icmp_ge_f (tgt := 21) B dX6_weigh_5 (by decide) (nI_ge (a := j) (b := 100) (by omega) (by decide)) ?_
      refine a_aload_n B dX6_weigh_8 rfl ?_
      refine a_getr B fl_X6_weigh_9 (by first | rfl | assumption) rfl dX6_weigh_9 ?_
      refine a_iload_n B dX6_weigh_12 rfl ?_
      refine a_iconst (v := 0) B dX6_weigh_13 (by decide) ?_
      refine a_iastN B (j) (by first | rfl | assumption) rfl (by omega) (by decide)  dX6_weigh_14 ?_
      refine a_iinc (v := 1) B dX6_weigh_15 rfl (by decide) (by decide) ?_
      refine a_goto (tgt := 2) B dX6_weigh_18 (by decide) ?_
      rw [nI_1]
      refine ih (j + 1) (by omega) _ ⟨fun q h => by rw [ab_up_o h]; exact hq.1 q h, fun v hv => ?_⟩
      rw [ab_up_s]
      by_cases e : v = j
      · rw [e, pk_us]
      · rw [pk_un e]; exact hq.2 v (by omega)
  refine a_iconst (v := 0) B dX6_weigh_0 (by decide) ?_
  refine a_istore_n B dX6_weigh_1 (by decide) ?_
  exact l2 100 0 rfl mu ⟨fun _ _ => rfl, fun j hj => by omega⟩
abbrev rm_X7_force : Room := { frames := 5, cells := 0, slots := 0, locals := 127 }
set_option maxRecDepth 20000 in
theorem us_X7_force_7 : ∀ w ∈ u_ws RX7 TX7 9, w ∈ wsX7_force := by decide +kernel
set_option maxRecDepth 20000 in
theorem fl_X7_force_30 : FL RX7 wsX7_force 30 7 3 := ⟨RX7, TX7, 9, rfl, by decide, us_X7_force_7, by decide +kernel⟩
set_option maxRecDepth 20000 in
theorem fl_X7_force_56 : FL RX7 wsX7_force 56 7 7 := ⟨RX7, TX7, 9, rfl, by decide, us_X7_force_7, by decide +kernel⟩
theorem k_X7_force_70 : KS RX7 wsX7_force rm_X7_force 70 yX7_within wsX7_within rm_X7_within 3 := ⟨_, _, _, _, gX7_force_X7_within, rfl, rfl, rfl, by decide +kernel, by decide⟩
theorem k_X7_force_127 : KS RX7 wsX7_force rm_X7_force 127 yX7_isHour wsX7_isHour rm_X7_isHour 1 := ⟨_, _, _, _, gX7_force_X7_isHour, rfl, rfl, rfl, by decide +kernel, by decide⟩
theorem k_X7_force_130 : KV RX7 wsX7_force rm_X7_force 130 RX7 yX7_dayOf wsX7_dayOf rm_X7_dayOf 1 := ⟨_, _, _, _, gX7_force_X7_dayOf, rfl, rfl, rfl, by decide +kernel, by decide⟩
theorem k_X7_force_156 : KV RX7 wsX7_force rm_X7_force 156 RX0 yX0_levelAhead wsX0_levelAhead rm_X0_levelAhead 1 := ⟨_, _, _, _, gX7_force_X0_levelAhead, rfl, rfl, rfl, by decide +kernel, by decide⟩
theorem k_X7_force_188 : KV RX7 wsX7_force rm_X7_force 188 RX6 yX6_weigh wsX6_weigh rm_X6_weigh 2 := ⟨_, _, _, _, gX7_force_X6_weigh, rfl, rfl, rfl, by decide +kernel, by decide⟩
theorem k_X7_force_192 : KV RX7 wsX7_force rm_X7_force 192 RX6 yX6_firstDish wsX6_firstDish rm_X6_firstDish 4 := ⟨_, _, _, _, gX7_force_X6_firstDish, rfl, rfl, rfl, by decide +kernel, by decide⟩

set_option maxHeartbeats 4000000 in
set_option maxRecDepth 100000 in
theorem c_X7_force {l : Launch} {V : ab_V} {mu : ab_mem} {h n : Nat} {w : Int32} (hV : OKX V) (hi : IX mu) (hh0 : h < 24) (hn1 : 1 ≤ n) (hn : n ≤ 12) (hh : h + n ≤ 24) (hw : inB w 0 1 = true) : CT l V ShX yX7_force wsX7_force rm_X7_force [.ref (aL V 0), .int (nI h), .int (nI n), .int w] mu (pI (fun r mu2 => r = frR (mu 5) (mu 4 2) (mu 4 4) n (lvX mu 0 h) (lvX mu 1 h) w ∧ pX mu2 = pX mu)) := by
  refine ab_enter hV.1 (by decide) rfl (Nat.le_of_ble_eq_true rfl) ?_
  intro X B E
  have B : CX X l rm_X7_force RX7 cX7_force wsX7_force 7 V ShX := B
  show AW X V ShX 7 0 [some (.ref (aL V 0)), some (.int (nI h)), some (.int (nI n)), some (.int w), none, none, none] [] mu
  have q50 := shD (DL_g (g := 0) (by decide))
  have q51 := shD (DL_g (g := 1) (by decide))
  refine a_iload_n B dX7_force_0 rfl ?_
  refine a_callSi B k_X7_force_127 (c_X7_isHour hV) rfl rfl (Nat.le_of_ble_eq_true rfl) dX7_force_1 (fun r1 mu1 h1 => ?_)
  obtain ⟨rfl, rfl⟩ := h1
  refine a_if_eq_f (tgt := 34) B dX7_force_4 (by decide) (bI_n0.mpr (inB_nI (n := 23) (by omega) (by decide))) ?_
  refine a_iload_n B dX7_force_7 rfl ?_
  refine a_iconst (v := 1) B dX7_force_8 (by decide) ?_
  refine a_bipush (v := 12) B dX7_force_9 (by decide) ?_
  refine a_callSi B k_X7_force_70 (c_X7_within hV) rfl rfl (Nat.le_of_ble_eq_true rfl) dX7_force_11 (fun r11 mu11 h11 => ?_)
  obtain ⟨rfl, rfl⟩ := h11
  refine a_if_eq_f (tgt := 34) B dX7_force_14 (by decide) (bI_n0.mpr (inB_t.mpr ⟨nI_le (a := 1) hn1 (by omega), nI_le (b := 12) hn (by decide)⟩)) ?_
  refine a_iload_n B dX7_force_17 rfl ?_
  refine a_iload_n B dX7_force_18 rfl ?_
  refine a_iadd B dX7_force_19 ?_
  refine a_bipush (v := 24) B dX7_force_20 (by decide) ?_
  refine a_icmp_gt_f (tgt := 34) B dX7_force_22 (by decide) (by rw [nI_add]; exact nI_nlt (a := 24) (b := h + n) (by omega) (by decide)) ?_
  refine a_iload_n B dX7_force_25 rfl ?_
  refine a_iconst (v := 0) B dX7_force_26 (by decide) ?_
  refine a_iconst (v := 1) B dX7_force_27 (by decide) ?_
  refine a_callSi B k_X7_force_70 (c_X7_within hV) rfl rfl (Nat.le_of_ble_eq_true rfl) dX7_force_28 (fun r28 mu28 h28 => ?_)
  obtain ⟨rfl, rfl⟩ := h28
  refine a_if_ne_t (tgt := 37) B dX7_force_31 (by decide) (bI_n0.mpr hw) ?_
  refine a_aload_n B dX7_force_37 rfl ?_
  refine a_iconst (v := 0) B dX7_force_38 (by decide) ?_
  refine a_callVr B k_X7_force_130 (c_X7_dayOf (g := 0) hV hi (by decide)) (by first | rfl | assumption) rfl rfl rfl (Nat.le_of_ble_eq_true rfl) dX7_force_39 (fun r39 mu39 h39 => ?_)
  obtain ⟨rfl, hD0⟩ := h39
  refine a_iload_n B dX7_force_42 rfl ?_
  refine a_callVi B k_X7_force_156 (c_ahead (g := 0) hV hi (by decide) hh0 hD0) (by first | rfl | assumption) rfl rfl rfl (Nat.le_of_ble_eq_true rfl) dX7_force_43 (fun r43 mu43 h43 => ?_)
  obtain ⟨rfl, rfl⟩ := h43
  refine a_istore B dX7_force_46 (by decide) ?_
  refine a_aload_n B dX7_force_48 rfl ?_
  refine a_iconst (v := 1) B dX7_force_49 (by decide) ?_
  refine a_callVr B k_X7_force_130 (c_X7_dayOf (g := 1) hV (IX_p hD0.1 hi) (by decide)) (by first | rfl | assumption) rfl rfl rfl (Nat.le_of_ble_eq_true rfl) dX7_force_50 (fun r50 mu50 h50 => ?_)
  obtain ⟨rfl, hD1⟩ := h50
  refine a_iload_n B dX7_force_53 rfl ?_
  refine a_callVi B k_X7_force_156 (c_ahead (g := 1) hV (IX_p hD0.1 hi) (by decide) hh0 hD1) (by first | rfl | assumption) rfl rfl rfl (Nat.le_of_ble_eq_true rfl) dX7_force_54 (fun r54 mu54 h54 => ?_)
  obtain ⟨rfl, rfl⟩ := h54
  rw [show lvX mu39 1 h = lvX mu 1 h by unfold lvX; rw [lX_p hD0.1 (by decide)]]
  have hp := hD1.1.trans hD0.1
  refine a_istore B dX7_force_57 (by decide) ?_
  refine a_aload_n B dX7_force_59 rfl ?_
  refine a_getr B fl_X7_force_56 (by first | rfl | assumption) rfl dX7_force_60 ?_
  refine a_aload_n B dX7_force_63 rfl ?_
  refine a_getr B fl_X7_force_30 (by first | rfl | assumption) rfl dX7_force_64 ?_
  refine a_iload_n B dX7_force_67 rfl ?_
  refine a_iconst (v := 1) B dX7_force_68 (by decide) ?_
  refine a_isub B dX7_force_69 ?_
  rw [show nI n - 1 = nI (n - 1) from pk_sub (a := n) (b := 1) (by omega)]
  refine a_callVv B k_X7_force_188 (c_X6_weigh hV (by omega)) (by first | rfl | assumption) rfl rfl rfl (Nat.le_of_ble_eq_true rfl) dX7_force_70 (fun mu70 h70 => ?_)
  have hpp : pX mu70 = pX mu := (pX_of fun q hq2 => h70.1 q (sc_ne (a := 18) rfl hq2)).trans hp
  refine a_aload_n B dX7_force_73 rfl ?_
  refine a_getr B fl_X7_force_56 (by first | rfl | assumption) rfl dX7_force_74 ?_
  refine a_aload_n B dX7_force_77 rfl ?_
  refine a_getr B fl_X7_force_30 (by first | rfl | assumption) rfl dX7_force_78 ?_
  refine a_iload B dX7_force_81 rfl ?_
  refine a_iload B dX7_force_83 rfl ?_
  refine a_iload_n B dX7_force_85 rfl ?_
  rw [show nI n = nI (n - 1 + 1) by rw [Nat.sub_add_cancel hn1]]
  refine a_callVi B k_X7_force_192 (c_X6_firstDish (hr := n - 1) hV) (by first | rfl | assumption) rfl rfl rfl (Nat.le_of_ble_eq_true rfl) dX7_force_86 (fun r86 mu86 h86 => ?_)
  obtain ⟨rfl, rfl⟩ := h86
  rw [show lsF (fcF (mu70 5) (mu70 4 2) (mu70 4 4) (wnF (mu70 18) (n - 1)) (lvX mu 0 h) (lvX mu 1 h)) 0 7 = lsF (fun d => fcF (mu 5) (mu 4 2) (mu 4 4) (cnF (mu 5) (mu 4 2) (mu 4 4) (n - 1)) (lvX mu 0 h) (lvX mu 1 h) d) 0 7 by
    rw [fcF_congr (c2 := cnX mu50 (n - 1)) h70.2, pX_at hpp 4 rfl, pX_at hpp 5 rfl, cnX, pX_at hp 4 rfl, pX_at hp 5 rfl]]
  refine a_istore B dX7_force_89 (by decide) ?_
  refine a_iload_n B dX7_force_91 rfl ?_
  refine a_iconst (v := 1) B dX7_force_92 (by decide) ?_
  refine a_icmp_ne (tgt := 99) B dX7_force_93 (by decide) (fun c93 => ?_) (fun c93 => ?_)
  · refine a_iload B dX7_force_99 rfl ?_
    refine a_iconst (v := -1) B dX7_force_101 (by decide) ?_
    refine a_icmp_ne (tgt := 109) B dX7_force_102 (by decide) (fun c102 => ?_) (fun c102 => ?_)
    · refine a_iconst (v := 1) B dX7_force_109 (by decide) ?_
      refine a_ireturn B E dX7_force_110 ?_
      refine ⟨?_, hpp⟩
      rw [frR]
      first
        | rw [if_pos c93]
        | rw [if_neg c93, if_pos c102]
        | rw [if_neg c93, if_neg c102]
    · refine a_iconst (v := 0) B dX7_force_105 (by decide) ?_
      refine a_goto (tgt := 110) B dX7_force_106 (by decide) ?_
      refine a_ireturn B E dX7_force_110 ?_
      refine ⟨?_, hpp⟩
      rw [frR]
      first
        | rw [if_pos c93]
        | rw [if_neg c93, if_pos c102]
        | rw [if_neg c93, if_neg c102]
  · refine a_iload B dX7_force_96 rfl ?_
    refine a_ireturn B E dX7_force_98 ?_
    refine ⟨?_, hpp⟩
    rw [frR]
    first
      | rw [if_pos c93]
      | rw [if_neg c93, if_pos c102]
      | rw [if_neg c93, if_neg c102]
set_option maxHeartbeats 4000000 in
set_option maxRecDepth 100000 in
theorem c_X7_force_bad {l : Launch} {V : ab_V} {mu : ab_mem} {a b w : Int32} (hV : OKX V) (hbad : ¬ (inB a 0 23 = true ∧ inB b 1 12 = true ∧ ¬ 24 < a + b ∧ inB w 0 1 = true)) : CT l V ShX yX7_force wsX7_force rm_X7_force [.ref (aL V 0), .int a, .int b, .int w] mu (pI (fun r mu2 => r = -2 ∧ mu = mu2)) := by
  refine ab_enter hV.1 (by decide) rfl (Nat.le_of_ble_eq_true rfl) ?_
  intro X B E
  have B : CX X l rm_X7_force RX7 cX7_force wsX7_force 7 V ShX := B
  show AW X V ShX 7 0 [some (.ref (aL V 0)), some (.int a), some (.int b), some (.int w), none, none, none] [] mu
  refine a_iload_n B dX7_force_0 rfl ?_
  refine a_callSi B k_X7_force_127 (c_X7_isHour hV) rfl rfl (Nat.le_of_ble_eq_true rfl) dX7_force_1 (fun r1 mu1 h1 => ?_)
  obtain ⟨rfl, rfl⟩ := h1
  refine a_if_eq (tgt := 34) B dX7_force_4 (by decide) (fun c4 => ?_) (fun c4 => ?_)
  · refine a_bipush (v := -2) B dX7_force_34 (by decide) ?_
    refine a_ireturn B E dX7_force_36 ?_
    exact ⟨rfl, rfl⟩
  · refine a_iload_n B dX7_force_7 rfl ?_
    refine a_iconst (v := 1) B dX7_force_8 (by decide) ?_
    refine a_bipush (v := 12) B dX7_force_9 (by decide) ?_
    refine a_callSi B k_X7_force_70 (c_X7_within hV) rfl rfl (Nat.le_of_ble_eq_true rfl) dX7_force_11 (fun r11 mu11 h11 => ?_)
    obtain ⟨rfl, rfl⟩ := h11
    refine a_if_eq (tgt := 34) B dX7_force_14 (by decide) (fun c14 => ?_) (fun c14 => ?_)
    · refine a_bipush (v := -2) B dX7_force_34 (by decide) ?_
      refine a_ireturn B E dX7_force_36 ?_
      exact ⟨rfl, rfl⟩
    · refine a_iload_n B dX7_force_17 rfl ?_
      refine a_iload_n B dX7_force_18 rfl ?_
      refine a_iadd B dX7_force_19 ?_
      refine a_bipush (v := 24) B dX7_force_20 (by decide) ?_
      refine a_icmp_gt (tgt := 34) B dX7_force_22 (by decide) (fun c22 => ?_) (fun c22 => ?_)
      · refine a_bipush (v := -2) B dX7_force_34 (by decide) ?_
        refine a_ireturn B E dX7_force_36 ?_
        exact ⟨rfl, rfl⟩
      · refine a_iload_n B dX7_force_25 rfl ?_
        refine a_iconst (v := 0) B dX7_force_26 (by decide) ?_
        refine a_iconst (v := 1) B dX7_force_27 (by decide) ?_
        refine a_callSi B k_X7_force_70 (c_X7_within hV) rfl rfl (Nat.le_of_ble_eq_true rfl) dX7_force_28 (fun r28 mu28 h28 => ?_)
        obtain ⟨rfl, rfl⟩ := h28
        refine a_if_ne (tgt := 37) B dX7_force_31 (by decide) (fun c31 => ?_) (fun c31 => ?_)
        · exfalso
          simp_all [bI_0, bI_n0]
        · refine a_bipush (v := -2) B dX7_force_34 (by decide) ?_
          refine a_ireturn B E dX7_force_36 ?_
          exact ⟨rfl, rfl⟩
