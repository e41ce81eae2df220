/-! whether war can be forced -/
def alF (e : Nat → Int32) (mk fb : Int32) (can : Nat → Nat → Bool) (a b dish : Nat) : Nat → Bool
  | 0 => true
  | d + 1 => alF e mk fb can a b dish d && (bitB fb (nI d) || (hicB mk (nxt e (nI a) (nI d)) (nI d) && hicB mk (nxt e (nI b) (nI dish)) (nI dish)) || can (qN e a d) (qN e b dish))
def fcF (e : Nat → Int32) (mk fb : Int32) (can : Nat → Nat → Bool) (a b dish : Nat) : Bool := !bitB fb (nI dish) && alF e mk fb can a b dish 7
def anF (p : Nat → Bool) : Nat → Bool
  | 0 => false
  | d + 1 => anF p d || p d
def cnF (e : Nat → Int32) (mk fb : Int32) : Nat → Nat → Nat → Bool
  | 0 => fun _ _ => false
  | l + 1 => fun a b => anF (fun d => fcF e mk fb (cnF e mk fb l) a b d) 7
theorem ix100 (l x y : Nat) : (100 : Int32) * nI l + 10 * nI x + nI y = nI (100 * l + 10 * x + y) := by
  show nI 100 * nI l + nI 10 * nI x + nI y = _
  rw [pk_mul, pk_mul, nI_add, nI_add]
theorem ix100k (l k : Nat) : (100 : Int32) * nI l + nI k = nI (100 * l + k) := by
  show nI 100 * nI l + nI k = _
  rw [pk_mul, nI_add]
abbrev rm_X8_forces : Room := { frames := 1, cells := 0, slots := 0, locals := 23 }
set_option maxRecDepth 20000 in
theorem us_X8_forces_8 : ∀ w ∈ u_ws RX8 TX8 23, w ∈ wsX8_forces := by decide +kernel
set_option maxRecDepth 20000 in
theorem fl_X8_forces_37 : FL RX8 wsX8_forces 37 8 12 := ⟨RX8, TX8, 23, rfl, by decide, us_X8_forces_8, by decide +kernel⟩
set_option maxRecDepth 20000 in
theorem fl_X8_forces_92 : FL RX8 wsX8_forces 92 8 7 := ⟨RX8, TX8, 23, rfl, by decide, us_X8_forces_8, by decide +kernel⟩
theorem k_X8_forces_107 : KV RX8 wsX8_forces rm_X8_forces 107 RX8 yX8_next wsX8_next rm_X8_next 2 := ⟨_, _, _, _, gX8_forces_X8_next, rfl, rfl, rfl, by decide +kernel, by decide⟩
theorem k_X8_forces_111 : KV RX8 wsX8_forces rm_X8_forces 111 RX8 yX8_doesHiccup wsX8_doesHiccup rm_X8_doesHiccup 2 := ⟨_, _, _, _, gX8_forces_X8_doesHiccup, rfl, rfl, rfl, by decide +kernel, by decide⟩
theorem k_X8_forces_138 : KS RX8 wsX8_forces rm_X8_forces 138 yX8_isIn wsX8_isIn rm_X8_isIn 2 := ⟨_, _, _, _, gX8_forces_X8_isIn, rfl, rfl, rfl, by decide +kernel, by decide⟩

set_option maxHeartbeats 4000000 in
set_option maxRecDepth 100000 in
theorem c_X8_forces {l : Launch} {V : ab_V} {mu : ab_mem} {lf a b dish : Nat} {can : Nat → Nat → Bool} (hV : ab_OK V ShM) (hlf : lf ≤ 12) (hd : dish < 7) (hcan : ∀ x y, x ≤ 9 → y ≤ 9 → mu 10 (100 * lf + 10 * x + y) = bI (can x y)) : CT l V ShM yX8_forces wsX8_forces rm_X8_forces [.ref (aL V 0), .int (nI lf), .int (nI a), .int (nI b), .int (nI dish)] mu (pI (fun r mu2 => r = bI (fcF (mu 4) (mu 0 5) (mu 0 7) can a b dish) ∧ mu = mu2)) := by
  refine ab_enter hV (by decide) rfl (Nat.le_of_ble_eq_true rfl) ?_
  intro X B E
  have B : CX X l rm_X8_forces RX8 cX8_forces wsX8_forces 10 V ShM := B
  show AW X V ShM 10 0 [some (.ref (aL V 0)), some (.int (nI lf)), some (.int (nI a)), some (.int (nI b)), some (.int (nI dish)), none, none, none, none, none] [] mu
  have loop : bitB (mu 0 7) (nI dish) = false → ∀ (m d : Nat), d + m = 7 → AW X V ShM 10 29 [some (.ref (aL V 0)), some (.int (nI lf)), some (.int (nI a)), some (.int (nI b)), some (.int (nI dish)), some (.int (nI (qN (mu 4) b dish))), some (.int (bI (alF (mu 4) (mu 0 5) (mu 0 7) can a b dish d))), some (.int (nI d)), none, none] [] mu := by
    intro hfb m
    have hy9 := (qN_ok (mu 4) b dish).1
    induction m with
    | zero =>
      intro d hd2
      have ed : d = 7 := by omega
      subst ed
      refine a_iload B dX8_forces_29 rfl ?_
      refine a_bipush (v := 7) B dX8_forces_31 (by decide) ?_
      refine a_icmp_ge_t (tgt := 130) B dX8_forces_33 (by decide) (by decide) ?_
      refine a_iload B dX8_forces_130 rfl ?_
      refine a_zreturn B E dX8_forces_132 (by first | rfl | exact nar_bI _) ?_
      refine ⟨?_, rfl⟩
      rw [fcF, hfb]
      rfl
    | succ m ih =>
      intro d hd2
      have hx9 := (qN_ok (mu 4) a d).1
      have t122 : ∀ (b2 bo : Bool), b2 = ((alF (mu 4) (mu 0 5) (mu 0 7) can a b dish d) && (bitB (mu 0 7) (nI d) || ((hicB (mu 0 5) (nxt (mu 4) (nI a) (nI d)) (nI d)) && (hicB (mu 0 5) (nxt (mu 4) (nI b) (nI dish)) (nI dish))) || can (qN (mu 4) a d) (qN (mu 4) b dish))) → AW X V ShM 10 122 [some (.ref (aL V 0)), some (.int (nI lf)), some (.int (nI a)), some (.int (nI b)), some (.int (nI dish)), some (.int (nI (qN (mu 4) b dish))), some (.int (bI (alF (mu 4) (mu 0 5) (mu 0 7) can a b dish d))), some (.int (nI d)), some (.int (nI (qN (mu 4) a d))), some (.int (bI bo))] [.int (bI b2)] mu := by
        intro b2 bo hb2
        refine a_istore B dX8_forces_122 (by decide) ?_
        refine a_iinc (v := 1) B dX8_forces_124 rfl (by decide) (by decide) ?_
        refine a_goto (tgt := 29) B dX8_forces_127 (by decide) ?_
        refine a_fg 8 ?_
        refine a_fg 9 ?_
        rw [nI_1]
        have e := ih (d + 1) (by omega)
        rw [alF, ← hb2] at e
        exact e
      have t72 : ∀ bo : Bool, bo = ((hicB (mu 0 5) (nxt (mu 4) (nI a) (nI d)) (nI d)) && (hicB (mu 0 5) (nxt (mu 4) (nI b) (nI dish)) (nI dish))) → AW X V ShM 10 72 [some (.ref (aL V 0)), some (.int (nI lf)), some (.int (nI a)), some (.int (nI b)), some (.int (nI dish)), some (.int (nI (qN (mu 4) b dish))), some (.int (bI (alF (mu 4) (mu 0 5) (mu 0 7) can a b dish d))), some (.int (nI d)), some (.int (nI (qN (mu 4) a d))), none] [.int (bI bo)] mu := by
        intro bo hb
        refine a_istore B dX8_forces_72 (by decide) ?_
        refine a_iload B dX8_forces_74 rfl ?_
        refine a_if_eq (tgt := 121) B dX8_forces_76 (by decide) (fun c76 => ?_) (fun c76 => ?_)
        · refine a_iconst (v := 0) B dX8_forces_121 (by decide) ?_
          first
            | exact t122 false _ (by rw [bI_0.mp c76, Bool.false_and])
            | exact t122 true _ (by rw [bI_n0.mp c76, bI_n0.mp c88]; rfl)
            | exact t122 true _ (by rw [bI_n0.mp c76, ← hb, bI_n0.mp c93, Bool.or_true]; rfl)
            | exact t122 true _ (by rw [bI_n0.mp c76, bI_n0.mp c114, Bool.or_true]; rfl)
            | exact t122 false _ (by rw [bI_0.mp c88, ← hb, bI_0.mp c93, bI_0.mp c114]; simp)
        · refine a_aload_n B dX8_forces_79 rfl ?_
          refine a_geti B fl_X8_forces_92 (by first | rfl | assumption) rfl dX8_forces_80 ?_
          refine a_iload B dX8_forces_83 rfl ?_
          refine a_callSi B k_X8_forces_138 (c_X8_isIn hV) rfl rfl (Nat.le_of_ble_eq_true rfl) dX8_forces_85 (fun r85 mu85 h85 => ?_)
          obtain ⟨rfl, rfl⟩ := h85
          refine a_if_ne (tgt := 117) B dX8_forces_88 (by decide) (fun c88 => ?_) (fun c88 => ?_)
          · refine a_iconst (v := 1) B dX8_forces_117 (by decide) ?_
            refine a_goto (tgt := 122) B dX8_forces_118 (by decide) ?_
            first
              | exact t122 false _ (by rw [bI_0.mp c76, Bool.false_and])
              | exact t122 true _ (by rw [bI_n0.mp c76, bI_n0.mp c88]; rfl)
              | exact t122 true _ (by rw [bI_n0.mp c76, ← hb, bI_n0.mp c93, Bool.or_true]; rfl)
              | exact t122 true _ (by rw [bI_n0.mp c76, bI_n0.mp c114, Bool.or_true]; rfl)
              | exact t122 false _ (by rw [bI_0.mp c88, ← hb, bI_0.mp c93, bI_0.mp c114]; simp)
          · refine a_iload B dX8_forces_91 rfl ?_
            refine a_if_ne (tgt := 117) B dX8_forces_93 (by decide) (fun c93 => ?_) (fun c93 => ?_)
            · refine a_iconst (v := 1) B dX8_forces_117 (by decide) ?_
              refine a_goto (tgt := 122) B dX8_forces_118 (by decide) ?_
              first
                | exact t122 false _ (by rw [bI_0.mp c76, Bool.false_and])
                | exact t122 true _ (by rw [bI_n0.mp c76, bI_n0.mp c88]; rfl)
                | exact t122 true _ (by rw [bI_n0.mp c76, ← hb, bI_n0.mp c93, Bool.or_true]; rfl)
                | exact t122 true _ (by rw [bI_n0.mp c76, bI_n0.mp c114, Bool.or_true]; rfl)
                | exact t122 false _ (by rw [bI_0.mp c88, ← hb, bI_0.mp c93, bI_0.mp c114]; simp)
            · refine a_aload_n B dX8_forces_96 rfl ?_
              refine a_getr B fl_X8_forces_37 (by first | rfl | assumption) rfl dX8_forces_97 ?_
              refine a_bipush (v := 100) B dX8_forces_100 (by decide) ?_
              refine a_iload_n B dX8_forces_102 rfl ?_
              refine a_imul B dX8_forces_103 ?_
              refine a_bipush (v := 10) B dX8_forces_104 (by decide) ?_
              refine a_iload B dX8_forces_106 rfl ?_
              refine a_imul B dX8_forces_108 ?_
              refine a_iadd B dX8_forces_109 ?_
              refine a_iload B dX8_forces_110 rfl ?_
              refine a_iadd B dX8_forces_112 ?_
              refine a_zaldN B (100 * lf + 10 * (qN (mu 4) a d) + (qN (mu 4) b dish)) (by first | rfl | assumption) (ix100 _ _ _) (by omega) (by decide) dX8_forces_113 ?_
              rw [hcan _ _ hx9 hy9]
              refine a_if_eq (tgt := 121) B dX8_forces_114 (by decide) (fun c114 => ?_) (fun c114 => ?_)
              · refine a_iconst (v := 0) B dX8_forces_121 (by decide) ?_
                first
                  | exact t122 false _ (by rw [bI_0.mp c76, Bool.false_and])
                  | exact t122 true _ (by rw [bI_n0.mp c76, bI_n0.mp c88]; rfl)
                  | exact t122 true _ (by rw [bI_n0.mp c76, ← hb, bI_n0.mp c93, Bool.or_true]; rfl)
                  | exact t122 true _ (by rw [bI_n0.mp c76, bI_n0.mp c114, Bool.or_true]; rfl)
                  | exact t122 false _ (by rw [bI_0.mp c88, ← hb, bI_0.mp c93, bI_0.mp c114]; simp)
              · refine a_iconst (v := 1) B dX8_forces_117 (by decide) ?_
                refine a_goto (tgt := 122) B dX8_forces_118 (by decide) ?_
                first
                  | exact t122 false _ (by rw [bI_0.mp c76, Bool.false_and])
                  | exact t122 true _ (by rw [bI_n0.mp c76, bI_n0.mp c88]; rfl)
                  | exact t122 true _ (by rw [bI_n0.mp c76, ← hb, bI_n0.mp c93, Bool.or_true]; rfl)
                  | exact t122 true _ (by rw [bI_n0.mp c76, bI_n0.mp c114, Bool.or_true]; rfl)
                  | exact t122 false _ (by rw [bI_0.mp c88, ← hb, bI_0.mp c93, bI_0.mp c114]; simp)
      refine a_iload B dX8_forces_29 rfl ?_
      refine a_bipush (v := 7) B dX8_forces_31 (by decide) ?_
      refine a_icmp_ge_f (tgt := 130) B dX8_forces_33 (by decide) (nI_ge (a := d) (b := 7) (by omega) (by decide)) ?_
      refine a_aload_n B dX8_forces_36 rfl ?_
      refine a_iload_n B dX8_forces_37 rfl ?_
      refine a_iload B dX8_forces_38 rfl ?_
      refine a_callVi B k_X8_forces_107 (c_X8_next hV (vp_in_nI (n := d) (by omega) (by decide))) (by first | rfl | assumption) rfl rfl rfl (Nat.le_of_ble_eq_true rfl) dX8_forces_40 (fun r40 mu40 h40 => ?_)
      obtain ⟨rfl, rfl⟩ := h40
      rw [(qN_ok (mu 4) a d).2]
      refine a_istore B dX8_forces_43 (by decide) ?_
      refine a_aload_n B dX8_forces_45 rfl ?_
      refine a_iload B dX8_forces_46 rfl ?_
      refine a_iload B dX8_forces_48 rfl ?_
      refine a_callVi B k_X8_forces_111 (c_X8_doesHiccup hV) (by first | rfl | assumption) rfl rfl rfl (Nat.le_of_ble_eq_true rfl) dX8_forces_50 (fun r50 mu50 h50 => ?_)
      obtain ⟨rfl, rfl⟩ := h50
      refine a_if_eq (tgt := 71) B dX8_forces_53 (by decide) (fun c53 => ?_) (fun c53 => ?_)
      · refine a_iconst (v := 0) B dX8_forces_71 (by decide) ?_
        first
          | exact t72 false (by rw [(qN_ok (mu 4) a d).2, bI_0.mp c53, Bool.false_and])
          | exact t72 false (by rw [(qN_ok (mu 4) b dish).2, bI_0.mp c64, Bool.and_false])
          | exact t72 true (by rw [(qN_ok (mu 4) a d).2, (qN_ok (mu 4) b dish).2, bI_n0.mp c53, bI_n0.mp c64]; rfl)
      · refine a_aload_n B dX8_forces_56 rfl ?_
        refine a_iload B dX8_forces_57 rfl ?_
        refine a_iload B dX8_forces_59 rfl ?_
        refine a_callVi B k_X8_forces_111 (c_X8_doesHiccup hV) (by first | rfl | assumption) rfl rfl rfl (Nat.le_of_ble_eq_true rfl) dX8_forces_61 (fun r61 mu61 h61 => ?_)
        obtain ⟨rfl, rfl⟩ := h61
        refine a_if_eq (tgt := 71) B dX8_forces_64 (by decide) (fun c64 => ?_) (fun c64 => ?_)
        · refine a_iconst (v := 0) B dX8_forces_71 (by decide) ?_
          first
            | exact t72 false (by rw [(qN_ok (mu 4) a d).2, bI_0.mp c53, Bool.false_and])
            | exact t72 false (by rw [(qN_ok (mu 4) b dish).2, bI_0.mp c64, Bool.and_false])
            | exact t72 true (by rw [(qN_ok (mu 4) a d).2, (qN_ok (mu 4) b dish).2, bI_n0.mp c53, bI_n0.mp c64]; rfl)
        · refine a_iconst (v := 1) B dX8_forces_67 (by decide) ?_
          refine a_goto (tgt := 72) B dX8_forces_68 (by decide) ?_
          first
            | exact t72 false (by rw [(qN_ok (mu 4) a d).2, bI_0.mp c53, Bool.false_and])
            | exact t72 false (by rw [(qN_ok (mu 4) b dish).2, bI_0.mp c64, Bool.and_false])
            | exact t72 true (by rw [(qN_ok (mu 4) a d).2, (qN_ok (mu 4) b dish).2, bI_n0.mp c53, bI_n0.mp c64]; rfl)
  refine a_aload_n B dX8_forces_0 rfl ?_
  refine a_geti B fl_X8_forces_92 (by first | rfl | assumption) rfl dX8_forces_1 ?_
  refine a_iload B dX8_forces_4 rfl ?_
  refine a_callSi B k_X8_forces_138 (c_X8_isIn hV) rfl rfl (Nat.le_of_ble_eq_true rfl) dX8_forces_6 (fun r6 mu6 h6 => ?_)
  obtain ⟨rfl, rfl⟩ := h6
  refine a_if_eq (tgt := 14) B dX8_forces_9 (by decide) (fun c9 => ?_) (fun c9 => ?_)
  · refine a_aload_n B dX8_forces_14 rfl ?_
    refine a_iload_n B dX8_forces_15 rfl ?_
    refine a_iload B dX8_forces_16 rfl ?_
    have hfb := bI_0.mp c9
    refine a_callVi B k_X8_forces_107 (c_X8_next hV (vp_in_nI (n := dish) (by omega) (by decide))) (by first | rfl | assumption) rfl rfl rfl (Nat.le_of_ble_eq_true rfl) dX8_forces_18 (fun r18 mu18 h18 => ?_)
    obtain ⟨rfl, rfl⟩ := h18
    rw [(qN_ok (mu 4) b dish).2]
    refine a_istore B dX8_forces_21 (by decide) ?_
    refine a_iconst (v := 1) B dX8_forces_23 (by decide) ?_
    refine a_istore B dX8_forces_24 (by decide) ?_
    refine a_iconst (v := 0) B dX8_forces_26 (by decide) ?_
    refine a_istore B dX8_forces_27 (by decide) ?_
    exact loop hfb 7 0 rfl
  · refine a_iconst (v := 0) B dX8_forces_12 (by decide) ?_
    refine a_zreturn B E dX8_forces_13 (by first | rfl | exact nar_bI _) ?_
    refine ⟨?_, rfl⟩
    rw [fcF, bI_n0.mp c9]
    rfl
def cnM (mu : ab_mem) : Nat → Nat → Nat → Bool := cnF (mu 4) (mu 0 5) (mu 0 7)
def fcM (mu : ab_mem) (l a b d : Nat) : Bool := fcF (mu 4) (mu 0 5) (mu 0 7) (cnM mu l) a b d
/-- the tables up to l hours stand, and j places of the next -/
def FI (mu muL : ab_mem) (l j : Nat) (mu1 : ab_mem) : Prop := pM mu1 = pM mu ∧ mu1 7 = muL 7 ∧ (∀ l2, l2 < l → ∀ a b, a ≤ 9 → b ≤ 9 → mu1 10 (100 * l2 + 10 * a + b) = bI (cnM mu l2 a b)) ∧ ∀ k, k < j → mu1 10 (100 * l + k) = bI (cnM mu l (k / 10) (k % 10))
theorem FI_up {mu muL mu1 : ab_mem} {l j : Nat} {x : Int32} (h : FI mu muL l j mu1) (hj : j < 100) (hx : x = bI (cnM mu l (j / 10) (j % 10))) : FI mu muL l (j + 1) (ab_up mu1 10 (100 * l + j) x) := by
  obtain ⟨h1, h2, h3, h4⟩ := h
  refine ⟨by rw [pM_up rfl, h1], by rw [ab_up_o (by decide), h2], fun l2 hl a b ha hb => ?_, fun k hk => ?_⟩
  · rw [ab_up_s, pk_un (by omega)]
    exact h3 l2 hl a b ha hb
  · rw [ab_up_s]
    by_cases e : k = j
    · rw [e, pk_us, hx]
    · rw [pk_un (by omega)]
      exact h4 k (by omega)
theorem FI_next {mu muL mu1 : ab_mem} {l : Nat} (h : FI mu muL l 100 mu1) : FI mu muL (l + 1) 0 mu1 := by
  obtain ⟨h1, h2, h3, h4⟩ := h
  refine ⟨h1, h2, fun l2 hl a b ha hb => ?_, fun k hk => by omega⟩
  by_cases e : l2 = l
  · subst e
    have := h4 (10 * a + b) (by omega)
    rw [show (10 * a + b) / 10 = a by omega, show (10 * a + b) % 10 = b by omega] at this
    rw [show 100 * l2 + 10 * a + b = 100 * l2 + (10 * a + b) by omega]
    exact this
  · exact h3 l2 (by omega) a b ha hb
def frR (e : Nat → Int32) (mk fb : Int32) (n a b : Nat) (w : Int32) : Int32 := if w = 1 then lsF (fun d => fcF e mk fb (cnF e mk fb (n - 1)) a b d) 0 7 else if lsF (fun d => fcF e mk fb (cnF e mk fb (n - 1)) a b d) 0 7 = -1 then 0 else 1
abbrev rm_X8_forceOf : Room := { frames := 5, cells := 0, slots := 0, locals := 112 }
set_option maxRecDepth 20000 in
theorem us_X8_forceOf_8 : ∀ w ∈ u_ws RX8 TX8 23, w ∈ wsX8_forceOf := by decide +kernel
set_option maxRecDepth 20000 in
theorem fl_X8_forceOf_16 : FL RX8 wsX8_forceOf 16 8 2 := ⟨RX8, TX8, 23, rfl, by decide, us_X8_forceOf_8, by decide +kernel⟩
set_option maxRecDepth 20000 in
theorem fl_X8_forceOf_28 : FL RX8 wsX8_forceOf 28 8 9 := ⟨RX8, TX8, 23, rfl, by decide, us_X8_forceOf_8, by decide +kernel⟩
set_option maxRecDepth 20000 in
theorem fl_X8_forceOf_37 : FL RX8 wsX8_forceOf 37 8 12 := ⟨RX8, TX8, 23, rfl, by decide, us_X8_forceOf_8, by decide +kernel⟩
theorem k_X8_forceOf_119 : KV RX8 wsX8_forceOf rm_X8_forceOf 119 RX8 yX8_laysAll wsX8_laysAll rm_X8_laysAll 0 := ⟨_, _, _, _, gX8_forceOf_X8_laysAll, rfl, rfl, rfl, by decide +kernel, by decide⟩
theorem k_X8_forceOf_181 : KV RX8 wsX8_forceOf rm_X8_forceOf 181 RX8 yX8_forces wsX8_forces rm_X8_forces 4 := ⟨_, _, _, _, gX8_forceOf_X8_forces, rfl, rfl, rfl, by decide +kernel, by decide⟩

set_option maxHeartbeats 4000000 in
set_option maxRecDepth 100000 in
theorem c_X8_forceOf {l : Launch} {V : ab_V} {mu : ab_mem} {h n : Nat} {w : Int32} (hV : ab_OK V ShM) (hi : IM mu) (hn1 : 1 ≤ n) (hn : n ≤ 12) (hh : h + n ≤ 24) : CT l V ShM yX8_forceOf wsX8_forceOf rm_X8_forceOf [.ref (aL V 0), .int (nI h), .int (nI n), .int w] mu (pI (fun r mu2 => r = frR (mu 4) (mu 0 5) (mu 0 7) n (lvN mu 0 h) (lvN mu 1 h) w ∧ pM mu2 = pM mu)) := by
  refine ab_enter hV (by decide) rfl (Nat.le_of_ble_eq_true rfl) ?_
  intro X B E
  have B : CX X l rm_X8_forceOf RX8 cX8_forceOf wsX8_forceOf 8 V ShM := B
  show AW X V ShM 8 0 [some (.ref (aL V 0)), some (.int (nI h)), some (.int (nI n)), some (.int w), none, none, none, none] [] mu
  have main : ∀ muL, LA mu muL → AW X V ShM 8 7 [some (.ref (aL V 0)), some (.int (nI h)), some (.int (nI n)), some (.int w), some (.int 0), none, none, none] [] muL := by
    intro muL h1
    have k177 : ∀ mu1, FI mu muL (n + 1) 0 mu1 → AW X V ShM 8 177 [some (.ref (aL V 0)), some (.int (nI h)), some (.int (nI n)), some (.int w), some (.int (nI (lvN mu 0 h))), some (.int (nI (lvN mu 1 h))), none, none] [] mu1 := by
      intro mu1 hq
      have k220 : ∀ x7, AW X V ShM 8 220 [some (.ref (aL V 0)), some (.int (nI h)), some (.int (nI n)), some (.int w), some (.int (nI (lvN mu 0 h))), some (.int (nI (lvN mu 1 h))), some (.int (lsF (fcM mu (n - 1) (lvN mu 0 h) (lvN mu 1 h)) 0 7)), some (.int x7)] [] mu1 := by
        intro x7
        refine a_iload_n B dX8_forceOf_220 rfl ?_
        refine a_iconst (v := 1) B dX8_forceOf_221 (by decide) ?_
        refine a_icmp_ne (tgt := 230) B dX8_forceOf_222 (by decide) (fun c222 => ?_) (fun c222 => ?_)
        · refine a_iload B dX8_forceOf_230 rfl ?_
          refine a_iconst (v := -1) B dX8_forceOf_232 (by decide) ?_
          refine a_icmp_ne (tgt := 240) B dX8_forceOf_233 (by decide) (fun c233 => ?_) (fun c233 => ?_)
          · refine a_iconst (v := 1) B dX8_forceOf_240 (by decide) ?_
            refine a_ireturn B E dX8_forceOf_241 ?_
            refine ⟨?_, hq.1⟩
            show _ = if w = 1 then lsF (fcM mu (n - 1) (lvN mu 0 h) (lvN mu 1 h)) 0 7 else if lsF (fcM mu (n - 1) (lvN mu 0 h) (lvN mu 1 h)) 0 7 = -1 then 0 else 1
            first
              | rw [if_pos c222]
              | rw [if_neg c222, if_pos c233]
              | rw [if_neg c222, if_neg c233]
          · refine a_iconst (v := 0) B dX8_forceOf_236 (by decide) ?_
            refine a_goto (tgt := 241) B dX8_forceOf_237 (by decide) ?_
            refine a_ireturn B E dX8_forceOf_241 ?_
            refine ⟨?_, hq.1⟩
            show _ = if w = 1 then lsF (fcM mu (n - 1) (lvN mu 0 h) (lvN mu 1 h)) 0 7 else if lsF (fcM mu (n - 1) (lvN mu 0 h) (lvN mu 1 h)) 0 7 = -1 then 0 else 1
            first
              | rw [if_pos c222]
              | rw [if_neg c222, if_pos c233]
              | rw [if_neg c222, if_neg c233]
        · refine a_iload B dX8_forceOf_225 rfl ?_
          refine a_goto (tgt := 241) B dX8_forceOf_227 (by decide) ?_
          refine a_ireturn B E dX8_forceOf_241 ?_
          refine ⟨?_, hq.1⟩
          show _ = if w = 1 then lsF (fcM mu (n - 1) (lvN mu 0 h) (lvN mu 1 h)) 0 7 else if lsF (fcM mu (n - 1) (lvN mu 0 h) (lvN mu 1 h)) 0 7 = -1 then 0 else 1
          first
            | rw [if_pos c222]
            | rw [if_neg c222, if_pos c233]
            | rw [if_neg c222, if_neg c233]
      have lE : ∀ d, d ≤ 7 → ∀ x7, x7 = nI d + -1 → AW X V ShM 8 184 [some (.ref (aL V 0)), some (.int (nI h)), some (.int (nI n)), some (.int w), some (.int (nI (lvN mu 0 h))), some (.int (nI (lvN mu 1 h))), some (.int (lsF (fcM mu (n - 1) (lvN mu 0 h) (lvN mu 1 h)) d (7 - d))), some (.int x7)] [] mu1 := by
        intro d
        induction d with
        | zero =>
          intro hd x7 e7
          refine a_iload B dX8_forceOf_184 rfl ?_
          refine a_if_lt_t (tgt := 220) B dX8_forceOf_186 (by decide) (by rw [e7]; decide) ?_
          exact k220 _
        | succ d ihn =>
          intro hd x7 e7
          have e7b : x7 = nI d := by rw [e7]; exact pk_m1 d
          refine a_iload B dX8_forceOf_184 rfl ?_
          refine a_if_lt_f (tgt := 220) B dX8_forceOf_186 (by decide) (by rw [e7b]; exact nI_pos (by omega)) ?_
          refine a_aload_n B dX8_forceOf_189 rfl ?_
          refine a_iload_n B dX8_forceOf_190 rfl ?_
          refine a_iconst (v := 1) B dX8_forceOf_191 (by decide) ?_
          refine a_isub B dX8_forceOf_192 ?_
          rw [show nI n - 1 = nI (n - 1) from pk_sub (a := n) (b := 1) (by omega)]
          refine a_iload B dX8_forceOf_193 rfl ?_
          refine a_iload B dX8_forceOf_195 rfl ?_
          refine a_iload B dX8_forceOf_197 rfl ?_
          rw [e7b]
          refine a_callVi B k_X8_forceOf_181 (c_X8_forces (can := cnM mu (n - 1)) hV (by omega) (by omega) (fun x y hx hy => hq.2.2.1 _ (by omega) x y hx hy)) (by first | rfl | assumption) rfl rfl rfl (Nat.le_of_ble_eq_true rfl) dX8_forceOf_199 (fun r199 mu199 h199 => ?_)
          obtain ⟨rfl, rfl⟩ := h199
          rw [pM_at hq.1 4 rfl, pM_at hq.1 0 rfl]
          refine a_if_eq (tgt := 210) B dX8_forceOf_202 (by decide) (fun c202 => ?_) (fun c202 => ?_)
          · refine a_iload B dX8_forceOf_210 rfl ?_
            refine a_istore B dX8_forceOf_212 (by decide) ?_
            refine a_iinc (v := -1) B dX8_forceOf_214 rfl (by decide) (by decide) ?_
            refine a_goto (tgt := 184) B dX8_forceOf_217 (by decide) ?_
            have e := ihn (by omega) _ rfl
            rw [lsF_step (by omega)] at e
            first
              | (rw [if_neg (by rw [show fcM mu (n - 1) (lvN mu 0 h) (lvN mu 1 h) d = false from bI_0.mp c202]; decide)] at e; exact e)
              | (rw [if_pos (show fcM mu (n - 1) (lvN mu 0 h) (lvN mu 1 h) d = true from bI_n0.mp c202)] at e; exact e)
          · refine a_iload B dX8_forceOf_205 rfl ?_
            refine a_goto (tgt := 212) B dX8_forceOf_207 (by decide) ?_
            refine a_istore B dX8_forceOf_212 (by decide) ?_
            refine a_iinc (v := -1) B dX8_forceOf_214 rfl (by decide) (by decide) ?_
            refine a_goto (tgt := 184) B dX8_forceOf_217 (by decide) ?_
            have e := ihn (by omega) _ rfl
            rw [lsF_step (by omega)] at e
            first
              | (rw [if_neg (by rw [show fcM mu (n - 1) (lvN mu 0 h) (lvN mu 1 h) d = false from bI_0.mp c202]; decide)] at e; exact e)
              | (rw [if_pos (show fcM mu (n - 1) (lvN mu 0 h) (lvN mu 1 h) d = true from bI_n0.mp c202)] at e; exact e)
      refine a_iconst (v := -1) B dX8_forceOf_177 (by decide) ?_
      refine a_istore B dX8_forceOf_178 (by decide) ?_
      refine a_bipush (v := 6) B dX8_forceOf_180 (by decide) ?_
      refine a_istore B dX8_forceOf_182 (by decide) ?_
      exact lE 7 (Nat.le_refl _) _ (by decide)
    have k175 : ∀ mu1, FI mu muL (n + 1) 0 mu1 → AW X V ShM 8 175 [some (.ref (aL V 0)), some (.int (nI h)), some (.int (nI n)), some (.int w), some (.int (nI (lvN mu 0 h))), none, none, none] [.int (nI (lvN mu 1 h))] mu1 := by
      intro mu1 hq
      refine a_istore B dX8_forceOf_175 (by decide) ?_
      exact k177 mu1 hq
    have k151 : ∀ mu1, FI mu muL (n + 1) 0 mu1 → AW X V ShM 8 151 [some (.ref (aL V 0)), some (.int (nI h)), some (.int (nI n)), some (.int w), some (.int (nI (lvN mu 0 h))), none, none, none] [] mu1 := by
      intro mu1 hq
      refine a_iload_n B dX8_forceOf_151 rfl ?_
      refine a_if_ne (tgt := 164) B dX8_forceOf_152 (by decide) (fun c152 => ?_) (fun c152 => ?_)
      · refine a_aload_n B dX8_forceOf_164 rfl ?_
        refine a_getr B fl_X8_forceOf_28 (by first | rfl | assumption) rfl dX8_forceOf_165 ?_
        refine a_bipush (v := 24) B dX8_forceOf_168 (by decide) ?_
        refine a_iload_n B dX8_forceOf_170 rfl ?_
        refine a_iadd B dX8_forceOf_171 ?_
        refine a_iconst (v := 1) B dX8_forceOf_172 (by decide) ?_
        refine a_isub B dX8_forceOf_173 ?_
        obtain ⟨f2, ef2⟩ : ∃ f2, h = f2 + 1 := ⟨h - 1, by have : h ≠ 0 := (fun e => c152 (by rw [e]; rfl)); omega⟩
        rw [show (24 : Int32) + nI h - 1 = nI (24 + f2) by rw [ef2, show (24 : Int32) = nI 24 from rfl, nI_add]; exact nI_pred _]
        refine a_ialdN B (24 + f2) (by first | rfl | assumption) rfl (by omega) (by decide) dX8_forceOf_174 ?_
        first
          | (have ef : h = 0 := (nI_eq (a := h) (b := 0) (by omega) (by decide)).mp c152
             rw [show mu1 3 1 = nI (lvN mu 1 h) by rw [pM_at hq.1 3 rfl, ef]; exact (lvN_ok hi (by omega) 0).2]
             exact k175 mu1 hq)
          | (rw [show mu1 7 (24 + f2) = nI (lvN mu 1 h) by rw [hq.2.1, show 24 + f2 = 24 * 1 + f2 by omega, (h1.2 1 (by omega)).2.1 f2 (by omega), ef2]; exact (lvN_ok hi (by omega) (f2 + 1)).2]
             exact k175 mu1 hq)
      · refine a_aload_n B dX8_forceOf_155 rfl ?_
        refine a_getr B fl_X8_forceOf_16 (by first | rfl | assumption) rfl dX8_forceOf_156 ?_
        refine a_iconst (v := 1) B dX8_forceOf_159 (by decide) ?_
        refine a_ialdN B (1) (by first | rfl | assumption) rfl (by omega) (by decide) dX8_forceOf_160 ?_
        refine a_goto (tgt := 175) B dX8_forceOf_161 (by decide) ?_
        first
          | (have ef : h = 0 := (nI_eq (a := h) (b := 0) (by omega) (by decide)).mp c152
             rw [show mu1 3 1 = nI (lvN mu 1 h) by rw [pM_at hq.1 3 rfl, ef]; exact (lvN_ok hi (by omega) 0).2]
             exact k175 mu1 hq)
          | (rw [show mu1 7 (24 + f2) = nI (lvN mu 1 h) by rw [hq.2.1, show 24 + f2 = 24 * 1 + f2 by omega, (h1.2 1 (by omega)).2.1 f2 (by omega), ef2]; exact (lvN_ok hi (by omega) (f2 + 1)).2]
             exact k175 mu1 hq)
    have k149 : ∀ mu1, FI mu muL (n + 1) 0 mu1 → AW X V ShM 8 149 [some (.ref (aL V 0)), some (.int (nI h)), some (.int (nI n)), some (.int w), none, none, none, none] [.int (nI (lvN mu 0 h))] mu1 := by
      intro mu1 hq
      refine a_istore B dX8_forceOf_149 (by decide) ?_
      exact k151 mu1 hq
    have k128 : ∀ mu1, FI mu muL (n + 1) 0 mu1 → AW X V ShM 8 128 [some (.ref (aL V 0)), some (.int (nI h)), some (.int (nI n)), some (.int w), none, none, none, none] [] mu1 := by
      intro mu1 hq
      refine a_iload_n B dX8_forceOf_128 rfl ?_
      refine a_if_ne (tgt := 141) B dX8_forceOf_129 (by decide) (fun c129 => ?_) (fun c129 => ?_)
      · refine a_aload_n B dX8_forceOf_141 rfl ?_
        refine a_getr B fl_X8_forceOf_28 (by first | rfl | assumption) rfl dX8_forceOf_142 ?_
        refine a_iload_n B dX8_forceOf_145 rfl ?_
        refine a_iconst (v := 1) B dX8_forceOf_146 (by decide) ?_
        refine a_isub B dX8_forceOf_147 ?_
        obtain ⟨f2, ef2⟩ : ∃ f2, h = f2 + 1 := ⟨h - 1, by have : h ≠ 0 := (fun e => c129 (by rw [e]; rfl)); omega⟩
        rw [show nI h - 1 = nI f2 by rw [ef2]; exact nI_pred _]
        refine a_ialdN B (f2) (by first | rfl | assumption) rfl (by omega) (by decide) dX8_forceOf_148 ?_
        first
          | (have ef : h = 0 := (nI_eq (a := h) (b := 0) (by omega) (by decide)).mp c129
             rw [show mu1 3 0 = nI (lvN mu 0 h) by rw [pM_at hq.1 3 rfl, ef]; exact (lvN_ok hi (by omega) 0).2]
             exact k149 mu1 hq)
          | (rw [show mu1 7 f2 = nI (lvN mu 0 h) by rw [hq.2.1, show f2 = 24 * 0 + f2 by omega, (h1.2 0 (by omega)).2.1 f2 (by omega), ef2]; exact (lvN_ok hi (by omega) (f2 + 1)).2]
             exact k149 mu1 hq)
      · refine a_aload_n B dX8_forceOf_132 rfl ?_
        refine a_getr B fl_X8_forceOf_16 (by first | rfl | assumption) rfl dX8_forceOf_133 ?_
        refine a_iconst (v := 0) B dX8_forceOf_136 (by decide) ?_
        refine a_ialdN B (0) (by first | rfl | assumption) rfl (by omega) (by decide) dX8_forceOf_137 ?_
        refine a_goto (tgt := 149) B dX8_forceOf_138 (by decide) ?_
        first
          | (have ef : h = 0 := (nI_eq (a := h) (b := 0) (by omega) (by decide)).mp c129
             rw [show mu1 3 0 = nI (lvN mu 0 h) by rw [pM_at hq.1 3 rfl, ef]; exact (lvN_ok hi (by omega) 0).2]
             exact k149 mu1 hq)
          | (rw [show mu1 7 f2 = nI (lvN mu 0 h) by rw [hq.2.1, show f2 = 24 * 0 + f2 by omega, (h1.2 0 (by omega)).2.1 f2 (by omega), ef2]; exact (lvN_ok hi (by omega) (f2 + 1)).2]
             exact k149 mu1 hq)
    have lB : ∀ (m l : Nat), l + m = n → ∀ mu1, FI mu muL (l + 1) 0 mu1 → AW X V ShM 8 31 [some (.ref (aL V 0)), some (.int (nI h)), some (.int (nI n)), some (.int w), some (.int (nI (l + 1))), none, none, none] [] mu1 := by
      intro m
      induction m with
      | zero =>
        intro l hl mu1 hq
        refine a_iload B dX8_forceOf_31 rfl ?_
        refine a_iload_n B dX8_forceOf_33 rfl ?_
        refine a_icmp_gt_t (tgt := 128) B dX8_forceOf_34 (by decide) (nI_lt (a := n) (b := l + 1) (by omega) (by omega)) ?_
        refine a_fg 4 ?_
        refine k128 mu1 ?_
        have el : l = n := by omega
        subst el
        exact hq
      | succ m ihB =>
        intro l hl mu1 hq
        have lC : ∀ (mj j : Nat), j + mj = 100 → ∀ mu1, FI mu muL (l + 1) j mu1 → AW X V ShM 8 40 [some (.ref (aL V 0)), some (.int (nI h)), some (.int (nI n)), some (.int w), some (.int (nI (l + 1))), some (.int (nI j)), none, none] [] mu1 := by
          intro mj
          induction mj with
          | zero =>
            intro j hj mu1 hq
            have ej : j = 100 := by omega
            subst ej
            refine a_iload B dX8_forceOf_40 rfl ?_
            refine a_bipush (v := 100) B dX8_forceOf_42 (by decide) ?_
            refine a_icmp_ge_t (tgt := 122) B dX8_forceOf_44 (by decide) (by decide) ?_
            refine a_iinc (v := 1) B dX8_forceOf_122 rfl (by decide) (by decide) ?_
            refine a_goto (tgt := 31) B dX8_forceOf_125 (by decide) ?_
            refine a_fg 5 ?_
            rw [nI_1]
            exact ihB (l + 1) (by omega) mu1 (FI_next hq)
          | succ mj ihC =>
            intro j hj mu1 hq
            have k101 : AW X V ShM 8 101 [some (.ref (aL V 0)), some (.int (nI h)), some (.int (nI n)), some (.int w), some (.int (nI (l + 1))), some (.int (nI j)), some (.int (bI (anF (fcM mu l (j / 10) (j % 10)) 7))), some (.int (nI 7))] [] mu1 := by
              refine a_aload_n B dX8_forceOf_101 rfl ?_
              refine a_getr B fl_X8_forceOf_37 (by first | rfl | assumption) rfl dX8_forceOf_102 ?_
              refine a_bipush (v := 100) B dX8_forceOf_105 (by decide) ?_
              refine a_iload B dX8_forceOf_107 rfl ?_
              refine a_imul B dX8_forceOf_109 ?_
              refine a_iload B dX8_forceOf_110 rfl ?_
              refine a_iadd B dX8_forceOf_112 ?_
              refine a_iload B dX8_forceOf_113 rfl ?_
              refine a_zastN B (100 * (l + 1) + j) (by first | rfl | assumption) (ix100k _ _) (by omega) (by decide) (vnar_bI _) dX8_forceOf_115 ?_
              refine a_iinc (v := 1) B dX8_forceOf_116 rfl (by decide) (by decide) ?_
              refine a_goto (tgt := 40) B dX8_forceOf_119 (by decide) ?_
              refine a_fg 6 ?_
              refine a_fg 7 ?_
              rw [nI_1]
              exact ihC (j + 1) (by omega) _ (FI_up hq (by omega) rfl)
            have lD : ∀ (md d : Nat), d + md = 7 → AW X V ShM 8 53 [some (.ref (aL V 0)), some (.int (nI h)), some (.int (nI n)), some (.int w), some (.int (nI (l + 1))), some (.int (nI j)), some (.int (bI (anF (fcM mu l (j / 10) (j % 10)) d))), some (.int (nI d))] [] mu1 := by
              intro md
              induction md with
              | zero =>
                intro d hd
                have ed : d = 7 := by omega
                subst ed
                refine a_iload B dX8_forceOf_53 rfl ?_
                refine a_bipush (v := 7) B dX8_forceOf_55 (by decide) ?_
                refine a_icmp_ge_t (tgt := 101) B dX8_forceOf_57 (by decide) (by decide) ?_
                exact k101
              | succ md ihd =>
                intro d hd
                have t93 : ∀ b : Bool, b = ((anF (fcM mu l (j / 10) (j % 10)) d) || fcM mu l (j / 10) (j % 10) d) → AW X V ShM 8 93 [some (.ref (aL V 0)), some (.int (nI h)), some (.int (nI n)), some (.int w), some (.int (nI (l + 1))), some (.int (nI j)), some (.int (bI (anF (fcM mu l (j / 10) (j % 10)) d))), some (.int (nI d))] [.int (bI b)] mu1 := by
                  intro b hb
                  refine a_istore B dX8_forceOf_93 (by decide) ?_
                  refine a_iinc (v := 1) B dX8_forceOf_95 rfl (by decide) (by decide) ?_
                  refine a_goto (tgt := 53) B dX8_forceOf_98 (by decide) ?_
                  rw [nI_1]
                  have e := ihd (d + 1) (by omega)
                  rw [anF, ← hb] at e
                  exact e
                refine a_iload B dX8_forceOf_53 rfl ?_
                refine a_bipush (v := 7) B dX8_forceOf_55 (by decide) ?_
                refine a_icmp_ge_f (tgt := 101) B dX8_forceOf_57 (by decide) (nI_ge (a := d) (b := 7) (by omega) (by decide)) ?_
                refine a_iload B dX8_forceOf_60 rfl ?_
                refine a_if_ne (tgt := 88) B dX8_forceOf_62 (by decide) (fun c62 => ?_) (fun c62 => ?_)
                · refine a_iconst (v := 1) B dX8_forceOf_88 (by decide) ?_
                  refine a_goto (tgt := 93) B dX8_forceOf_89 (by decide) ?_
                  first
                    | exact t93 true (by rw [bI_n0.mp c62, Bool.true_or])
                    | exact t93 true (by rw [fcM, bI_n0.mp c85, Bool.or_true])
                    | exact t93 false (by rw [bI_0.mp c62, fcM, bI_0.mp c85]; rfl)
                · refine a_aload_n B dX8_forceOf_65 rfl ?_
                  refine a_iload B dX8_forceOf_66 rfl ?_
                  refine a_iconst (v := 1) B dX8_forceOf_68 (by decide) ?_
                  refine a_isub B dX8_forceOf_69 ?_
                  rw [show nI (l + 1) - 1 = nI l from nI_pred l]
                  refine a_iload B dX8_forceOf_70 rfl ?_
                  refine a_bipush (v := 10) B dX8_forceOf_72 (by decide) ?_
                  refine a_idiv B dX8_forceOf_74 (by decide) ?_
                  rw [show nI j / 10 = nI (j / 10) from pk_div (d := 10) (by omega) (by decide) (by decide)]
                  refine a_iload B dX8_forceOf_75 rfl ?_
                  refine a_bipush (v := 10) B dX8_forceOf_77 (by decide) ?_
                  refine a_irem B dX8_forceOf_79 (by decide) ?_
                  rw [show nI j - nI j / 10 * 10 = nI (j % 10) from pk_rem (d := 10) (by omega) (by decide) (by decide)]
                  refine a_iload B dX8_forceOf_80 rfl ?_
                  refine a_callVi B k_X8_forceOf_181 (c_X8_forces (can := cnM mu l) hV (by omega) (by omega) (fun x y hx hy => hq.2.2.1 _ (by omega) x y hx hy)) (by first | rfl | assumption) rfl rfl rfl (Nat.le_of_ble_eq_true rfl) dX8_forceOf_82 (fun r82 mu82 h82 => ?_)
                  obtain ⟨rfl, rfl⟩ := h82
                  rw [pM_at hq.1 4 rfl, pM_at hq.1 0 rfl]
                  refine a_if_eq (tgt := 92) B dX8_forceOf_85 (by decide) (fun c85 => ?_) (fun c85 => ?_)
                  · refine a_iconst (v := 0) B dX8_forceOf_92 (by decide) ?_
                    first
                      | exact t93 true (by rw [bI_n0.mp c62, Bool.true_or])
                      | exact t93 true (by rw [fcM, bI_n0.mp c85, Bool.or_true])
                      | exact t93 false (by rw [bI_0.mp c62, fcM, bI_0.mp c85]; rfl)
                  · refine a_iconst (v := 1) B dX8_forceOf_88 (by decide) ?_
                    refine a_goto (tgt := 93) B dX8_forceOf_89 (by decide) ?_
                    first
                      | exact t93 true (by rw [bI_n0.mp c62, Bool.true_or])
                      | exact t93 true (by rw [fcM, bI_n0.mp c85, Bool.or_true])
                      | exact t93 false (by rw [bI_0.mp c62, fcM, bI_0.mp c85]; rfl)
            refine a_iload B dX8_forceOf_40 rfl ?_
            refine a_bipush (v := 100) B dX8_forceOf_42 (by decide) ?_
            refine a_icmp_ge_f (tgt := 122) B dX8_forceOf_44 (by decide) (nI_ge (a := j) (b := 100) (by omega) (by decide)) ?_
            refine a_iconst (v := 0) B dX8_forceOf_47 (by decide) ?_
            refine a_istore B dX8_forceOf_48 (by decide) ?_
            refine a_iconst (v := 0) B dX8_forceOf_50 (by decide) ?_
            refine a_istore B dX8_forceOf_51 (by decide) ?_
            exact lD 7 0 rfl
        refine a_iload B dX8_forceOf_31 rfl ?_
        refine a_iload_n B dX8_forceOf_33 rfl ?_
        refine a_icmp_gt_f (tgt := 128) B dX8_forceOf_34 (by decide) (nI_nlt (a := n) (b := l + 1) (by omega) (by omega)) ?_
        refine a_iconst (v := 0) B dX8_forceOf_37 (by decide) ?_
        refine a_istore B dX8_forceOf_38 (by decide) ?_
        exact lC 100 0 rfl mu1 hq
    have k28 : ∀ mu1, FI mu muL 1 0 mu1 → AW X V ShM 8 28 [some (.ref (aL V 0)), some (.int (nI h)), some (.int (nI n)), some (.int w), none, none, none, none] [] mu1 := by
      intro mu1 hq
      refine a_iconst (v := 1) B dX8_forceOf_28 (by decide) ?_
      refine a_istore B dX8_forceOf_29 (by decide) ?_
      exact lB n 0 (by omega) mu1 hq
    have lA : ∀ (m j : Nat), j + m = 100 → ∀ mu1, FI mu muL 0 j mu1 → AW X V ShM 8 7 [some (.ref (aL V 0)), some (.int (nI h)), some (.int (nI n)), some (.int w), some (.int (nI j)), none, none, none] [] mu1 := by
      intro m
      induction m with
      | zero =>
        intro j hj mu1 hq
        have ej : j = 100 := by omega
        subst ej
        refine a_iload B dX8_forceOf_7 rfl ?_
        refine a_bipush (v := 100) B dX8_forceOf_9 (by decide) ?_
        refine a_icmp_ge_t (tgt := 28) B dX8_forceOf_11 (by decide) (by decide) ?_
        refine a_fg 4 ?_
        exact k28 mu1 (FI_next hq)
      | succ m ih =>
        intro j hj mu1 hq
        refine a_iload B dX8_forceOf_7 rfl ?_
        refine a_bipush (v := 100) B dX8_forceOf_9 (by decide) ?_
        refine a_icmp_ge_f (tgt := 28) B dX8_forceOf_11 (by decide) (nI_ge (a := j) (b := 100) (by omega) (by decide)) ?_
        refine a_aload_n B dX8_forceOf_14 rfl ?_
        refine a_getr B fl_X8_forceOf_37 (by first | rfl | assumption) rfl dX8_forceOf_15 ?_
        refine a_iload B dX8_forceOf_18 rfl ?_
        refine a_iconst (v := 0) B dX8_forceOf_20 (by decide) ?_
        refine a_zastN B (j) (by first | rfl | assumption) rfl (by omega) (by decide) rfl dX8_forceOf_21 ?_
        refine a_iinc (v := 1) B dX8_forceOf_22 rfl (by decide) (by decide) ?_
        refine a_goto (tgt := 7) B dX8_forceOf_25 (by decide) ?_
        rw [nI_1]
        refine ih (j + 1) (by omega) _ ?_
        have z := FI_up (l := 0) hq (by omega) (x := 0) rfl
        rw [Nat.mul_zero, Nat.zero_add] at z
        exact z
    exact lA 100 0 rfl muL ⟨h1.1, rfl, fun l2 hl => by omega, fun k hk => by omega⟩
  refine a_aload_n B dX8_forceOf_0 rfl ?_
  refine a_callVv B k_X8_forceOf_119 (c_X8_laysAll hV hi) (by first | rfl | assumption) rfl rfl rfl (Nat.le_of_ble_eq_true rfl) dX8_forceOf_1 (fun mu1 h1 => ?_)
  refine a_iconst (v := 0) B dX8_forceOf_4 (by decide) ?_
  refine a_istore B dX8_forceOf_5 (by decide) ?_
  exact main mu1 h1
abbrev rm_X8_force : Room := { frames := 6, cells := 0, slots := 0, locals := 139 }
theorem k_X8_force_71 : KS RX8 wsX8_force rm_X8_force 71 yX8_in wsX8_in rm_X8_in 3 := ⟨_, _, _, _, gX8_force_X8_in, rfl, rfl, rfl, by decide +kernel, by decide⟩
theorem k_X8_force_122 : KS RX8 wsX8_force rm_X8_force 122 yX8_isHour wsX8_isHour rm_X8_isHour 1 := ⟨_, _, _, _, gX8_force_X8_isHour, rfl, rfl, rfl, by decide +kernel, by decide⟩
theorem k_X8_force_185 : KV RX8 wsX8_force rm_X8_force 185 RX8 yX8_forceOf wsX8_forceOf rm_X8_forceOf 3 := ⟨_, _, _, _, gX8_force_X8_forceOf, rfl, rfl, rfl, by decide +kernel, by decide⟩

set_option maxHeartbeats 4000000 in
set_option maxRecDepth 100000 in
theorem c_X8_force {l : Launch} {V : ab_V} {mu : ab_mem} {h n : Nat} {w : Int32} (hV : ab_OK V ShM) (hi : IM mu) (hh0 : h < 24) (hn1 : 1 ≤ n) (hn : n ≤ 12) (hh : h + n ≤ 24) (hw : inB w 0 1 = true) : CT l V ShM yX8_force wsX8_force rm_X8_force [.ref (aL V 0), .int (nI h), .int (nI n), .int w] mu (pI (fun r mu2 => r = frR (mu 4) (mu 0 5) (mu 0 7) n (lvN mu 0 h) (lvN mu 1 h) w ∧ pM mu2 = pM mu)) := by
  refine ab_enter hV (by decide) rfl (Nat.le_of_ble_eq_true rfl) ?_
  intro X B E
  have B : CX X l rm_X8_force RX8 cX8_force wsX8_force 4 V ShM := B
  show AW X V ShM 4 0 [some (.ref (aL V 0)), some (.int (nI h)), some (.int (nI n)), some (.int w)] [] mu
  refine a_iload_n B dX8_force_0 rfl ?_
  refine a_callSi B k_X8_force_122 (c_X8_isHour hV) rfl rfl (Nat.le_of_ble_eq_true rfl) dX8_force_1 (fun r1 mu1 h1 => ?_)
  obtain ⟨rfl, rfl⟩ := h1
  refine a_if_eq_f (tgt := 44) B dX8_force_4 (by decide) (bI_n0.mpr (inB_nI (n := 23) (by omega) (by decide))) ?_
  refine a_iload_n B dX8_force_7 rfl ?_
  refine a_iconst (v := 1) B dX8_force_8 (by decide) ?_
  refine a_bipush (v := 12) B dX8_force_9 (by decide) ?_
  refine a_callSi B k_X8_force_71 (c_X8_in hV) rfl rfl (Nat.le_of_ble_eq_true rfl) dX8_force_11 (fun r11 mu11 h11 => ?_)
  obtain ⟨rfl, rfl⟩ := h11
  refine a_if_eq_f (tgt := 44) B dX8_force_14 (by decide) (bI_n0.mpr (inB_t.mpr ⟨nI_le (a := 1) hn1 (by omega), nI_le (b := 12) hn (by decide)⟩)) ?_
  refine a_iload_n B dX8_force_17 rfl ?_
  refine a_iload_n B dX8_force_18 rfl ?_
  refine a_iadd B dX8_force_19 ?_
  refine a_bipush (v := 24) B dX8_force_20 (by decide) ?_
  refine a_icmp_gt_f (tgt := 44) B dX8_force_22 (by decide) (by rw [nI_add]; exact nI_nlt (a := 24) (b := h + n) (by omega) (by decide)) ?_
  refine a_iload_n B dX8_force_25 rfl ?_
  refine a_iconst (v := 0) B dX8_force_26 (by decide) ?_
  refine a_iconst (v := 1) B dX8_force_27 (by decide) ?_
  refine a_callSi B k_X8_force_71 (c_X8_in hV) rfl rfl (Nat.le_of_ble_eq_true rfl) dX8_force_28 (fun r28 mu28 h28 => ?_)
  obtain ⟨rfl, rfl⟩ := h28
  refine a_if_eq_f (tgt := 44) B dX8_force_31 (by decide) (bI_n0.mpr hw) ?_
  refine a_aload_n B dX8_force_34 rfl ?_
  refine a_iload_n B dX8_force_35 rfl ?_
  refine a_iload_n B dX8_force_36 rfl ?_
  refine a_iload_n B dX8_force_37 rfl ?_
  refine a_callVi B k_X8_force_185 (c_X8_forceOf hV hi hn1 hn hh) (by first | rfl | assumption) rfl rfl rfl (Nat.le_of_ble_eq_true rfl) dX8_force_38 (fun r38 mu38 h38 => ?_)
  refine a_goto (tgt := 46) B dX8_force_41 (by decide) ?_
  refine a_ireturn B E dX8_force_46 ?_
  exact h38
set_option maxHeartbeats 4000000 in
set_option maxRecDepth 100000 in
theorem c_X8_force_bad {l : Launch} {V : ab_V} {mu : ab_mem} {a b w : Int32} (hV : ab_OK V ShM) (hbad : ¬ (inB a 0 23 = true ∧ inB b 1 12 = true ∧ ¬ 24 < a + b ∧ inB w 0 1 = true)) : CT l V ShM yX8_force wsX8_force rm_X8_force [.ref (aL V 0), .int a, .int b, .int w] mu (pI (fun r mu2 => r = -2 ∧ mu = mu2)) := by
  refine ab_enter hV (by decide) rfl (Nat.le_of_ble_eq_true rfl) ?_
  intro X B E
  have B : CX X l rm_X8_force RX8 cX8_force wsX8_force 4 V ShM := B
  show AW X V ShM 4 0 [some (.ref (aL V 0)), some (.int a), some (.int b), some (.int w)] [] mu
  refine a_iload_n B dX8_force_0 rfl ?_
  refine a_callSi B k_X8_force_122 (c_X8_isHour hV) rfl rfl (Nat.le_of_ble_eq_true rfl) dX8_force_1 (fun r1 mu1 h1 => ?_)
  obtain ⟨rfl, rfl⟩ := h1
  refine a_if_eq (tgt := 44) B dX8_force_4 (by decide) (fun c4 => ?_) (fun c4 => ?_)
  · refine a_bipush (v := -2) B dX8_force_44 (by decide) ?_
    refine a_ireturn B E dX8_force_46 ?_
    exact ⟨rfl, rfl⟩
  · refine a_iload_n B dX8_force_7 rfl ?_
    refine a_iconst (v := 1) B dX8_force_8 (by decide) ?_
    refine a_bipush (v := 12) B dX8_force_9 (by decide) ?_
    refine a_callSi B k_X8_force_71 (c_X8_in hV) rfl rfl (Nat.le_of_ble_eq_true rfl) dX8_force_11 (fun r11 mu11 h11 => ?_)
    obtain ⟨rfl, rfl⟩ := h11
    refine a_if_eq (tgt := 44) B dX8_force_14 (by decide) (fun c14 => ?_) (fun c14 => ?_)
    · refine a_bipush (v := -2) B dX8_force_44 (by decide) ?_
      refine a_ireturn B E dX8_force_46 ?_
      exact ⟨rfl, rfl⟩
    · refine a_iload_n B dX8_force_17 rfl ?_
      refine a_iload_n B dX8_force_18 rfl ?_
      refine a_iadd B dX8_force_19 ?_
      refine a_bipush (v := 24) B dX8_force_20 (by decide) ?_
      refine a_icmp_gt (tgt := 44) B dX8_force_22 (by decide) (fun c22 => ?_) (fun c22 => ?_)
      · refine a_bipush (v := -2) B dX8_force_44 (by decide) ?_
        refine a_ireturn B E dX8_force_46 ?_
        exact ⟨rfl, rfl⟩
      · refine a_iload_n B dX8_force_25 rfl ?_
        refine a_iconst (v := 0) B dX8_force_26 (by decide) ?_
        refine a_iconst (v := 1) B dX8_force_27 (by decide) ?_
        refine a_callSi B k_X8_force_71 (c_X8_in hV) rfl rfl (Nat.le_of_ble_eq_true rfl) dX8_force_28 (fun r28 mu28 h28 => ?_)
        obtain ⟨rfl, rfl⟩ := h28
        refine a_if_eq (tgt := 44) B dX8_force_31 (by decide) (fun c31 => ?_) (fun c31 => ?_)
        · refine a_bipush (v := -2) B dX8_force_44 (by decide) ?_
          refine a_ireturn B E dX8_force_46 ?_
          exact ⟨rfl, rfl⟩
        · exfalso
          simp_all [bI_0, bI_n0]
