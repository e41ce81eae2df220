def dlF (b : Int32) (i : Nat) : Nat → Int32
  | 0 => -1
  | k + 1 => if hp_let i = b then nI i else dlF b (i + 1) k
theorem dlF_ok (b : Int32) : dlF b 0 7 = dishBy b := by
  simp only [dlF, hp_let, dishBy, eq_comm (a := b)]
  rfl
abbrev rm_X7_dishOfLetter : Room := { frames := 0, cells := 0, slots := 0, locals := 0 }

set_option maxHeartbeats 4000000 in
set_option maxRecDepth 100000 in
theorem c_X7_dishOfLetter {l : Launch} {V : ab_V} {mu : ab_mem} {b : Int32} (hV : OKX V)  : CT l V ShX yX7_dishOfLetter wsX7_dishOfLetter rm_X7_dishOfLetter [.int b] mu (pI (fun r mu2 => r = dishBy b ∧ mu = mu2)) := by
  refine ab_enter hV.1 (by decide) rfl (Nat.le_of_ble_eq_true rfl) ?_
  intro X B E
  have B : CX X l rm_X7_dishOfLetter RX7 cX7_dishOfLetter wsX7_dishOfLetter 2 V ShX := B
  show AW X V ShX 2 0 [some (.int b), none] [] mu
  obtain ⟨-, -, -, -, -, tt, hZ, hT⟩ := hV.2 _ B.2.2.2.1
  have loop : ∀ (m j : Nat), j + m = 7 → dlF b j m = dishBy b → AW X V ShX 2 2 [some (.int b), some (.int (nI j))] [] mu := by
    intro m
    induction m with
    | zero =>
      intro j hj hf
      refine a_iload_n B dX7_dishOfLetter_2 rfl ?_
      refine a_bipush (v := 7) B dX7_dishOfLetter_3 (by decide) ?_
      refine a_icmp_ge_t (tgt := 25) B dX7_dishOfLetter_5 (by decide) (nI_le (a := 7) (b := j) (by omega) (by omega)) ?_
      refine a_iconst (v := -1) B dX7_dishOfLetter_25 (by decide) ?_
      refine a_ireturn B E dX7_dishOfLetter_26 ?_
      exact ⟨hf, rfl⟩
    | succ m ih =>
      intro j hj hf
      refine a_iload_n B dX7_dishOfLetter_2 rfl ?_
      refine a_bipush (v := 7) B dX7_dishOfLetter_3 (by decide) ?_
      refine a_icmp_ge_f (tgt := 25) B dX7_dishOfLetter_5 (by decide) (nI_ge (a := j) (b := 7) (by omega) (by decide)) ?_
      refine a_gets B hZ (by decide +kernel) dX7_dishOfLetter_8 ?_
      refine a_iload_n B dX7_dishOfLetter_11 rfl ?_
      refine a_tix (v := .int (hp_let j)) B hT (vp_in_nI (by omega) (by decide)) (by rw [nI_clamp (by omega)]) dX7_dishOfLetter_12 ?_
      refine a_iload_n B dX7_dishOfLetter_13 rfl ?_
      refine a_icmp_ne (tgt := 19) B dX7_dishOfLetter_14 (by decide) (fun c14 => ?_) (fun c14 => ?_)
      · refine a_iinc (v := 1) B dX7_dishOfLetter_19 rfl (by decide) (by decide) ?_
        refine a_goto (tgt := 2) B dX7_dishOfLetter_22 (by decide) ?_
        rw [nI_1]
        refine ih (j + 1) (by omega) ?_
        rw [← hf, dlF, if_neg c14]
      · refine a_iload_n B dX7_dishOfLetter_17 rfl ?_
        refine a_ireturn B E dX7_dishOfLetter_18 ?_
        refine ⟨?_, rfl⟩
        rw [← hf, dlF, if_pos c14]
  refine a_iconst (v := 0) B dX7_dishOfLetter_0 (by decide) ?_
  refine a_istore_n B dX7_dishOfLetter_1 (by decide) ?_
  exact loop 7 0 rfl (dlF_ok b)
abbrev rm_X7_type : Room := { frames := 2, cells := 0, slots := 0, locals := 42 }
set_option maxRecDepth 20000 in
theorem us_X7_type_7 : ∀ w ∈ u_ws RX7 TX7 9, w ∈ wsX7_type := by decide +kernel
set_option maxRecDepth 20000 in
theorem fl_X7_type_11 : FL RX7 wsX7_type 11 7 0 := ⟨RX7, TX7, 9, rfl, by decide, us_X7_type_7, by decide +kernel⟩
theorem k_X7_type_66 : KS RX7 wsX7_type rm_X7_type 66 yX7_isGeneral wsX7_isGeneral rm_X7_isGeneral 1 := ⟨_, _, _, _, gX7_type_X7_isGeneral, rfl, rfl, rfl, by decide +kernel, by decide⟩
theorem k_X7_type_70 : KS RX7 wsX7_type rm_X7_type 70 yX7_within wsX7_within rm_X7_within 3 := ⟨_, _, _, _, gX7_type_X7_within, rfl, rfl, rfl, by decide +kernel, by decide⟩
theorem k_X7_type_74 : KS RX7 wsX7_type rm_X7_type 74 yX7_dishOfLetter wsX7_dishOfLetter rm_X7_dishOfLetter 1 := ⟨_, _, _, _, gX7_type_X7_dishOfLetter, rfl, rfl, rfl, by decide +kernel, by decide⟩
theorem k_X7_type_78 : KV RX7 wsX7_type rm_X7_type 78 RX1 yX1_append wsX1_append rm_X1_append 1 := ⟨_, _, _, _, gX7_type_X1_append, rfl, rfl, rfl, by decide +kernel, by decide⟩

set_option maxHeartbeats 4000000 in
set_option maxRecDepth 100000 in
theorem c_X7_type {l : Launch} {V : ab_V} {mu : ab_mem} {g n : Nat} {b : Int32} (hV : OKX V) (hg : g < 3) (hb : inB b 0 255 = true) (hn : n ≤ 24) (hm : mu (19 + 2 * g) 1 = nI n) : CT l V ShX yX7_type wsX7_type rm_X7_type [.ref (aL V 0), .int (nI g), .int b] mu (pI (fun r mu2 => if n = 24 then r = -4 ∧ mu = mu2 else r = nI (n + 1) ∧ mu2 = ab_up (ab_up (if dishBy b = -1 ∧ mu (19 + 2 * g) 2 = -1 then ab_up mu (19 + 2 * g) 2 (nI n) else mu) (20 + 2 * g) n (dishBy b)) (19 + 2 * g) 1 (nI (n + 1)))) := by
  refine ab_enter hV.1 (by decide) rfl (Nat.le_of_ble_eq_true rfl) ?_
  intro X B E
  have B : CX X l rm_X7_type RX7 cX7_type wsX7_type 3 V ShX := B
  show AW X V ShX 3 0 [some (.ref (aL V 0)), some (.int (nI g)), some (.int b)] [] mu
  have q1 := shG hg
  have q2 := shGm hg
  refine a_iload_n B dX7_type_0 rfl ?_
  refine a_callSi B k_X7_type_66 (c_X7_isGeneral hV) rfl rfl (Nat.le_of_ble_eq_true rfl) dX7_type_1 (fun r1 mu1 h1 => ?_)
  obtain ⟨rfl, rfl⟩ := h1
  refine a_if_eq_f (tgt := 18) B dX7_type_4 (by decide) (bI_n0.mpr (inB_nI (n := 2) (by omega) (by decide))) ?_
  refine a_iload_n B dX7_type_7 rfl ?_
  refine a_iconst (v := 0) B dX7_type_8 (by decide) ?_
  refine a_sipush (v := 255) B dX7_type_9 (by decide) ?_
  refine a_callSi B k_X7_type_70 (c_X7_within hV) rfl rfl (Nat.le_of_ble_eq_true rfl) dX7_type_12 (fun r12 mu12 h12 => ?_)
  obtain ⟨rfl, rfl⟩ := h12
  refine a_if_ne_t (tgt := 21) B dX7_type_15 (by decide) (bI_n0.mpr hb) ?_
  refine a_aload_n B dX7_type_21 rfl ?_
  refine a_getr B fl_X7_type_11 (by first | rfl | assumption) rfl dX7_type_22 ?_
  refine a_iload_n B dX7_type_25 rfl ?_
  refine a_aald B (g) (by first | rfl | assumption) rfl rfl (elG hg) (by decide) dX7_type_26 ?_
  refine a_iload_n B dX7_type_27 rfl ?_
  refine a_callSi B k_X7_type_74 (c_X7_dishOfLetter hV) rfl rfl (Nat.le_of_ble_eq_true rfl) dX7_type_28 (fun r28 mu28 h28 => ?_)
  obtain ⟨rfl, rfl⟩ := h28
  refine a_callVi B k_X7_type_78 (c_X1_append hV hg hn hm) (by first | rfl | assumption) rfl rfl rfl (Nat.le_of_ble_eq_true rfl) dX7_type_31 (fun r31 mu31 h31 => ?_)
  refine a_ireturn B E dX7_type_34 ?_
  exact h31
set_option maxHeartbeats 4000000 in
set_option maxRecDepth 100000 in
theorem c_X7_type_bad {l : Launch} {V : ab_V} {mu : ab_mem} {a b : Int32} (hV : OKX V) (hbad : ¬ (inB a 0 2 = true ∧ inB b 0 255 = true)) : CT l V ShX yX7_type wsX7_type rm_X7_type [.ref (aL V 0), .int a, .int b] mu (pI (fun r mu2 => r = -2 ∧ mu = mu2)) := by
  refine ab_enter hV.1 (by decide) rfl (Nat.le_of_ble_eq_true rfl) ?_
  intro X B E
  have B : CX X l rm_X7_type RX7 cX7_type wsX7_type 3 V ShX := B
  show AW X V ShX 3 0 [some (.ref (aL V 0)), some (.int a), some (.int b)] [] mu
  refine a_iload_n B dX7_type_0 rfl ?_
  refine a_callSi B k_X7_type_66 (c_X7_isGeneral hV) rfl rfl (Nat.le_of_ble_eq_true rfl) dX7_type_1 (fun r1 mu1 h1 => ?_)
  obtain ⟨rfl, rfl⟩ := h1
  refine a_if_eq (tgt := 18) B dX7_type_4 (by decide) (fun c4 => ?_) (fun c4 => ?_)
  · refine a_bipush (v := -2) B dX7_type_18 (by decide) ?_
    refine a_ireturn B E dX7_type_20 ?_
    exact ⟨rfl, rfl⟩
  · refine a_iload_n B dX7_type_7 rfl ?_
    refine a_iconst (v := 0) B dX7_type_8 (by decide) ?_
    refine a_sipush (v := 255) B dX7_type_9 (by decide) ?_
    refine a_callSi B k_X7_type_70 (c_X7_within hV) rfl rfl (Nat.le_of_ble_eq_true rfl) dX7_type_12 (fun r12 mu12 h12 => ?_)
    obtain ⟨rfl, rfl⟩ := h12
    refine a_if_ne (tgt := 21) B dX7_type_15 (by decide) (fun c15 => ?_) (fun c15 => ?_)
    · exfalso
      simp_all [bI_0, bI_n0]
    · refine a_bipush (v := -2) B dX7_type_18 (by decide) ?_
      refine a_ireturn B E dX7_type_20 ?_
      exact ⟨rfl, rfl⟩
abbrev rm_X7_wipe : Room := { frames := 2, cells := 0, slots := 0, locals := 42 }
set_option maxRecDepth 20000 in
theorem us_X7_wipe_7 : ∀ w ∈ u_ws RX7 TX7 9, w ∈ wsX7_wipe := by decide +kernel
set_option maxRecDepth 20000 in
theorem fl_X7_wipe_11 : FL RX7 wsX7_wipe 11 7 0 := ⟨RX7, TX7, 9, rfl, by decide, us_X7_wipe_7, by decide +kernel⟩
theorem k_X7_wipe_66 : KS RX7 wsX7_wipe rm_X7_wipe 66 yX7_isGeneral wsX7_isGeneral rm_X7_isGeneral 1 := ⟨_, _, _, _, gX7_wipe_X7_isGeneral, rfl, rfl, rfl, by decide +kernel, by decide⟩
theorem k_X7_wipe_81 : KV RX7 wsX7_wipe rm_X7_wipe 81 RX1 yX1_clearMenu wsX1_clearMenu rm_X1_clearMenu 0 := ⟨_, _, _, _, gX7_wipe_X1_clearMenu, rfl, rfl, rfl, by decide +kernel, by decide⟩

set_option maxHeartbeats 4000000 in
set_option maxRecDepth 100000 in
theorem c_X7_wipe {l : Launch} {V : ab_V} {mu : ab_mem} {g : Nat} (hV : OKX V) (hg : g < 3)  : CT l V ShX yX7_wipe wsX7_wipe rm_X7_wipe [.ref (aL V 0), .int (nI g)] mu (pI (fun r mu2 => r = mu (19 + 2 * g) 1 ∧ mu2 = ab_up (ab_up mu (19 + 2 * g) 1 0) (19 + 2 * g) 2 (-1))) := by
  refine ab_enter hV.1 (by decide) rfl (Nat.le_of_ble_eq_true rfl) ?_
  intro X B E
  have B : CX X l rm_X7_wipe RX7 cX7_wipe wsX7_wipe 2 V ShX := B
  show AW X V ShX 2 0 [some (.ref (aL V 0)), some (.int (nI g))] [] mu
  have q1 := shG hg
  have q2 := shGm hg
  refine a_iload_n B dX7_wipe_0 rfl ?_
  refine a_callSi B k_X7_wipe_66 (c_X7_isGeneral hV) rfl rfl (Nat.le_of_ble_eq_true rfl) dX7_wipe_1 (fun r1 mu1 h1 => ?_)
  obtain ⟨rfl, rfl⟩ := h1
  refine a_if_ne_t (tgt := 10) B dX7_wipe_4 (by decide) (bI_n0.mpr (inB_nI (n := 2) (by omega) (by decide))) ?_
  refine a_aload_n B dX7_wipe_10 rfl ?_
  refine a_getr B fl_X7_wipe_11 (by first | rfl | assumption) rfl dX7_wipe_11 ?_
  refine a_iload_n B dX7_wipe_14 rfl ?_
  refine a_aald B (g) (by first | rfl | assumption) rfl rfl (elG hg) (by decide) dX7_wipe_15 ?_
  refine a_callVi B k_X7_wipe_81 (c_X1_clearMenu hV hg) (by first | rfl | assumption) rfl rfl rfl (Nat.le_of_ble_eq_true rfl) dX7_wipe_16 (fun r16 mu16 h16 => ?_)
  refine a_ireturn B E dX7_wipe_19 ?_
  exact h16
abbrev rm_X7_fault : Room := { frames := 2, cells := 0, slots := 0, locals := 42 }
set_option maxRecDepth 20000 in
theorem us_X7_fault_1 : ∀ w ∈ u_ws RX1 TX1 4, w ∈ wsX7_fault := by decide +kernel
set_option maxRecDepth 20000 in
theorem us_X7_fault_7 : ∀ w ∈ u_ws RX7 TX7 9, w ∈ wsX7_fault := by decide +kernel
set_option maxRecDepth 20000 in
theorem fl_X7_fault_11 : FL RX7 wsX7_fault 11 7 0 := ⟨RX7, TX7, 9, rfl, by decide, us_X7_fault_7, by decide +kernel⟩
set_option maxRecDepth 20000 in
theorem fl_X7_fault_85 : FL RX7 wsX7_fault 85 1 2 := ⟨RX1, TX1, 4, rfl, by decide, us_X7_fault_1, by decide +kernel⟩
theorem k_X7_fault_66 : KS RX7 wsX7_fault rm_X7_fault 66 yX7_isGeneral wsX7_isGeneral rm_X7_isGeneral 1 := ⟨_, _, _, _, gX7_fault_X7_isGeneral, rfl, rfl, rfl, by decide +kernel, by decide⟩

set_option maxHeartbeats 4000000 in
set_option maxRecDepth 100000 in
theorem c_X7_fault {l : Launch} {V : ab_V} {mu : ab_mem} {g : Nat} (hV : OKX V) (hg : g < 3)  : CT l V ShX yX7_fault wsX7_fault rm_X7_fault [.ref (aL V 0), .int (nI g)] mu (pI (fun r mu2 => r = mu (19 + 2 * g) 2 ∧ mu = mu2)) := by
  refine ab_enter hV.1 (by decide) rfl (Nat.le_of_ble_eq_true rfl) ?_
  intro X B E
  have B : CX X l rm_X7_fault RX7 cX7_fault wsX7_fault 2 V ShX := B
  show AW X V ShX 2 0 [some (.ref (aL V 0)), some (.int (nI g))] [] mu
  have q1 := shG hg
  have q2 := shGm hg
  refine a_iload_n B dX7_fault_0 rfl ?_
  refine a_callSi B k_X7_fault_66 (c_X7_isGeneral hV) rfl rfl (Nat.le_of_ble_eq_true rfl) dX7_fault_1 (fun r1 mu1 h1 => ?_)
  obtain ⟨rfl, rfl⟩ := h1
  refine a_if_ne_t (tgt := 10) B dX7_fault_4 (by decide) (bI_n0.mpr (inB_nI (n := 2) (by omega) (by decide))) ?_
  refine a_aload_n B dX7_fault_10 rfl ?_
  refine a_getr B fl_X7_fault_11 (by first | rfl | assumption) rfl dX7_fault_11 ?_
  refine a_iload_n B dX7_fault_14 rfl ?_
  refine a_aald B (g) (by first | rfl | assumption) rfl rfl (elG hg) (by decide) dX7_fault_15 ?_
  refine a_geti B fl_X7_fault_85 (by first | rfl | assumption) rfl dX7_fault_16 ?_
  refine a_ireturn B E dX7_fault_19 ?_
  exact ⟨rfl, rfl⟩
abbrev rm_X7_undo : Room := { frames := 2, cells := 0, slots := 0, locals := 42 }
set_option maxRecDepth 20000 in
theorem us_X7_undo_7 : ∀ w ∈ u_ws RX7 TX7 9, w ∈ wsX7_undo := by decide +kernel
set_option maxRecDepth 20000 in
theorem fl_X7_undo_11 : FL RX7 wsX7_undo 11 7 0 := ⟨RX7, TX7, 9, rfl, by decide, us_X7_undo_7, by decide +kernel⟩
theorem k_X7_undo_66 : KS RX7 wsX7_undo rm_X7_undo 66 yX7_isGeneral wsX7_isGeneral rm_X7_isGeneral 1 := ⟨_, _, _, _, gX7_undo_X7_isGeneral, rfl, rfl, rfl, by decide +kernel, by decide⟩
theorem k_X7_undo_88 : KV RX7 wsX7_undo rm_X7_undo 88 RX1 yX1_dropLast wsX1_dropLast rm_X1_dropLast 0 := ⟨_, _, _, _, gX7_undo_X1_dropLast, rfl, rfl, rfl, by decide +kernel, by decide⟩

set_option maxHeartbeats 4000000 in
set_option maxRecDepth 100000 in
theorem c_X7_undo {l : Launch} {V : ab_V} {mu : ab_mem} {g n : Nat} (hV : OKX V) (hg : g < 3) (hn : n ≤ 24) (hm : mu (19 + 2 * g) 1 = nI n) : CT l V ShX yX7_undo wsX7_undo rm_X7_undo [.ref (aL V 0), .int (nI g)] mu (pI (fun r mu2 => if n = 0 then r = -3 ∧ mu = mu2 else r = nI (n - 1) ∧ mu2 = (if mu (19 + 2 * g) 2 = nI (n - 1) then ab_up (ab_up mu (19 + 2 * g) 1 (nI (n - 1))) (19 + 2 * g) 2 (-1) else ab_up mu (19 + 2 * g) 1 (nI (n - 1))))) := by
  refine ab_enter hV.1 (by decide) rfl (Nat.le_of_ble_eq_true rfl) ?_
  intro X B E
  have B : CX X l rm_X7_undo RX7 cX7_undo wsX7_undo 2 V ShX := B
  show AW X V ShX 2 0 [some (.ref (aL V 0)), some (.int (nI g))] [] mu
  have q1 := shG hg
  have q2 := shGm hg
  refine a_iload_n B dX7_undo_0 rfl ?_
  refine a_callSi B k_X7_undo_66 (c_X7_isGeneral hV) rfl rfl (Nat.le_of_ble_eq_true rfl) dX7_undo_1 (fun r1 mu1 h1 => ?_)
  obtain ⟨rfl, rfl⟩ := h1
  refine a_if_ne_t (tgt := 10) B dX7_undo_4 (by decide) (bI_n0.mpr (inB_nI (n := 2) (by omega) (by decide))) ?_
  refine a_aload_n B dX7_undo_10 rfl ?_
  refine a_getr B fl_X7_undo_11 (by first | rfl | assumption) rfl dX7_undo_11 ?_
  refine a_iload_n B dX7_undo_14 rfl ?_
  refine a_aald B (g) (by first | rfl | assumption) rfl rfl (elG hg) (by decide) dX7_undo_15 ?_
  refine a_callVi B k_X7_undo_88 (c_X1_dropLast hV hg hn hm) (by first | rfl | assumption) rfl rfl rfl (Nat.le_of_ble_eq_true rfl) dX7_undo_16 (fun r16 mu16 h16 => ?_)
  refine a_ireturn B E dX7_undo_19 ?_
  exact h16
set_option maxHeartbeats 4000000 in
set_option maxRecDepth 100000 in
theorem c_X7_wipe_bad {l : Launch} {V : ab_V} {mu : ab_mem} {a : Int32} (hV : OKX V) (hbad : ¬ inB a 0 2 = true) : CT l V ShX yX7_wipe wsX7_wipe rm_X7_wipe [.ref (aL V 0), .int a] mu (pI (fun r mu2 => r = -2 ∧ mu = mu2)) := by
  refine ab_enter hV.1 (by decide) rfl (Nat.le_of_ble_eq_true rfl) ?_
  intro X B E
  have B : CX X l rm_X7_wipe RX7 cX7_wipe wsX7_wipe 2 V ShX := B
  show AW X V ShX 2 0 [some (.ref (aL V 0)), some (.int a)] [] mu
  refine a_iload_n B dX7_wipe_0 rfl ?_
  refine a_callSi B k_X7_wipe_66 (c_X7_isGeneral hV) rfl rfl (Nat.le_of_ble_eq_true rfl) dX7_wipe_1 (fun r1 mu1 h1 => ?_)
  obtain ⟨rfl, rfl⟩ := h1
  refine a_if_ne (tgt := 10) B dX7_wipe_4 (by decide) (fun c4 => ?_) (fun c4 => ?_)
  · exfalso
    simp_all [bI_0, bI_n0]
  · refine a_bipush (v := -2) B dX7_wipe_7 (by decide) ?_
    refine a_ireturn B E dX7_wipe_9 ?_
    exact ⟨rfl, rfl⟩
set_option maxHeartbeats 4000000 in
set_option maxRecDepth 100000 in
theorem c_X7_fault_bad {l : Launch} {V : ab_V} {mu : ab_mem} {a : Int32} (hV : OKX V) (hbad : ¬ inB a 0 2 = true) : CT l V ShX yX7_fault wsX7_fault rm_X7_fault [.ref (aL V 0), .int a] mu (pI (fun r mu2 => r = -2 ∧ mu = mu2)) := by
  refine ab_enter hV.1 (by decide) rfl (Nat.le_of_ble_eq_true rfl) ?_
  intro X B E
  have B : CX X l rm_X7_fault RX7 cX7_fault wsX7_fault 2 V ShX := B
  show AW X V ShX 2 0 [some (.ref (aL V 0)), some (.int a)] [] mu
  refine a_iload_n B dX7_fault_0 rfl ?_
  refine a_callSi B k_X7_fault_66 (c_X7_isGeneral hV) rfl rfl (Nat.le_of_ble_eq_true rfl) dX7_fault_1 (fun r1 mu1 h1 => ?_)
  obtain ⟨rfl, rfl⟩ := h1
  refine a_if_ne (tgt := 10) B dX7_fault_4 (by decide) (fun c4 => ?_) (fun c4 => ?_)
  · exfalso
    simp_all [bI_0, bI_n0]
  · refine a_bipush (v := -2) B dX7_fault_7 (by decide) ?_
    refine a_ireturn B E dX7_fault_9 ?_
    exact ⟨rfl, rfl⟩
set_option maxHeartbeats 4000000 in
set_option maxRecDepth 100000 in
theorem c_X7_undo_bad {l : Launch} {V : ab_V} {mu : ab_mem} {a : Int32} (hV : OKX V) (hbad : ¬ inB a 0 2 = true) : CT l V ShX yX7_undo wsX7_undo rm_X7_undo [.ref (aL V 0), .int a] mu (pI (fun r mu2 => r = -2 ∧ mu = mu2)) := by
  refine ab_enter hV.1 (by decide) rfl (Nat.le_of_ble_eq_true rfl) ?_
  intro X B E
  have B : CX X l rm_X7_undo RX7 cX7_undo wsX7_undo 2 V ShX := B
  show AW X V ShX 2 0 [some (.ref (aL V 0)), some (.int a)] [] mu
  refine a_iload_n B dX7_undo_0 rfl ?_
  refine a_callSi B k_X7_undo_66 (c_X7_isGeneral hV) rfl rfl (Nat.le_of_ble_eq_true rfl) dX7_undo_1 (fun r1 mu1 h1 => ?_)
  obtain ⟨rfl, rfl⟩ := h1
  refine a_if_ne (tgt := 10) B dX7_undo_4 (by decide) (fun c4 => ?_) (fun c4 => ?_)
  · exfalso
    simp_all [bI_0, bI_n0]
  · refine a_bipush (v := -2) B dX7_undo_7 (by decide) ?_
    refine a_ireturn B E dX7_undo_9 ?_
    exact ⟨rfl, rfl⟩
abbrev rm_X7_calm : Room := { frames := 2, cells := 0, slots := 0, locals := 42 }
set_option maxRecDepth 20000 in
theorem us_X7_calm_1 : ∀ w ∈ u_ws RX1 TX1 4, w ∈ wsX7_calm := by decide +kernel
set_option maxRecDepth 20000 in
theorem us_X7_calm_7 : ∀ w ∈ u_ws RX7 TX7 9, w ∈ wsX7_calm := by decide +kernel
set_option maxRecDepth 20000 in
theorem fl_X7_calm_11 : FL RX7 wsX7_calm 11 7 0 := ⟨RX7, TX7, 9, rfl, by decide, us_X7_calm_7, by decide +kernel⟩
set_option maxRecDepth 20000 in
theorem fl_X7_calm_91 : FL RX7 wsX7_calm 91 1 3 := ⟨RX1, TX1, 4, rfl, by decide, us_X7_calm_1, by decide +kernel⟩
set_option maxRecDepth 20000 in
theorem fp_X7_calm_91 : FP RX7 wsX7_calm 91 1 3 .int := ⟨RX1, TX1, 4, tyX1, rfl, by decide, us_X7_calm_1, by decide +kernel, tyX1_ok, nmX1, rfl, rfl⟩
theorem k_X7_calm_66 : KS RX7 wsX7_calm rm_X7_calm 66 yX7_isGeneral wsX7_isGeneral rm_X7_isGeneral 1 := ⟨_, _, _, _, gX7_calm_X7_isGeneral, rfl, rfl, rfl, by decide +kernel, by decide⟩
theorem k_X7_calm_70 : KS RX7 wsX7_calm rm_X7_calm 70 yX7_within wsX7_within rm_X7_within 3 := ⟨_, _, _, _, gX7_calm_X7_within, rfl, rfl, rfl, by decide +kernel, by decide⟩

set_option maxHeartbeats 4000000 in
set_option maxRecDepth 100000 in
theorem c_X7_calm {l : Launch} {V : ab_V} {mu : ab_mem} {g : Nat} {v : Int32} (hV : OKX V) (hg : g < 3) (hv : inB v 0 9 = true) : CT l V ShX yX7_calm wsX7_calm rm_X7_calm [.ref (aL V 0), .int (nI g), .int v] mu (pI (fun r mu2 => r = mu (19 + 2 * g) 3 ∧ mu2 = ab_up mu (19 + 2 * g) 3 v)) := by
  refine ab_enter hV.1 (by decide) rfl (Nat.le_of_ble_eq_true rfl) ?_
  intro X B E
  have B : CX X l rm_X7_calm RX7 cX7_calm wsX7_calm 4 V ShX := B
  show AW X V ShX 4 0 [some (.ref (aL V 0)), some (.int (nI g)), some (.int v), none] [] mu
  have q1 := shG hg
  have q2 := shGm hg
  refine a_iload_n B dX7_calm_0 rfl ?_
  refine a_callSi B k_X7_calm_66 (c_X7_isGeneral hV) rfl rfl (Nat.le_of_ble_eq_true rfl) dX7_calm_1 (fun r1 mu1 h1 => ?_)
  obtain ⟨rfl, rfl⟩ := h1
  refine a_if_eq_f (tgt := 17) B dX7_calm_4 (by decide) (bI_n0.mpr (inB_nI (n := 2) (by omega) (by decide))) ?_
  refine a_iload_n B dX7_calm_7 rfl ?_
  refine a_iconst (v := 0) B dX7_calm_8 (by decide) ?_
  refine a_bipush (v := 9) B dX7_calm_9 (by decide) ?_
  refine a_callSi B k_X7_calm_70 (c_X7_within hV) rfl rfl (Nat.le_of_ble_eq_true rfl) dX7_calm_11 (fun r11 mu11 h11 => ?_)
  obtain ⟨rfl, rfl⟩ := h11
  refine a_if_ne_t (tgt := 20) B dX7_calm_14 (by decide) (bI_n0.mpr hv) ?_
  refine a_aload_n B dX7_calm_20 rfl ?_
  refine a_getr B fl_X7_calm_11 (by first | rfl | assumption) rfl dX7_calm_21 ?_
  refine a_iload_n B dX7_calm_24 rfl ?_
  refine a_aald B (g) (by first | rfl | assumption) rfl rfl (elG hg) (by decide) dX7_calm_25 ?_
  refine a_geti B fl_X7_calm_91 (by first | rfl | assumption) rfl dX7_calm_26 ?_
  refine a_istore_n B dX7_calm_29 (by decide) ?_
  refine a_aload_n B dX7_calm_30 rfl ?_
  refine a_getr B fl_X7_calm_11 (by first | rfl | assumption) rfl dX7_calm_31 ?_
  refine a_iload_n B dX7_calm_34 rfl ?_
  refine a_aald B (g) (by first | rfl | assumption) rfl rfl (elG hg) (by decide) dX7_calm_35 ?_
  refine a_iload_n B dX7_calm_36 rfl ?_
  refine a_put B fp_X7_calm_91 (by first | rfl | assumption) rfl rfl rfl dX7_calm_37 ?_
  refine a_iload_n B dX7_calm_40 rfl ?_
  refine a_ireturn B E dX7_calm_41 ?_
  exact ⟨rfl, rfl⟩
set_option maxHeartbeats 4000000 in
set_option maxRecDepth 100000 in
theorem c_X7_calm_bad {l : Launch} {V : ab_V} {mu : ab_mem} {a v : Int32} (hV : OKX V) (hbad : ¬ (inB a 0 2 = true ∧ inB v 0 9 = true)) : CT l V ShX yX7_calm wsX7_calm rm_X7_calm [.ref (aL V 0), .int a, .int v] mu (pI (fun r mu2 => r = -2 ∧ mu = mu2)) := by
  refine ab_enter hV.1 (by decide) rfl (Nat.le_of_ble_eq_true rfl) ?_
  intro X B E
  have B : CX X l rm_X7_calm RX7 cX7_calm wsX7_calm 4 V ShX := B
  show AW X V ShX 4 0 [some (.ref (aL V 0)), some (.int a), some (.int v), none] [] mu
  refine a_iload_n B dX7_calm_0 rfl ?_
  refine a_callSi B k_X7_calm_66 (c_X7_isGeneral hV) rfl rfl (Nat.le_of_ble_eq_true rfl) dX7_calm_1 (fun r1 mu1 h1 => ?_)
  obtain ⟨rfl, rfl⟩ := h1
  refine a_if_eq (tgt := 17) B dX7_calm_4 (by decide) (fun c4 => ?_) (fun c4 => ?_)
  · refine a_bipush (v := -2) B dX7_calm_17 (by decide) ?_
    refine a_ireturn B E dX7_calm_19 ?_
    exact ⟨rfl, rfl⟩
  · refine a_iload_n B dX7_calm_7 rfl ?_
    refine a_iconst (v := 0) B dX7_calm_8 (by decide) ?_
    refine a_bipush (v := 9) B dX7_calm_9 (by decide) ?_
    refine a_callSi B k_X7_calm_70 (c_X7_within hV) rfl rfl (Nat.le_of_ble_eq_true rfl) dX7_calm_11 (fun r11 mu11 h11 => ?_)
    obtain ⟨rfl, rfl⟩ := h11
    refine a_if_ne (tgt := 20) B dX7_calm_14 (by decide) (fun c14 => ?_) (fun c14 => ?_)
    · exfalso
      simp_all [bI_0, bI_n0]
    · refine a_bipush (v := -2) B dX7_calm_17 (by decide) ?_
      refine a_ireturn B E dX7_calm_19 ?_
      exact ⟨rfl, rfl⟩
abbrev rm_X7_does : Room := { frames := 2, cells := 0, slots := 0, locals := 42 }
set_option maxRecDepth 20000 in
theorem us_X7_does_3 : ∀ w ∈ u_ws RX3 TX3 5, w ∈ wsX7_does := by decide +kernel
set_option maxRecDepth 20000 in
theorem us_X7_does_7 : ∀ w ∈ u_ws RX7 TX7 9, w ∈ wsX7_does := by decide +kernel
set_option maxRecDepth 20000 in
theorem fl_X7_does_30 : FL RX7 wsX7_does 30 7 3 := ⟨RX7, TX7, 9, rfl, by decide, us_X7_does_7, by decide +kernel⟩
set_option maxRecDepth 20000 in
theorem fl_X7_does_97 : FL RX7 wsX7_does 97 3 0 := ⟨RX3, TX3, 5, rfl, by decide, us_X7_does_3, by decide +kernel⟩
theorem k_X7_does_70 : KS RX7 wsX7_does rm_X7_does 70 yX7_within wsX7_within rm_X7_within 3 := ⟨_, _, _, _, gX7_does_X7_within, rfl, rfl, rfl, by decide +kernel, by decide⟩
theorem k_X7_does_94 : KS RX7 wsX7_does rm_X7_does 94 yX7_isDish wsX7_isDish rm_X7_isDish 1 := ⟨_, _, _, _, gX7_does_X7_isDish, rfl, rfl, rfl, by decide +kernel, by decide⟩

set_option maxHeartbeats 4000000 in
set_option maxRecDepth 100000 in
theorem c_X7_does {l : Launch} {V : ab_V} {mu : ab_mem} {g : Nat} {v : Int32} (hV : OKX V) (hg : g < 7) (hv : inB v (-9) 9 = true) : CT l V ShX yX7_does wsX7_does rm_X7_does [.ref (aL V 0), .int (nI g), .int v] mu (pI (fun r mu2 => r = mu 5 g ∧ mu2 = ab_up mu 5 g v)) := by
  refine ab_enter hV.1 (by decide) rfl (Nat.le_of_ble_eq_true rfl) ?_
  intro X B E
  have B : CX X l rm_X7_does RX7 cX7_does wsX7_does 4 V ShX := B
  show AW X V ShX 4 0 [some (.ref (aL V 0)), some (.int (nI g)), some (.int v), none] [] mu
  refine a_iload_n B dX7_does_0 rfl ?_
  refine a_callSi B k_X7_does_94 (c_X7_isDish hV) rfl rfl (Nat.le_of_ble_eq_true rfl) dX7_does_1 (fun r1 mu1 h1 => ?_)
  obtain ⟨rfl, rfl⟩ := h1
  refine a_if_eq_f (tgt := 18) B dX7_does_4 (by decide) (bI_n0.mpr (inB_nI (n := 6) (by omega) (by decide))) ?_
  refine a_iload_n B dX7_does_7 rfl ?_
  refine a_bipush (v := -9) B dX7_does_8 (by decide) ?_
  refine a_bipush (v := 9) B dX7_does_10 (by decide) ?_
  refine a_callSi B k_X7_does_70 (c_X7_within hV) rfl rfl (Nat.le_of_ble_eq_true rfl) dX7_does_12 (fun r12 mu12 h12 => ?_)
  obtain ⟨rfl, rfl⟩ := h12
  refine a_if_ne_t (tgt := 21) B dX7_does_15 (by decide) (bI_n0.mpr hv) ?_
  refine a_aload_n B dX7_does_21 rfl ?_
  refine a_getr B fl_X7_does_30 (by first | rfl | assumption) rfl dX7_does_22 ?_
  refine a_getr B fl_X7_does_97 (by first | rfl | assumption) rfl dX7_does_25 ?_
  refine a_iload_n B dX7_does_28 rfl ?_
  refine a_ialdN B (g) (by first | rfl | assumption) rfl (by omega) (by decide) dX7_does_29 ?_
  refine a_istore_n B dX7_does_30 (by decide) ?_
  refine a_aload_n B dX7_does_31 rfl ?_
  refine a_getr B fl_X7_does_30 (by first | rfl | assumption) rfl dX7_does_32 ?_
  refine a_getr B fl_X7_does_97 (by first | rfl | assumption) rfl dX7_does_35 ?_
  refine a_iload_n B dX7_does_38 rfl ?_
  refine a_iload_n B dX7_does_39 rfl ?_
  refine a_iastN B (g) (by first | rfl | assumption) rfl (by omega) (by decide)  dX7_does_40 ?_
  refine a_iload_n B dX7_does_41 rfl ?_
  refine a_ireturn B E dX7_does_42 ?_
  exact ⟨rfl, rfl⟩
set_option maxHeartbeats 4000000 in
set_option maxRecDepth 100000 in
theorem c_X7_does_bad {l : Launch} {V : ab_V} {mu : ab_mem} {a v : Int32} (hV : OKX V) (hbad : ¬ (inB a 0 6 = true ∧ inB v (-9) 9 = true)) : CT l V ShX yX7_does wsX7_does rm_X7_does [.ref (aL V 0), .int a, .int v] mu (pI (fun r mu2 => r = -102 ∧ mu = mu2)) := by
  refine ab_enter hV.1 (by decide) rfl (Nat.le_of_ble_eq_true rfl) ?_
  intro X B E
  have B : CX X l rm_X7_does RX7 cX7_does wsX7_does 4 V ShX := B
  show AW X V ShX 4 0 [some (.ref (aL V 0)), some (.int a), some (.int v), none] [] mu
  refine a_iload_n B dX7_does_0 rfl ?_
  refine a_callSi B k_X7_does_94 (c_X7_isDish hV) rfl rfl (Nat.le_of_ble_eq_true rfl) dX7_does_1 (fun r1 mu1 h1 => ?_)
  obtain ⟨rfl, rfl⟩ := h1
  refine a_if_eq (tgt := 18) B dX7_does_4 (by decide) (fun c4 => ?_) (fun c4 => ?_)
  · refine a_bipush (v := -102) B dX7_does_18 (by decide) ?_
    refine a_ireturn B E dX7_does_20 ?_
    exact ⟨rfl, rfl⟩
  · refine a_iload_n B dX7_does_7 rfl ?_
    refine a_bipush (v := -9) B dX7_does_8 (by decide) ?_
    refine a_bipush (v := 9) B dX7_does_10 (by decide) ?_
    refine a_callSi B k_X7_does_70 (c_X7_within hV) rfl rfl (Nat.le_of_ble_eq_true rfl) dX7_does_12 (fun r12 mu12 h12 => ?_)
    obtain ⟨rfl, rfl⟩ := h12
    refine a_if_ne (tgt := 21) B dX7_does_15 (by decide) (fun c15 => ?_) (fun c15 => ?_)
    · exfalso
      simp_all [bI_0, bI_n0]
    · refine a_bipush (v := -102) B dX7_does_18 (by decide) ?_
      refine a_ireturn B E dX7_does_20 ?_
      exact ⟨rfl, rfl⟩
abbrev rm_X7_price : Room := { frames := 2, cells := 0, slots := 0, locals := 42 }
set_option maxRecDepth 20000 in
theorem us_X7_price_3 : ∀ w ∈ u_ws RX3 TX3 5, w ∈ wsX7_price := by decide +kernel
set_option maxRecDepth 20000 in
theorem us_X7_price_7 : ∀ w ∈ u_ws RX7 TX7 9, w ∈ wsX7_price := by decide +kernel
set_option maxRecDepth 20000 in
theorem fl_X7_price_30 : FL RX7 wsX7_price 30 7 3 := ⟨RX7, TX7, 9, rfl, by decide, us_X7_price_7, by decide +kernel⟩
set_option maxRecDepth 20000 in
theorem fl_X7_price_110 : FL RX7 wsX7_price 110 3 1 := ⟨RX3, TX3, 5, rfl, by decide, us_X7_price_3, by decide +kernel⟩
theorem k_X7_price_70 : KS RX7 wsX7_price rm_X7_price 70 yX7_within wsX7_within rm_X7_within 3 := ⟨_, _, _, _, gX7_price_X7_within, rfl, rfl, rfl, by decide +kernel, by decide⟩
theorem k_X7_price_94 : KS RX7 wsX7_price rm_X7_price 94 yX7_isDish wsX7_isDish rm_X7_isDish 1 := ⟨_, _, _, _, gX7_price_X7_isDish, rfl, rfl, rfl, by decide +kernel, by decide⟩

set_option maxHeartbeats 4000000 in
set_option maxRecDepth 100000 in
theorem c_X7_price {l : Launch} {V : ab_V} {mu : ab_mem} {g : Nat} {v : Int32} (hV : OKX V) (hg : g < 7) (hv : inB v 0 99 = true) : CT l V ShX yX7_price wsX7_price rm_X7_price [.ref (aL V 0), .int (nI g), .int v] mu (pI (fun r mu2 => r = mu 6 g ∧ mu2 = ab_up mu 6 g v)) := by
  refine ab_enter hV.1 (by decide) rfl (Nat.le_of_ble_eq_true rfl) ?_
  intro X B E
  have B : CX X l rm_X7_price RX7 cX7_price wsX7_price 4 V ShX := B
  show AW X V ShX 4 0 [some (.ref (aL V 0)), some (.int (nI g)), some (.int v), none] [] mu
  refine a_iload_n B dX7_price_0 rfl ?_
  refine a_callSi B k_X7_price_94 (c_X7_isDish hV) rfl rfl (Nat.le_of_ble_eq_true rfl) dX7_price_1 (fun r1 mu1 h1 => ?_)
  obtain ⟨rfl, rfl⟩ := h1
  refine a_if_eq_f (tgt := 17) B dX7_price_4 (by decide) (bI_n0.mpr (inB_nI (n := 6) (by omega) (by decide))) ?_
  refine a_iload_n B dX7_price_7 rfl ?_
  refine a_iconst (v := 0) B dX7_price_8 (by decide) ?_
  refine a_bipush (v := 99) B dX7_price_9 (by decide) ?_
  refine a_callSi B k_X7_price_70 (c_X7_within hV) rfl rfl (Nat.le_of_ble_eq_true rfl) dX7_price_11 (fun r11 mu11 h11 => ?_)
  obtain ⟨rfl, rfl⟩ := h11
  refine a_if_ne_t (tgt := 20) B dX7_price_14 (by decide) (bI_n0.mpr hv) ?_
  refine a_aload_n B dX7_price_20 rfl ?_
  refine a_getr B fl_X7_price_30 (by first | rfl | assumption) rfl dX7_price_21 ?_
  refine a_getr B fl_X7_price_110 (by first | rfl | assumption) rfl dX7_price_24 ?_
  refine a_iload_n B dX7_price_27 rfl ?_
  refine a_ialdN B (g) (by first | rfl | assumption) rfl (by omega) (by decide) dX7_price_28 ?_
  refine a_istore_n B dX7_price_29 (by decide) ?_
  refine a_aload_n B dX7_price_30 rfl ?_
  refine a_getr B fl_X7_price_30 (by first | rfl | assumption) rfl dX7_price_31 ?_
  refine a_getr B fl_X7_price_110 (by first | rfl | assumption) rfl dX7_price_34 ?_
  refine a_iload_n B dX7_price_37 rfl ?_
  refine a_iload_n B dX7_price_38 rfl ?_
  refine a_iastN B (g) (by first | rfl | assumption) rfl (by omega) (by decide)  dX7_price_39 ?_
  refine a_iload_n B dX7_price_40 rfl ?_
  refine a_ireturn B E dX7_price_41 ?_
  exact ⟨rfl, rfl⟩
set_option maxHeartbeats 4000000 in
set_option maxRecDepth 100000 in
theorem c_X7_price_bad {l : Launch} {V : ab_V} {mu : ab_mem} {a v : Int32} (hV : OKX V) (hbad : ¬ (inB a 0 6 = true ∧ inB v 0 99 = true)) : CT l V ShX yX7_price wsX7_price rm_X7_price [.ref (aL V 0), .int a, .int v] mu (pI (fun r mu2 => r = -2 ∧ mu = mu2)) := by
  refine ab_enter hV.1 (by decide) rfl (Nat.le_of_ble_eq_true rfl) ?_
  intro X B E
  have B : CX X l rm_X7_price RX7 cX7_price wsX7_price 4 V ShX := B
  show AW X V ShX 4 0 [some (.ref (aL V 0)), some (.int a), some (.int v), none] [] mu
  refine a_iload_n B dX7_price_0 rfl ?_
  refine a_callSi B k_X7_price_94 (c_X7_isDish hV) rfl rfl (Nat.le_of_ble_eq_true rfl) dX7_price_1 (fun r1 mu1 h1 => ?_)
  obtain ⟨rfl, rfl⟩ := h1
  refine a_if_eq (tgt := 17) B dX7_price_4 (by decide) (fun c4 => ?_) (fun c4 => ?_)
  · refine a_bipush (v := -2) B dX7_price_17 (by decide) ?_
    refine a_ireturn B E dX7_price_19 ?_
    exact ⟨rfl, rfl⟩
  · refine a_iload_n B dX7_price_7 rfl ?_
    refine a_iconst (v := 0) B dX7_price_8 (by decide) ?_
    refine a_bipush (v := 99) B dX7_price_9 (by decide) ?_
    refine a_callSi B k_X7_price_70 (c_X7_within hV) rfl rfl (Nat.le_of_ble_eq_true rfl) dX7_price_11 (fun r11 mu11 h11 => ?_)
    obtain ⟨rfl, rfl⟩ := h11
    refine a_if_ne (tgt := 20) B dX7_price_14 (by decide) (fun c14 => ?_) (fun c14 => ?_)
    · exfalso
      simp_all [bI_0, bI_n0]
    · refine a_bipush (v := -2) B dX7_price_17 (by decide) ?_
      refine a_ireturn B E dX7_price_19 ?_
      exact ⟨rfl, rfl⟩
abbrev rm_X7_setMark : Room := { frames := 1, cells := 0, slots := 0, locals := 22 }
set_option maxRecDepth 20000 in
theorem us_X7_setMark_3 : ∀ w ∈ u_ws RX3 TX3 5, w ∈ wsX7_setMark := by decide +kernel
set_option maxRecDepth 20000 in
theorem us_X7_setMark_7 : ∀ w ∈ u_ws RX7 TX7 9, w ∈ wsX7_setMark := by decide +kernel
set_option maxRecDepth 20000 in
theorem fl_X7_setMark_30 : FL RX7 wsX7_setMark 30 7 3 := ⟨RX7, TX7, 9, rfl, by decide, us_X7_setMark_7, by decide +kernel⟩
set_option maxRecDepth 20000 in
theorem fl_X7_setMark_159 : FL RX7 wsX7_setMark 159 3 2 := ⟨RX3, TX3, 5, rfl, by decide, us_X7_setMark_3, by decide +kernel⟩
set_option maxRecDepth 20000 in
theorem fp_X7_setMark_159 : FP RX7 wsX7_setMark 159 3 2 .int := ⟨RX3, TX3, 5, tyX3, rfl, by decide, us_X7_setMark_3, by decide +kernel, tyX3_ok, nmX3, rfl, rfl⟩
theorem k_X7_setMark_70 : KS RX7 wsX7_setMark rm_X7_setMark 70 yX7_within wsX7_within rm_X7_within 3 := ⟨_, _, _, _, gX7_setMark_X7_within, rfl, rfl, rfl, by decide +kernel, by decide⟩

set_option maxHeartbeats 4000000 in
set_option maxRecDepth 100000 in
theorem c_X7_setMark {l : Launch} {V : ab_V} {mu : ab_mem} {v : Int32} (hV : OKX V) (hv : inB v 1 10 = true) : CT l V ShX yX7_setMark wsX7_setMark rm_X7_setMark [.ref (aL V 0), .int v] mu (pI (fun r mu2 => r = mu 4 2 ∧ mu2 = ab_up mu 4 2 v)) := by
  refine ab_enter hV.1 (by decide) rfl (Nat.le_of_ble_eq_true rfl) ?_
  intro X B E
  have B : CX X l rm_X7_setMark RX7 cX7_setMark wsX7_setMark 3 V ShX := B
  show AW X V ShX 3 0 [some (.ref (aL V 0)), some (.int v), none] [] mu
  refine a_iload_n B dX7_setMark_0 rfl ?_
  refine a_iconst (v := 1) B dX7_setMark_1 (by decide) ?_
  refine a_bipush (v := 10) B dX7_setMark_2 (by decide) ?_
  refine a_callSi B k_X7_setMark_70 (c_X7_within hV) rfl rfl (Nat.le_of_ble_eq_true rfl) dX7_setMark_4 (fun r4 mu4 h4 => ?_)
  obtain ⟨rfl, rfl⟩ := h4
  refine a_if_ne_t (tgt := 13) B dX7_setMark_7 (by decide) (bI_n0.mpr hv) ?_
  refine a_aload_n B dX7_setMark_13 rfl ?_
  refine a_getr B fl_X7_setMark_30 (by first | rfl | assumption) rfl dX7_setMark_14 ?_
  refine a_geti B fl_X7_setMark_159 (by first | rfl | assumption) rfl dX7_setMark_17 ?_
  refine a_istore_n B dX7_setMark_20 (by decide) ?_
  refine a_aload_n B dX7_setMark_21 rfl ?_
  refine a_getr B fl_X7_setMark_30 (by first | rfl | assumption) rfl dX7_setMark_22 ?_
  refine a_iload_n B dX7_setMark_25 rfl ?_
  refine a_put B fp_X7_setMark_159 (by first | rfl | assumption) rfl rfl rfl dX7_setMark_26 ?_
  refine a_iload_n B dX7_setMark_29 rfl ?_
  refine a_ireturn B E dX7_setMark_30 ?_
  exact ⟨rfl, rfl⟩
set_option maxHeartbeats 4000000 in
set_option maxRecDepth 100000 in
theorem c_X7_setMark_bad {l : Launch} {V : ab_V} {mu : ab_mem} {v : Int32} (hV : OKX V) (hv : inB v 1 10 = false) : CT l V ShX yX7_setMark wsX7_setMark rm_X7_setMark [.ref (aL V 0), .int v] mu (pI (fun r mu2 => r = -2 ∧ mu = mu2)) := by
  refine ab_enter hV.1 (by decide) rfl (Nat.le_of_ble_eq_true rfl) ?_
  intro X B E
  have B : CX X l rm_X7_setMark RX7 cX7_setMark wsX7_setMark 3 V ShX := B
  show AW X V ShX 3 0 [some (.ref (aL V 0)), some (.int v), none] [] mu
  refine a_iload_n B dX7_setMark_0 rfl ?_
  refine a_iconst (v := 1) B dX7_setMark_1 (by decide) ?_
  refine a_bipush (v := 10) B dX7_setMark_2 (by decide) ?_
  refine a_callSi B k_X7_setMark_70 (c_X7_within hV) rfl rfl (Nat.le_of_ble_eq_true rfl) dX7_setMark_4 (fun r4 mu4 h4 => ?_)
  obtain ⟨rfl, rfl⟩ := h4
  refine a_if_ne_f (tgt := 13) B dX7_setMark_7 (by decide) (bI_0.mpr hv) ?_
  refine a_bipush (v := -2) B dX7_setMark_10 (by decide) ?_
  refine a_ireturn B E dX7_setMark_12 ?_
  exact ⟨rfl, rfl⟩
abbrev rm_X7_setLaw : Room := { frames := 1, cells := 0, slots := 0, locals := 22 }
set_option maxRecDepth 20000 in
theorem us_X7_setLaw_3 : ∀ w ∈ u_ws RX3 TX3 5, w ∈ wsX7_setLaw := by decide +kernel
set_option maxRecDepth 20000 in
theorem us_X7_setLaw_7 : ∀ w ∈ u_ws RX7 TX7 9, w ∈ wsX7_setLaw := by decide +kernel
set_option maxRecDepth 20000 in
theorem fl_X7_setLaw_30 : FL RX7 wsX7_setLaw 30 7 3 := ⟨RX7, TX7, 9, rfl, by decide, us_X7_setLaw_7, by decide +kernel⟩
set_option maxRecDepth 20000 in
theorem fl_X7_setLaw_146 : FL RX7 wsX7_setLaw 146 3 3 := ⟨RX3, TX3, 5, rfl, by decide, us_X7_setLaw_3, by decide +kernel⟩
set_option maxRecDepth 20000 in
theorem fp_X7_setLaw_146 : FP RX7 wsX7_setLaw 146 3 3 .int := ⟨RX3, TX3, 5, tyX3, rfl, by decide, us_X7_setLaw_3, by decide +kernel, tyX3_ok, nmX3, rfl, rfl⟩
theorem k_X7_setLaw_70 : KS RX7 wsX7_setLaw rm_X7_setLaw 70 yX7_within wsX7_within rm_X7_within 3 := ⟨_, _, _, _, gX7_setLaw_X7_within, rfl, rfl, rfl, by decide +kernel, by decide⟩

set_option maxHeartbeats 4000000 in
set_option maxRecDepth 100000 in
theorem c_X7_setLaw {l : Launch} {V : ab_V} {mu : ab_mem} {v : Int32} (hV : OKX V) (hv : inB v 0 2 = true) : CT l V ShX yX7_setLaw wsX7_setLaw rm_X7_setLaw [.ref (aL V 0), .int v] mu (pI (fun r mu2 => r = mu 4 3 ∧ mu2 = ab_up mu 4 3 v)) := by
  refine ab_enter hV.1 (by decide) rfl (Nat.le_of_ble_eq_true rfl) ?_
  intro X B E
  have B : CX X l rm_X7_setLaw RX7 cX7_setLaw wsX7_setLaw 3 V ShX := B
  show AW X V ShX 3 0 [some (.ref (aL V 0)), some (.int v), none] [] mu
  refine a_iload_n B dX7_setLaw_0 rfl ?_
  refine a_iconst (v := 0) B dX7_setLaw_1 (by decide) ?_
  refine a_iconst (v := 2) B dX7_setLaw_2 (by decide) ?_
  refine a_callSi B k_X7_setLaw_70 (c_X7_within hV) rfl rfl (Nat.le_of_ble_eq_true rfl) dX7_setLaw_3 (fun r3 mu3 h3 => ?_)
  obtain ⟨rfl, rfl⟩ := h3
  refine a_if_ne_t (tgt := 12) B dX7_setLaw_6 (by decide) (bI_n0.mpr hv) ?_
  refine a_aload_n B dX7_setLaw_12 rfl ?_
  refine a_getr B fl_X7_setLaw_30 (by first | rfl | assumption) rfl dX7_setLaw_13 ?_
  refine a_geti B fl_X7_setLaw_146 (by first | rfl | assumption) rfl dX7_setLaw_16 ?_
  refine a_istore_n B dX7_setLaw_19 (by decide) ?_
  refine a_aload_n B dX7_setLaw_20 rfl ?_
  refine a_getr B fl_X7_setLaw_30 (by first | rfl | assumption) rfl dX7_setLaw_21 ?_
  refine a_iload_n B dX7_setLaw_24 rfl ?_
  refine a_put B fp_X7_setLaw_146 (by first | rfl | assumption) rfl rfl rfl dX7_setLaw_25 ?_
  refine a_iload_n B dX7_setLaw_28 rfl ?_
  refine a_ireturn B E dX7_setLaw_29 ?_
  exact ⟨rfl, rfl⟩
set_option maxHeartbeats 4000000 in
set_option maxRecDepth 100000 in
theorem c_X7_setLaw_bad {l : Launch} {V : ab_V} {mu : ab_mem} {v : Int32} (hV : OKX V) (hv : inB v 0 2 = false) : CT l V ShX yX7_setLaw wsX7_setLaw rm_X7_setLaw [.ref (aL V 0), .int v] mu (pI (fun r mu2 => r = -2 ∧ mu = mu2)) := by
  refine ab_enter hV.1 (by decide) rfl (Nat.le_of_ble_eq_true rfl) ?_
  intro X B E
  have B : CX X l rm_X7_setLaw RX7 cX7_setLaw wsX7_setLaw 3 V ShX := B
  show AW X V ShX 3 0 [some (.ref (aL V 0)), some (.int v), none] [] mu
  refine a_iload_n B dX7_setLaw_0 rfl ?_
  refine a_iconst (v := 0) B dX7_setLaw_1 (by decide) ?_
  refine a_iconst (v := 2) B dX7_setLaw_2 (by decide) ?_
  refine a_callSi B k_X7_setLaw_70 (c_X7_within hV) rfl rfl (Nat.le_of_ble_eq_true rfl) dX7_setLaw_3 (fun r3 mu3 h3 => ?_)
  obtain ⟨rfl, rfl⟩ := h3
  refine a_if_ne_f (tgt := 12) B dX7_setLaw_6 (by decide) (bI_0.mpr hv) ?_
  refine a_bipush (v := -2) B dX7_setLaw_9 (by decide) ?_
  refine a_ireturn B E dX7_setLaw_11 ?_
  exact ⟨rfl, rfl⟩
abbrev rm_X7_setForbidden : Room := { frames := 1, cells := 0, slots := 0, locals := 22 }
set_option maxRecDepth 20000 in
theorem us_X7_setForbidden_3 : ∀ w ∈ u_ws RX3 TX3 5, w ∈ wsX7_setForbidden := by decide +kernel
set_option maxRecDepth 20000 in
theorem us_X7_setForbidden_7 : ∀ w ∈ u_ws RX7 TX7 9, w ∈ wsX7_setForbidden := by decide +kernel
set_option maxRecDepth 20000 in
theorem fl_X7_setForbidden_30 : FL RX7 wsX7_setForbidden 30 7 3 := ⟨RX7, TX7, 9, rfl, by decide, us_X7_setForbidden_7, by decide +kernel⟩
set_option maxRecDepth 20000 in
theorem fl_X7_setForbidden_261 : FL RX7 wsX7_setForbidden 261 3 4 := ⟨RX3, TX3, 5, rfl, by decide, us_X7_setForbidden_3, by decide +kernel⟩
set_option maxRecDepth 20000 in
theorem fp_X7_setForbidden_261 : FP RX7 wsX7_setForbidden 261 3 4 .int := ⟨RX3, TX3, 5, tyX3, rfl, by decide, us_X7_setForbidden_3, by decide +kernel, tyX3_ok, nmX3, rfl, rfl⟩
theorem k_X7_setForbidden_70 : KS RX7 wsX7_setForbidden rm_X7_setForbidden 70 yX7_within wsX7_within rm_X7_within 3 := ⟨_, _, _, _, gX7_setForbidden_X7_within, rfl, rfl, rfl, by decide +kernel, by decide⟩

set_option maxHeartbeats 4000000 in
set_option maxRecDepth 100000 in
theorem c_X7_setForbidden {l : Launch} {V : ab_V} {mu : ab_mem} {v : Int32} (hV : OKX V) (hv : inB v 0 126 = true) (ho : v - v / 2 * 2 = 0) : CT l V ShX yX7_setForbidden wsX7_setForbidden rm_X7_setForbidden [.ref (aL V 0), .int v] mu (pI (fun r mu2 => r = mu 4 4 ∧ mu2 = ab_up mu 4 4 v)) := by
  refine ab_enter hV.1 (by decide) rfl (Nat.le_of_ble_eq_true rfl) ?_
  intro X B E
  have B : CX X l rm_X7_setForbidden RX7 cX7_setForbidden wsX7_setForbidden 3 V ShX := B
  show AW X V ShX 3 0 [some (.ref (aL V 0)), some (.int v), none] [] mu
  refine a_iload_n B dX7_setForbidden_0 rfl ?_
  refine a_iconst (v := 0) B dX7_setForbidden_1 (by decide) ?_
  refine a_bipush (v := 126) B dX7_setForbidden_2 (by decide) ?_
  refine a_callSi B k_X7_setForbidden_70 (c_X7_within hV) rfl rfl (Nat.le_of_ble_eq_true rfl) dX7_setForbidden_4 (fun r4 mu4 h4 => ?_)
  obtain ⟨rfl, rfl⟩ := h4
  refine a_if_eq_f (tgt := 16) B dX7_setForbidden_7 (by decide) (bI_n0.mpr hv) ?_
  refine a_iload_n B dX7_setForbidden_10 rfl ?_
  refine a_iconst (v := 2) B dX7_setForbidden_11 (by decide) ?_
  refine a_irem B dX7_setForbidden_12 (by decide) ?_
  refine a_if_eq_t (tgt := 19) B dX7_setForbidden_13 (by decide) (ho) ?_
  refine a_aload_n B dX7_setForbidden_19 rfl ?_
  refine a_getr B fl_X7_setForbidden_30 (by first | rfl | assumption) rfl dX7_setForbidden_20 ?_
  refine a_geti B fl_X7_setForbidden_261 (by first | rfl | assumption) rfl dX7_setForbidden_23 ?_
  refine a_istore_n B dX7_setForbidden_26 (by decide) ?_
  refine a_aload_n B dX7_setForbidden_27 rfl ?_
  refine a_getr B fl_X7_setForbidden_30 (by first | rfl | assumption) rfl dX7_setForbidden_28 ?_
  refine a_iload_n B dX7_setForbidden_31 rfl ?_
  refine a_put B fp_X7_setForbidden_261 (by first | rfl | assumption) rfl rfl rfl dX7_setForbidden_32 ?_
  refine a_iload_n B dX7_setForbidden_35 rfl ?_
  refine a_ireturn B E dX7_setForbidden_36 ?_
  exact ⟨rfl, rfl⟩
set_option maxHeartbeats 4000000 in
set_option maxRecDepth 100000 in
theorem c_X7_setForbidden_bad {l : Launch} {V : ab_V} {mu : ab_mem} {v : Int32} (hV : OKX V) (hv : inB v 0 126 = false ∨ ¬ v - v / 2 * 2 = 0) : CT l V ShX yX7_setForbidden wsX7_setForbidden rm_X7_setForbidden [.ref (aL V 0), .int v] mu (pI (fun r mu2 => r = -2 ∧ mu = mu2)) := by
  refine ab_enter hV.1 (by decide) rfl (Nat.le_of_ble_eq_true rfl) ?_
  intro X B E
  have B : CX X l rm_X7_setForbidden RX7 cX7_setForbidden wsX7_setForbidden 3 V ShX := B
  show AW X V ShX 3 0 [some (.ref (aL V 0)), some (.int v), none] [] mu
  refine a_iload_n B dX7_setForbidden_0 rfl ?_
  refine a_iconst (v := 0) B dX7_setForbidden_1 (by decide) ?_
  refine a_bipush (v := 126) B dX7_setForbidden_2 (by decide) ?_
  refine a_callSi B k_X7_setForbidden_70 (c_X7_within hV) rfl rfl (Nat.le_of_ble_eq_true rfl) dX7_setForbidden_4 (fun r4 mu4 h4 => ?_)
  obtain ⟨rfl, rfl⟩ := h4
  refine a_if_eq (tgt := 16) B dX7_setForbidden_7 (by decide) (fun c7 => ?_) (fun c7 => ?_)
  · refine a_bipush (v := -2) B dX7_setForbidden_16 (by decide) ?_
    refine a_ireturn B E dX7_setForbidden_18 ?_
    exact ⟨rfl, rfl⟩
  · refine a_iload_n B dX7_setForbidden_10 rfl ?_
    refine a_iconst (v := 2) B dX7_setForbidden_11 (by decide) ?_
    refine a_irem B dX7_setForbidden_12 (by decide) ?_
    refine a_if_eq (tgt := 19) B dX7_setForbidden_13 (by decide) (fun c13 => ?_) (fun c13 => ?_)
    · exact absurd hv (fun z => z.elim (fun y => absurd y (by rw [bI_n0.mp c7]; decide)) (fun y => y c13))
    · refine a_bipush (v := -2) B dX7_setForbidden_16 (by decide) ?_
      refine a_ireturn B E dX7_setForbidden_18 ?_
      exact ⟨rfl, rfl⟩
abbrev rm_X7_set : Room := { frames := 2, cells := 0, slots := 0, locals := 44 }
theorem k_X7_set_101 : KV RX7 wsX7_set rm_X7_set 101 RX7 yX7_setMark wsX7_setMark rm_X7_setMark 1 := ⟨_, _, _, _, gX7_set_X7_setMark, rfl, rfl, rfl, by decide +kernel, by decide⟩
theorem k_X7_set_104 : KV RX7 wsX7_set rm_X7_set 104 RX7 yX7_setLaw wsX7_setLaw rm_X7_setLaw 1 := ⟨_, _, _, _, gX7_set_X7_setLaw, rfl, rfl, rfl, by decide +kernel, by decide⟩
theorem k_X7_set_107 : KV RX7 wsX7_set rm_X7_set 107 RX7 yX7_setForbidden wsX7_setForbidden rm_X7_setForbidden 1 := ⟨_, _, _, _, gX7_set_X7_setForbidden, rfl, rfl, rfl, by decide +kernel, by decide⟩

set_option maxHeartbeats 4000000 in
set_option maxRecDepth 100000 in
theorem c_X7_set_0 {l : Launch} {V : ab_V} {mu : ab_mem} {v : Int32} (hV : OKX V) (hv : inB v 1 10 = true) : CT l V ShX yX7_set wsX7_set rm_X7_set [.ref (aL V 0), .int 0, .int v] mu (pI (fun r mu2 => r = mu 4 2 ∧ mu2 = ab_up mu 4 2 v)) := by
  refine ab_enter hV.1 (by decide) rfl (Nat.le_of_ble_eq_true rfl) ?_
  intro X B E
  have B : CX X l rm_X7_set RX7 cX7_set wsX7_set 3 V ShX := B
  show AW X V ShX 3 0 [some (.ref (aL V 0)), some (.int 0), some (.int v)] [] mu
  refine a_iload_n B dX7_set_0 rfl ?_
  refine a_if_ne_f (tgt := 10) B dX7_set_1 (by decide) (rfl) ?_
  refine a_aload_n B dX7_set_4 rfl ?_
  refine a_iload_n B dX7_set_5 rfl ?_
  refine a_callVi B k_X7_set_101 (c_X7_setMark hV hv) (by first | rfl | assumption) rfl rfl rfl (Nat.le_of_ble_eq_true rfl) dX7_set_6 (fun r6 mu6 h6 => ?_)
  refine a_ireturn B E dX7_set_9 ?_
  exact h6
set_option maxHeartbeats 4000000 in
set_option maxRecDepth 100000 in
theorem c_X7_set_b0 {l : Launch} {V : ab_V} {mu : ab_mem} {v : Int32} (hV : OKX V) (hv : inB v 1 10 = false) : CT l V ShX yX7_set wsX7_set rm_X7_set [.ref (aL V 0), .int 0, .int v] mu (pI (fun r mu2 => r = -2 ∧ mu = mu2)) := by
  refine ab_enter hV.1 (by decide) rfl (Nat.le_of_ble_eq_true rfl) ?_
  intro X B E
  have B : CX X l rm_X7_set RX7 cX7_set wsX7_set 3 V ShX := B
  show AW X V ShX 3 0 [some (.ref (aL V 0)), some (.int 0), some (.int v)] [] mu
  refine a_iload_n B dX7_set_0 rfl ?_
  refine a_if_ne_f (tgt := 10) B dX7_set_1 (by decide) (rfl) ?_
  refine a_aload_n B dX7_set_4 rfl ?_
  refine a_iload_n B dX7_set_5 rfl ?_
  refine a_callVi B k_X7_set_101 (c_X7_setMark_bad hV hv) (by first | rfl | assumption) rfl rfl rfl (Nat.le_of_ble_eq_true rfl) dX7_set_6 (fun r6 mu6 h6 => ?_)
  refine a_ireturn B E dX7_set_9 ?_
  exact h6
set_option maxHeartbeats 4000000 in
set_option maxRecDepth 100000 in
theorem c_X7_set_1 {l : Launch} {V : ab_V} {mu : ab_mem} {v : Int32} (hV : OKX V) (hv : inB v 0 2 = true) : CT l V ShX yX7_set wsX7_set rm_X7_set [.ref (aL V 0), .int 1, .int v] mu (pI (fun r mu2 => r = mu 4 3 ∧ mu2 = ab_up mu 4 3 v)) := by
  refine ab_enter hV.1 (by decide) rfl (Nat.le_of_ble_eq_true rfl) ?_
  intro X B E
  have B : CX X l rm_X7_set RX7 cX7_set wsX7_set 3 V ShX := B
  show AW X V ShX 3 0 [some (.ref (aL V 0)), some (.int 1), some (.int v)] [] mu
  refine a_iload_n B dX7_set_0 rfl ?_
  refine a_if_ne_t (tgt := 10) B dX7_set_1 (by decide) (by decide) ?_
  refine a_iload_n B dX7_set_10 rfl ?_
  refine a_iconst (v := 1) B dX7_set_11 (by decide) ?_
  refine a_icmp_ne_f (tgt := 21) B dX7_set_12 (by decide) (rfl) ?_
  refine a_aload_n B dX7_set_15 rfl ?_
  refine a_iload_n B dX7_set_16 rfl ?_
  refine a_callVi B k_X7_set_104 (c_X7_setLaw hV hv) (by first | rfl | assumption) rfl rfl rfl (Nat.le_of_ble_eq_true rfl) dX7_set_17 (fun r17 mu17 h17 => ?_)
  refine a_ireturn B E dX7_set_20 ?_
  exact h17
set_option maxHeartbeats 4000000 in
set_option maxRecDepth 100000 in
theorem c_X7_set_b1 {l : Launch} {V : ab_V} {mu : ab_mem} {v : Int32} (hV : OKX V) (hv : inB v 0 2 = false) : CT l V ShX yX7_set wsX7_set rm_X7_set [.ref (aL V 0), .int 1, .int v] mu (pI (fun r mu2 => r = -2 ∧ mu = mu2)) := by
  refine ab_enter hV.1 (by decide) rfl (Nat.le_of_ble_eq_true rfl) ?_
  intro X B E
  have B : CX X l rm_X7_set RX7 cX7_set wsX7_set 3 V ShX := B
  show AW X V ShX 3 0 [some (.ref (aL V 0)), some (.int 1), some (.int v)] [] mu
  refine a_iload_n B dX7_set_0 rfl ?_
  refine a_if_ne_t (tgt := 10) B dX7_set_1 (by decide) (by decide) ?_
  refine a_iload_n B dX7_set_10 rfl ?_
  refine a_iconst (v := 1) B dX7_set_11 (by decide) ?_
  refine a_icmp_ne_f (tgt := 21) B dX7_set_12 (by decide) (rfl) ?_
  refine a_aload_n B dX7_set_15 rfl ?_
  refine a_iload_n B dX7_set_16 rfl ?_
  refine a_callVi B k_X7_set_104 (c_X7_setLaw_bad hV hv) (by first | rfl | assumption) rfl rfl rfl (Nat.le_of_ble_eq_true rfl) dX7_set_17 (fun r17 mu17 h17 => ?_)
  refine a_ireturn B E dX7_set_20 ?_
  exact h17
set_option maxHeartbeats 4000000 in
set_option maxRecDepth 100000 in
theorem c_X7_set_2 {l : Launch} {V : ab_V} {mu : ab_mem} {v : Int32} (hV : OKX V) (hv : inB v 0 126 = true) (ho : v - v / 2 * 2 = 0) : CT l V ShX yX7_set wsX7_set rm_X7_set [.ref (aL V 0), .int 2, .int v] mu (pI (fun r mu2 => r = mu 4 4 ∧ mu2 = ab_up mu 4 4 v)) := by
  refine ab_enter hV.1 (by decide) rfl (Nat.le_of_ble_eq_true rfl) ?_
  intro X B E
  have B : CX X l rm_X7_set RX7 cX7_set wsX7_set 3 V ShX := B
  show AW X V ShX 3 0 [some (.ref (aL V 0)), some (.int 2), some (.int v)] [] mu
  refine a_iload_n B dX7_set_0 rfl ?_
  refine a_if_ne_t (tgt := 10) B dX7_set_1 (by decide) (by decide) ?_
  refine a_iload_n B dX7_set_10 rfl ?_
  refine a_iconst (v := 1) B dX7_set_11 (by decide) ?_
  refine a_icmp_ne_t (tgt := 21) B dX7_set_12 (by decide) (by decide) ?_
  refine a_iload_n B dX7_set_21 rfl ?_
  refine a_iconst (v := 2) B dX7_set_22 (by decide) ?_
  refine a_icmp_ne_f (tgt := 32) B dX7_set_23 (by decide) (rfl) ?_
  refine a_aload_n B dX7_set_26 rfl ?_
  refine a_iload_n B dX7_set_27 rfl ?_
  refine a_callVi B k_X7_set_107 (c_X7_setForbidden hV hv ho) (by first | rfl | assumption) rfl rfl rfl (Nat.le_of_ble_eq_true rfl) dX7_set_28 (fun r28 mu28 h28 => ?_)
  refine a_ireturn B E dX7_set_31 ?_
  exact h28
set_option maxHeartbeats 4000000 in
set_option maxRecDepth 100000 in
theorem c_X7_set_b2 {l : Launch} {V : ab_V} {mu : ab_mem} {v : Int32} (hV : OKX V) (hv : inB v 0 126 = false ∨ ¬ v - v / 2 * 2 = 0) : CT l V ShX yX7_set wsX7_set rm_X7_set [.ref (aL V 0), .int 2, .int v] mu (pI (fun r mu2 => r = -2 ∧ mu = mu2)) := by
  refine ab_enter hV.1 (by decide) rfl (Nat.le_of_ble_eq_true rfl) ?_
  intro X B E
  have B : CX X l rm_X7_set RX7 cX7_set wsX7_set 3 V ShX := B
  show AW X V ShX 3 0 [some (.ref (aL V 0)), some (.int 2), some (.int v)] [] mu
  refine a_iload_n B dX7_set_0 rfl ?_
  refine a_if_ne_t (tgt := 10) B dX7_set_1 (by decide) (by decide) ?_
  refine a_iload_n B dX7_set_10 rfl ?_
  refine a_iconst (v := 1) B dX7_set_11 (by decide) ?_
  refine a_icmp_ne_t (tgt := 21) B dX7_set_12 (by decide) (by decide) ?_
  refine a_iload_n B dX7_set_21 rfl ?_
  refine a_iconst (v := 2) B dX7_set_22 (by decide) ?_
  refine a_icmp_ne_f (tgt := 32) B dX7_set_23 (by decide) (rfl) ?_
  refine a_aload_n B dX7_set_26 rfl ?_
  refine a_iload_n B dX7_set_27 rfl ?_
  refine a_callVi B k_X7_set_107 (c_X7_setForbidden_bad hV hv) (by first | rfl | assumption) rfl rfl rfl (Nat.le_of_ble_eq_true rfl) dX7_set_28 (fun r28 mu28 h28 => ?_)
  refine a_ireturn B E dX7_set_31 ?_
  exact h28
set_option maxHeartbeats 4000000 in
set_option maxRecDepth 100000 in
theorem c_X7_set_b {l : Launch} {V : ab_V} {mu : ab_mem} {a v : Int32} (hV : OKX V) (hb : inB a 0 2 = false) : CT l V ShX yX7_set wsX7_set rm_X7_set [.ref (aL V 0), .int a, .int v] mu (pI (fun r mu2 => r = -2 ∧ mu = mu2)) := by
  refine ab_enter hV.1 (by decide) rfl (Nat.le_of_ble_eq_true rfl) ?_
  intro X B E
  have B : CX X l rm_X7_set RX7 cX7_set wsX7_set 3 V ShX := B
  show AW X V ShX 3 0 [some (.ref (aL V 0)), some (.int a), some (.int v)] [] mu
  refine a_iload_n B dX7_set_0 rfl ?_
  refine a_if_ne_t (tgt := 10) B dX7_set_1 (by decide) (fun e => absurd hb (by rw [e]; decide)) ?_
  refine a_iload_n B dX7_set_10 rfl ?_
  refine a_iconst (v := 1) B dX7_set_11 (by decide) ?_
  refine a_icmp_ne_t (tgt := 21) B dX7_set_12 (by decide) (fun e => absurd hb (by rw [e]; decide)) ?_
  refine a_iload_n B dX7_set_21 rfl ?_
  refine a_iconst (v := 2) B dX7_set_22 (by decide) ?_
  refine a_icmp_ne_t (tgt := 32) B dX7_set_23 (by decide) (fun e => absurd hb (by rw [e]; decide)) ?_
  refine a_bipush (v := -2) B dX7_set_32 (by decide) ?_
  refine a_ireturn B E dX7_set_34 ?_
  exact ⟨rfl, rfl⟩
abbrev rm_X7_finding : Room := { frames := 0, cells := 0, slots := 0, locals := 0 }
set_option maxRecDepth 20000 in
theorem us_X7_finding_7 : ∀ w ∈ u_ws RX7 TX7 9, w ∈ wsX7_finding := by decide +kernel
set_option maxRecDepth 20000 in
theorem fp_X7_finding_60 : FP RX7 wsX7_finding 60 7 8 .int := ⟨RX7, TX7, 9, tyX7, rfl, by decide, us_X7_finding_7, by decide +kernel, tyX7_ok, nmX7, rfl, rfl⟩

set_option maxHeartbeats 4000000 in
set_option maxRecDepth 100000 in
theorem c_X7_finding {l : Launch} {V : ab_V} {mu : ab_mem} {a : Int32} (hV : OKX V)  : CT l V ShX yX7_finding wsX7_finding rm_X7_finding [.ref (aL V 0), .int a] mu (pI (fun r mu2 => r = -10 - a ∧ mu2 = ab_up mu 0 8 a)) := by
  refine ab_enter hV.1 (by decide) rfl (Nat.le_of_ble_eq_true rfl) ?_
  intro X B E
  have B : CX X l rm_X7_finding RX7 cX7_finding wsX7_finding 2 V ShX := B
  show AW X V ShX 2 0 [some (.ref (aL V 0)), some (.int a)] [] mu
  refine a_aload_n B dX7_finding_0 rfl ?_
  refine a_iload_n B dX7_finding_1 rfl ?_
  refine a_put B fp_X7_finding_60 (by first | rfl | assumption) rfl rfl rfl dX7_finding_2 ?_
  refine a_bipush (v := -10) B dX7_finding_5 (by decide) ?_
  refine a_iload_n B dX7_finding_7 rfl ?_
  refine a_isub B dX7_finding_8 ?_
  refine a_ireturn B E dX7_finding_9 ?_
  exact ⟨rfl, rfl⟩
def hsB (z i n : Int32) : Bool := decide (¬ i < 0 ∧ ¬ n < 0 ∧ ¬ z < i ∧ ¬ z - i < n)
def rnX (mu : ab_mem) (s : Nat) (fo z : Int32) : ab_mem := ab_up (ab_up (ab_up (ab_row mu (35 + 2 * s) (fb_put (mu (35 + 2 * s)) (fun _ => 0) 0 48)) (34 + 2 * s) 1 fo) (34 + 2 * s) 2 z) (34 + 2 * s) 3 0
abbrev rm_X4_renew : Room := { frames := 0, cells := 0, slots := 0, locals := 0 }
set_option maxRecDepth 20000 in
theorem us_X4_renew_4 : ∀ w ∈ u_ws RX4 TX4 4, w ∈ wsX4_renew := by decide +kernel
set_option maxRecDepth 20000 in
theorem fl_X4_renew_9 : FL RX4 wsX4_renew 9 4 0 := ⟨RX4, TX4, 4, rfl, by decide, us_X4_renew_4, by decide +kernel⟩
set_option maxRecDepth 20000 in
theorem fp_X4_renew_15 : FP RX4 wsX4_renew 15 4 1 .int := ⟨RX4, TX4, 4, tyX4, rfl, by decide, us_X4_renew_4, by decide +kernel, tyX4_ok, nmX4, rfl, rfl⟩
set_option maxRecDepth 20000 in
theorem fp_X4_renew_19 : FP RX4 wsX4_renew 19 4 2 .int := ⟨RX4, TX4, 4, tyX4, rfl, by decide, us_X4_renew_4, by decide +kernel, tyX4_ok, nmX4, rfl, rfl⟩
set_option maxRecDepth 20000 in
theorem fp_X4_renew_22 : FP RX4 wsX4_renew 22 4 3 .boolean := ⟨RX4, TX4, 4, tyX4, rfl, by decide, us_X4_renew_4, by decide +kernel, tyX4_ok, nmX4, rfl, rfl⟩

set_option maxHeartbeats 4000000 in
set_option maxRecDepth 100000 in
theorem c_X4_renew {l : Launch} {V : ab_V} {mu : ab_mem} {s : Nat} {fo z : Int32} (hV : OKX V) (hs : s < 4)  : CT l V ShX yX4_renew wsX4_renew rm_X4_renew [.ref (aL V (34 + 2 * s)), .int fo, .int z] mu (pV (fun mu2 => mu2 = rnX mu s fo z)) := by
  refine ab_enter hV.1 (by decide) rfl (Nat.le_of_ble_eq_true rfl) ?_
  intro X B E
  have B : CX X l rm_X4_renew RX4 cX4_renew wsX4_renew 4 V ShX := B
  show AW X V ShX 4 0 [some (.ref (aL V (34 + 2 * s))), some (.int fo), some (.int z), none] [] mu
  have q3 := shS hs
  have q4 := shSi hs
  have loop : ∀ (m j : Nat), j + m = 48 → AW X V ShX 4 2 [some (.ref (aL V (34 + 2 * s))), some (.int fo), some (.int z), some (.int (nI j))] [] (ab_row mu (35 + 2 * s) (fb_put (mu (35 + 2 * s)) (fun _ => 0) 0 j)) := by
    intro m
    induction m with
    | zero =>
      intro j hj
      have e : j = 48 := by omega
      subst e
      refine a_iload_n B dX4_renew_2 rfl ?_
      refine a_bipush (v := 48) B dX4_renew_3 (by decide) ?_
      refine a_icmp_ge_t (tgt := 21) B dX4_renew_5 (by decide) (by decide) ?_
      refine a_aload_n B dX4_renew_21 rfl ?_
      refine a_iload_n B dX4_renew_22 rfl ?_
      refine a_put B fp_X4_renew_15 (by first | rfl | assumption) rfl rfl rfl dX4_renew_23 ?_
      refine a_aload_n B dX4_renew_26 rfl ?_
      refine a_iload_n B dX4_renew_27 rfl ?_
      refine a_put B fp_X4_renew_19 (by first | rfl | assumption) rfl rfl rfl dX4_renew_28 ?_
      refine a_aload_n B dX4_renew_31 rfl ?_
      refine a_iconst (v := 0) B dX4_renew_32 (by decide) ?_
      refine a_put B fp_X4_renew_22 (by first | rfl | assumption) rfl rfl rfl dX4_renew_33 ?_
      refine a_return B E dX4_renew_36 ?_
      rfl
    | succ m ih =>
      intro j hj
      refine a_iload_n B dX4_renew_2 rfl ?_
      refine a_bipush (v := 48) B dX4_renew_3 (by decide) ?_
      refine a_icmp_ge_f (tgt := 21) B dX4_renew_5 (by decide) (nI_ge (a := j) (b := 48) (by omega) (by decide)) ?_
      refine a_aload_n B dX4_renew_8 rfl ?_
      refine a_getr B fl_X4_renew_9 (by first | rfl | assumption) rfl dX4_renew_9 ?_
      refine a_iload_n B dX4_renew_12 rfl ?_
      refine a_iconst (v := 0) B dX4_renew_13 (by decide) ?_
      refine a_iastN B (j) (by first | rfl | assumption) rfl (by omega) (by decide)  dX4_renew_14 ?_
      refine a_iinc (v := 1) B dX4_renew_15 rfl (by decide) (by decide) ?_
      refine a_goto (tgt := 2) B dX4_renew_18 (by decide) ?_
      have z2 := fb_put_succ (mu (35 + 2 * s)) (fun _ => 0) 0 j
      rw [Nat.zero_add] at z2
      rw [nI_1, ab_up_row, z2]
      exact ih (j + 1) (by omega)
  refine a_iconst (v := 0) B dX4_renew_0 (by decide) ?_
  refine a_istore_n B dX4_renew_1 (by decide) ?_
  have z2 := loop 48 0 rfl
  rw [fb_put_0, ab_row_self] at z2
  exact z2
abbrev rm_X4_hasItems : Room := { frames := 0, cells := 0, slots := 0, locals := 0 }
set_option maxRecDepth 20000 in
theorem us_X4_hasItems_4 : ∀ w ∈ u_ws RX4 TX4 4, w ∈ wsX4_hasItems := by decide +kernel
set_option maxRecDepth 20000 in
theorem fl_X4_hasItems_19 : FL RX4 wsX4_hasItems 19 4 2 := ⟨RX4, TX4, 4, rfl, by decide, us_X4_hasItems_4, by decide +kernel⟩

set_option maxHeartbeats 4000000 in
set_option maxRecDepth 100000 in
theorem c_X4_hasItems {l : Launch} {V : ab_V} {mu : ab_mem} {s : Nat} {i n : Int32} (hV : OKX V) (hs : s < 4)  : CT l V ShX yX4_hasItems wsX4_hasItems rm_X4_hasItems [.ref (aL V (34 + 2 * s)), .int i, .int n] mu (pI (fun r mu2 => r = bI (hsB (mu (34 + 2 * s) 2) i n) ∧ mu = mu2)) := by
  refine ab_enter hV.1 (by decide) rfl (Nat.le_of_ble_eq_true rfl) ?_
  intro X B E
  have B : CX X l rm_X4_hasItems RX4 cX4_hasItems wsX4_hasItems 3 V ShX := B
  show AW X V ShX 3 0 [some (.ref (aL V (34 + 2 * s))), some (.int i), some (.int n)] [] mu
  have q3 := shS hs
  have q4 := shSi hs
  refine a_iload_n B dX4_hasItems_0 rfl ?_
  refine a_if_lt (tgt := 30) B dX4_hasItems_1 (by decide) (fun c1 => ?_) (fun c1 => ?_)
  · refine a_iconst (v := 0) B dX4_hasItems_30 (by decide) ?_
    refine a_zreturn B E dX4_hasItems_31 (by first | rfl | exact nar_bI _) ?_
    exact ⟨by simp_all [hsB, bI], rfl⟩
  · refine a_iload_n B dX4_hasItems_4 rfl ?_
    refine a_if_lt (tgt := 30) B dX4_hasItems_5 (by decide) (fun c5 => ?_) (fun c5 => ?_)
    · refine a_iconst (v := 0) B dX4_hasItems_30 (by decide) ?_
      refine a_zreturn B E dX4_hasItems_31 (by first | rfl | exact nar_bI _) ?_
      exact ⟨by simp_all [hsB, bI], rfl⟩
    · refine a_iload_n B dX4_hasItems_8 rfl ?_
      refine a_aload_n B dX4_hasItems_9 rfl ?_
      refine a_geti B fl_X4_hasItems_19 (by first | rfl | assumption) rfl dX4_hasItems_10 ?_
      refine a_icmp_gt (tgt := 30) B dX4_hasItems_13 (by decide) (fun c13 => ?_) (fun c13 => ?_)
      · refine a_iconst (v := 0) B dX4_hasItems_30 (by decide) ?_
        refine a_zreturn B E dX4_hasItems_31 (by first | rfl | exact nar_bI _) ?_
        exact ⟨by simp_all [hsB, bI], rfl⟩
      · refine a_iload_n B dX4_hasItems_16 rfl ?_
        refine a_aload_n B dX4_hasItems_17 rfl ?_
        refine a_geti B fl_X4_hasItems_19 (by first | rfl | assumption) rfl dX4_hasItems_18 ?_
        refine a_iload_n B dX4_hasItems_21 rfl ?_
        refine a_isub B dX4_hasItems_22 ?_
        refine a_icmp_gt (tgt := 30) B dX4_hasItems_23 (by decide) (fun c23 => ?_) (fun c23 => ?_)
        · refine a_iconst (v := 0) B dX4_hasItems_30 (by decide) ?_
          refine a_zreturn B E dX4_hasItems_31 (by first | rfl | exact nar_bI _) ?_
          exact ⟨by simp_all [hsB, bI], rfl⟩
        · refine a_iconst (v := 1) B dX4_hasItems_26 (by decide) ?_
          refine a_goto (tgt := 31) B dX4_hasItems_27 (by decide) ?_
          refine a_zreturn B E dX4_hasItems_31 (by first | rfl | exact nar_bI _) ?_
          exact ⟨by simp_all [hsB, bI], rfl⟩
def lkX (lo fo fo2 z i : Int32) : Int32 := if lo = 0 then (if fo = fo2 then (if hsB z i 1 then 0 else 2) else 3) else 1
abbrev rm_X4_findingAt : Room := { frames := 1, cells := 0, slots := 0, locals := 22 }
set_option maxRecDepth 20000 in
theorem us_X4_findingAt_4 : ∀ w ∈ u_ws RX4 TX4 4, w ∈ wsX4_findingAt := by decide +kernel
set_option maxRecDepth 20000 in
theorem fl_X4_findingAt_15 : FL RX4 wsX4_findingAt 15 4 1 := ⟨RX4, TX4, 4, rfl, by decide, us_X4_findingAt_4, by decide +kernel⟩
set_option maxRecDepth 20000 in
theorem fl_X4_findingAt_22 : FL RX4 wsX4_findingAt 22 4 3 := ⟨RX4, TX4, 4, rfl, by decide, us_X4_findingAt_4, by decide +kernel⟩
theorem k_X4_findingAt_26 : KV RX4 wsX4_findingAt rm_X4_findingAt 26 RX4 yX4_hasItems wsX4_hasItems rm_X4_hasItems 2 := ⟨_, _, _, _, gX4_findingAt_X4_hasItems, rfl, rfl, rfl, by decide +kernel, by decide⟩

set_option maxHeartbeats 4000000 in
set_option maxRecDepth 100000 in
theorem c_X4_findingAt {l : Launch} {V : ab_V} {mu : ab_mem} {s : Nat} {fo i : Int32} (hV : OKX V) (hs : s < 4)  : CT l V ShX yX4_findingAt wsX4_findingAt rm_X4_findingAt [.ref (aL V (34 + 2 * s)), .int fo, .int i] mu (pI (fun r mu2 => r = lkX (mu (34 + 2 * s) 3) (mu (34 + 2 * s) 1) fo (mu (34 + 2 * s) 2) i ∧ mu = mu2)) := by
  refine ab_enter hV.1 (by decide) rfl (Nat.le_of_ble_eq_true rfl) ?_
  intro X B E
  have B : CX X l rm_X4_findingAt RX4 cX4_findingAt wsX4_findingAt 3 V ShX := B
  show AW X V ShX 3 0 [some (.ref (aL V (34 + 2 * s))), some (.int fo), some (.int i)] [] mu
  have q3 := shS hs
  have q4 := shSi hs
  refine a_aload_n B dX4_findingAt_0 rfl ?_
  refine a_geti B fl_X4_findingAt_22 (by first | rfl | assumption) rfl dX4_findingAt_1 ?_
  refine a_if_eq (tgt := 9) B dX4_findingAt_4 (by decide) (fun c4 => ?_) (fun c4 => ?_)
  · refine a_aload_n B dX4_findingAt_9 rfl ?_
    refine a_geti B fl_X4_findingAt_15 (by first | rfl | assumption) rfl dX4_findingAt_10 ?_
    refine a_iload_n B dX4_findingAt_13 rfl ?_
    refine a_icmp_eq (tgt := 19) B dX4_findingAt_14 (by decide) (fun c14 => ?_) (fun c14 => ?_)
    · refine a_aload_n B dX4_findingAt_19 rfl ?_
      refine a_iload_n B dX4_findingAt_20 rfl ?_
      refine a_iconst (v := 1) B dX4_findingAt_21 (by decide) ?_
      refine a_callVi B k_X4_findingAt_26 (c_X4_hasItems hV hs) (by first | rfl | assumption) rfl rfl rfl (Nat.le_of_ble_eq_true rfl) dX4_findingAt_22 (fun r22 mu22 h22 => ?_)
      obtain ⟨rfl, rfl⟩ := h22
      refine a_if_eq (tgt := 32) B dX4_findingAt_25 (by decide) (fun c25 => ?_) (fun c25 => ?_)
      · refine a_iconst (v := 2) B dX4_findingAt_32 (by decide) ?_
        refine a_ireturn B E dX4_findingAt_33 ?_
        refine ⟨?_, rfl⟩
        rw [lkX]
        first
          | rw [if_neg c4]
          | rw [if_pos c4, if_pos c14, if_pos (bI_n0.mp c25)]
          | rw [if_pos c4, if_pos c14, if_neg (by rw [bI_0.mp c25]; decide)]
          | rw [if_pos c4, if_neg c14]
      · refine a_iconst (v := 0) B dX4_findingAt_28 (by decide) ?_
        refine a_goto (tgt := 33) B dX4_findingAt_29 (by decide) ?_
        refine a_ireturn B E dX4_findingAt_33 ?_
        refine ⟨?_, rfl⟩
        rw [lkX]
        first
          | rw [if_neg c4]
          | rw [if_pos c4, if_pos c14, if_pos (bI_n0.mp c25)]
          | rw [if_pos c4, if_pos c14, if_neg (by rw [bI_0.mp c25]; decide)]
          | rw [if_pos c4, if_neg c14]
    · refine a_iconst (v := 3) B dX4_findingAt_17 (by decide) ?_
      refine a_ireturn B E dX4_findingAt_18 ?_
      refine ⟨?_, rfl⟩
      rw [lkX]
      first
        | rw [if_neg c4]
        | rw [if_pos c4, if_pos c14, if_pos (bI_n0.mp c25)]
        | rw [if_pos c4, if_pos c14, if_neg (by rw [bI_0.mp c25]; decide)]
        | rw [if_pos c4, if_neg c14]
  · refine a_iconst (v := 1) B dX4_findingAt_7 (by decide) ?_
    refine a_ireturn B E dX4_findingAt_8 ?_
    refine ⟨?_, rfl⟩
    rw [lkX]
    first
      | rw [if_neg c4]
      | rw [if_pos c4, if_pos c14, if_pos (bI_n0.mp c25)]
      | rw [if_pos c4, if_pos c14, if_neg (by rw [bI_0.mp c25]; decide)]
      | rw [if_pos c4, if_neg c14]
theorem hsB_in {z k : Nat} (hz : z ≤ 48) (hk : k < z) : hsB (nI z) (nI k) 1 = true := by
  rw [hsB, decide_eq_true_eq]
  refine ⟨nI_pos (by omega), by decide, nI_nlt (by omega) (by omega), ?_⟩
  rw [pk_sub (by omega)]
  exact nI_nlt (a := z - k) (b := 1) (by omega) (by omega)
abbrev rm_X4_store : Room := { frames := 1, cells := 0, slots := 0, locals := 22 }
set_option maxRecDepth 20000 in
theorem us_X4_store_4 : ∀ w ∈ u_ws RX4 TX4 4, w ∈ wsX4_store := by decide +kernel
set_option maxRecDepth 20000 in
theorem fl_X4_store_9 : FL RX4 wsX4_store 9 4 0 := ⟨RX4, TX4, 4, rfl, by decide, us_X4_store_4, by decide +kernel⟩
set_option maxRecDepth 20000 in
theorem fl_X4_store_15 : FL RX4 wsX4_store 15 4 1 := ⟨RX4, TX4, 4, rfl, by decide, us_X4_store_4, by decide +kernel⟩
theorem k_X4_store_26 : KV RX4 wsX4_store rm_X4_store 26 RX4 yX4_hasItems wsX4_hasItems rm_X4_hasItems 2 := ⟨_, _, _, _, gX4_store_X4_hasItems, rfl, rfl, rfl, by decide +kernel, by decide⟩

set_option maxHeartbeats 4000000 in
set_option maxRecDepth 100000 in
theorem c_X4_store {l : Launch} {V : ab_V} {mu : ab_mem} {s z k : Nat} {v : Int32} (hV : OKX V) (hs : s < 4) (hz : mu (34 + 2 * s) 2 = nI z) (hz48 : z ≤ 48) (hk : k < z) : CT l V ShX yX4_store wsX4_store rm_X4_store [.ref (aL V (34 + 2 * s)), .int (nI k), .int v] mu (pV (fun mu2 => mu2 = ab_up mu (35 + 2 * s) k (cvF (mu (34 + 2 * s) 1) v))) := by
  refine ab_enter hV.1 (by decide) rfl (Nat.le_of_ble_eq_true rfl) ?_
  intro X B E
  have B : CX X l rm_X4_store RX4 cX4_store wsX4_store 3 V ShX := B
  show AW X V ShX 3 0 [some (.ref (aL V (34 + 2 * s))), some (.int (nI k)), some (.int v)] [] mu
  have q3 := shS hs
  have q4 := shSi hs
  refine a_aload_n B dX4_store_0 rfl ?_
  refine a_iload_n B dX4_store_1 rfl ?_
  refine a_iconst (v := 1) B dX4_store_2 (by decide) ?_
  refine a_callVi B k_X4_store_26 (c_X4_hasItems hV hs) (by first | rfl | assumption) rfl rfl rfl (Nat.le_of_ble_eq_true rfl) dX4_store_3 (fun r3 mu3 h3 => ?_)
  obtain ⟨rfl, rfl⟩ := h3
  refine a_if_ne_t (tgt := 10) B dX4_store_6 (by decide) (by rw [hz, hsB_in hz48 hk]; decide) ?_
  refine a_aload_n B dX4_store_10 rfl ?_
  refine a_geti B fl_X4_store_15 (by first | rfl | assumption) rfl dX4_store_11 ?_
  refine a_if_ne (tgt := 28) B dX4_store_14 (by decide) (fun c14 => ?_) (fun c14 => ?_)
  · refine a_aload_n B dX4_store_28 rfl ?_
    refine a_geti B fl_X4_store_15 (by first | rfl | assumption) rfl dX4_store_29 ?_
    refine a_iconst (v := 1) B dX4_store_32 (by decide) ?_
    refine a_icmp_ne (tgt := 47) B dX4_store_33 (by decide) (fun c33 => ?_) (fun c33 => ?_)
    · refine a_aload_n B dX4_store_47 rfl ?_
      refine a_getr B fl_X4_store_9 (by first | rfl | assumption) rfl dX4_store_48 ?_
      refine a_iload_n B dX4_store_51 rfl ?_
      refine a_iload_n B dX4_store_52 rfl ?_
      refine a_iastN B (k) (by first | rfl | assumption) rfl (by omega) (by decide)  dX4_store_53 ?_
      refine a_return B E dX4_store_54 ?_
      rw [cvF]
      first
        | rw [if_pos c14]
        | rw [if_neg c14, if_pos c33]
        | rw [if_neg c14, if_neg c33]
    · refine a_aload_n B dX4_store_36 rfl ?_
      refine a_getr B fl_X4_store_9 (by first | rfl | assumption) rfl dX4_store_37 ?_
      refine a_iload_n B dX4_store_40 rfl ?_
      refine a_iload_n B dX4_store_41 rfl ?_
      refine a_i2s B dX4_store_42 ?_
      refine a_iastN B (k) (by first | rfl | assumption) rfl (by omega) (by decide)  dX4_store_43 ?_
      refine a_goto (tgt := 54) B dX4_store_44 (by decide) ?_
      refine a_return B E dX4_store_54 ?_
      rw [cvF]
      first
        | rw [if_pos c14]
        | rw [if_neg c14, if_pos c33]
        | rw [if_neg c14, if_neg c33]
  · refine a_aload_n B dX4_store_17 rfl ?_
    refine a_getr B fl_X4_store_9 (by first | rfl | assumption) rfl dX4_store_18 ?_
    refine a_iload_n B dX4_store_21 rfl ?_
    refine a_iload_n B dX4_store_22 rfl ?_
    refine a_i2b B dX4_store_23 ?_
    refine a_iastN B (k) (by first | rfl | assumption) rfl (by omega) (by decide)  dX4_store_24 ?_
    refine a_goto (tgt := 54) B dX4_store_25 (by decide) ?_
    refine a_return B E dX4_store_54 ?_
    rw [cvF]
    first
      | rw [if_pos c14]
      | rw [if_neg c14, if_pos c33]
      | rw [if_neg c14, if_neg c33]
abbrev rm_X7_sheet : Room := { frames := 2, cells := 0, slots := 0, locals := 42 }
set_option maxRecDepth 20000 in
theorem us_X7_sheet_7 : ∀ w ∈ u_ws RX7 TX7 9, w ∈ wsX7_sheet := by decide +kernel
set_option maxRecDepth 20000 in
theorem fl_X7_sheet_23 : FL RX7 wsX7_sheet 23 7 2 := ⟨RX7, TX7, 9, rfl, by decide, us_X7_sheet_7, by decide +kernel⟩
theorem k_X7_sheet_113 : KS RX7 wsX7_sheet rm_X7_sheet 113 yX7_isSheet wsX7_isSheet rm_X7_isSheet 1 := ⟨_, _, _, _, gX7_sheet_X7_isSheet, rfl, rfl, rfl, by decide +kernel, by decide⟩
theorem k_X7_sheet_120 : KV RX7 wsX7_sheet rm_X7_sheet 120 RX7 yX7_finding wsX7_finding rm_X7_finding 1 := ⟨_, _, _, _, gX7_sheet_X7_finding, rfl, rfl, rfl, by decide +kernel, by decide⟩
theorem k_X7_sheet_220 : KS RX7 wsX7_sheet rm_X7_sheet 220 yX7_isForm wsX7_isForm rm_X7_isForm 1 := ⟨_, _, _, _, gX7_sheet_X7_isForm, rfl, rfl, rfl, by decide +kernel, by decide⟩
theorem k_X7_sheet_223 : KV RX7 wsX7_sheet rm_X7_sheet 223 RX4 yX4_renew wsX4_renew rm_X4_renew 2 := ⟨_, _, _, _, gX7_sheet_X4_renew, rfl, rfl, rfl, by decide +kernel, by decide⟩

set_option maxHeartbeats 4000000 in
set_option maxRecDepth 100000 in
theorem c_X7_sheet {l : Launch} {V : ab_V} {mu : ab_mem} {s : Nat} {fo z : Int32} (hV : OKX V) (hs : s < 4) (hfo : inB fo 0 2 = true) (hn48 : z ≤ 48) (hn0 : 0 ≤ z) : CT l V ShX yX7_sheet wsX7_sheet rm_X7_sheet [.ref (aL V 0), .int (nI s), .int fo, .int z] mu (pI (fun r mu2 => r = z ∧ mu2 = rnX mu s fo z)) := by
  refine ab_enter hV.1 (by decide) rfl (Nat.le_of_ble_eq_true rfl) ?_
  intro X B E
  have B : CX X l rm_X7_sheet RX7 cX7_sheet wsX7_sheet 4 V ShX := B
  show AW X V ShX 4 0 [some (.ref (aL V 0)), some (.int (nI s)), some (.int fo), some (.int z)] [] mu
  have q3 := shS hs
  have q4 := shSi hs
  refine a_iload_n B dX7_sheet_0 rfl ?_
  refine a_callSi B k_X7_sheet_113 (c_X7_isSheet hV) rfl rfl (Nat.le_of_ble_eq_true rfl) dX7_sheet_1 (fun r1 mu1 h1 => ?_)
  obtain ⟨rfl, rfl⟩ := h1
  refine a_if_eq_f (tgt := 20) B dX7_sheet_4 (by decide) (bI_n0.mpr (inB_nI (n := 3) (by omega) (by decide))) ?_
  refine a_iload_n B dX7_sheet_7 rfl ?_
  refine a_callSi B k_X7_sheet_220 (c_X7_isForm hV) rfl rfl (Nat.le_of_ble_eq_true rfl) dX7_sheet_8 (fun r8 mu8 h8 => ?_)
  obtain ⟨rfl, rfl⟩ := h8
  refine a_if_eq_f (tgt := 20) B dX7_sheet_11 (by decide) (bI_n0.mpr hfo) ?_
  refine a_iload_n B dX7_sheet_14 rfl ?_
  refine a_bipush (v := 48) B dX7_sheet_15 (by decide) ?_
  refine a_icmp_le_t (tgt := 23) B dX7_sheet_17 (by decide) (hn48) ?_
  refine a_iload_n B dX7_sheet_23 rfl ?_
  refine a_if_ge_t (tgt := 33) B dX7_sheet_24 (by decide) (hn0) ?_
  refine a_aload_n B dX7_sheet_33 rfl ?_
  refine a_getr B fl_X7_sheet_23 (by first | rfl | assumption) rfl dX7_sheet_34 ?_
  refine a_iload_n B dX7_sheet_37 rfl ?_
  refine a_aald B (s) (by first | rfl | assumption) rfl rfl (elS hs) (by decide) dX7_sheet_38 ?_
  refine a_iload_n B dX7_sheet_39 rfl ?_
  refine a_iload_n B dX7_sheet_40 rfl ?_
  refine a_callVv B k_X7_sheet_223 (c_X4_renew hV hs) (by first | rfl | assumption) rfl rfl rfl (Nat.le_of_ble_eq_true rfl) dX7_sheet_41 (fun mu41 h41 => ?_)
  refine a_iload_n B dX7_sheet_44 rfl ?_
  refine a_ireturn B E dX7_sheet_45 ?_
  exact ⟨rfl, h41⟩
set_option maxHeartbeats 4000000 in
set_option maxRecDepth 100000 in
theorem c_X7_sheet_no {l : Launch} {V : ab_V} {mu : ab_mem} {s : Nat} {fo z : Int32} (hV : OKX V) (hs : s < 4) (hfo : inB fo 0 2 = true) (hn48 : z ≤ 48) (hn0 : ¬ 0 ≤ z) : CT l V ShX yX7_sheet wsX7_sheet rm_X7_sheet [.ref (aL V 0), .int (nI s), .int fo, .int z] mu (pI (fun r mu2 => r = -15 ∧ mu2 = ab_up mu 0 8 5)) := by
  refine ab_enter hV.1 (by decide) rfl (Nat.le_of_ble_eq_true rfl) ?_
  intro X B E
  have B : CX X l rm_X7_sheet RX7 cX7_sheet wsX7_sheet 4 V ShX := B
  show AW X V ShX 4 0 [some (.ref (aL V 0)), some (.int (nI s)), some (.int fo), some (.int z)] [] mu
  refine a_iload_n B dX7_sheet_0 rfl ?_
  refine a_callSi B k_X7_sheet_113 (c_X7_isSheet hV) rfl rfl (Nat.le_of_ble_eq_true rfl) dX7_sheet_1 (fun r1 mu1 h1 => ?_)
  obtain ⟨rfl, rfl⟩ := h1
  refine a_if_eq_f (tgt := 20) B dX7_sheet_4 (by decide) (bI_n0.mpr (inB_nI (n := 3) (by omega) (by decide))) ?_
  refine a_iload_n B dX7_sheet_7 rfl ?_
  refine a_callSi B k_X7_sheet_220 (c_X7_isForm hV) rfl rfl (Nat.le_of_ble_eq_true rfl) dX7_sheet_8 (fun r8 mu8 h8 => ?_)
  obtain ⟨rfl, rfl⟩ := h8
  refine a_if_eq_f (tgt := 20) B dX7_sheet_11 (by decide) (bI_n0.mpr hfo) ?_
  refine a_iload_n B dX7_sheet_14 rfl ?_
  refine a_bipush (v := 48) B dX7_sheet_15 (by decide) ?_
  refine a_icmp_le_t (tgt := 23) B dX7_sheet_17 (by decide) (hn48) ?_
  refine a_iload_n B dX7_sheet_23 rfl ?_
  refine a_if_ge_f (tgt := 33) B dX7_sheet_24 (by decide) (hn0) ?_
  refine a_aload_n B dX7_sheet_27 rfl ?_
  refine a_iconst (v := 5) B dX7_sheet_28 (by decide) ?_
  refine a_callVi B k_X7_sheet_120 (c_X7_finding hV) (by first | rfl | assumption) rfl rfl rfl (Nat.le_of_ble_eq_true rfl) dX7_sheet_29 (fun r29 mu29 h29 => ?_)
  refine a_ireturn B E dX7_sheet_32 ?_
  exact ⟨h29.1, h29.2⟩
set_option maxHeartbeats 4000000 in
set_option maxRecDepth 100000 in
theorem c_X7_sheet_bad {l : Launch} {V : ab_V} {mu : ab_mem} {a fo z : Int32} (hV : OKX V) (hbad : ¬ (inB a 0 3 = true ∧ inB fo 0 2 = true ∧ z ≤ 48)) : CT l V ShX yX7_sheet wsX7_sheet rm_X7_sheet [.ref (aL V 0), .int a, .int fo, .int z] mu (pI (fun r mu2 => r = -2 ∧ mu = mu2)) := by
  refine ab_enter hV.1 (by decide) rfl (Nat.le_of_ble_eq_true rfl) ?_
  intro X B E
  have B : CX X l rm_X7_sheet RX7 cX7_sheet wsX7_sheet 4 V ShX := B
  show AW X V ShX 4 0 [some (.ref (aL V 0)), some (.int a), some (.int fo), some (.int z)] [] mu
  refine a_iload_n B dX7_sheet_0 rfl ?_
  refine a_callSi B k_X7_sheet_113 (c_X7_isSheet hV) rfl rfl (Nat.le_of_ble_eq_true rfl) dX7_sheet_1 (fun r1 mu1 h1 => ?_)
  obtain ⟨rfl, rfl⟩ := h1
  refine a_if_eq (tgt := 20) B dX7_sheet_4 (by decide) (fun c4 => ?_) (fun c4 => ?_)
  · refine a_bipush (v := -2) B dX7_sheet_20 (by decide) ?_
    refine a_ireturn B E dX7_sheet_22 ?_
    exact ⟨rfl, rfl⟩
  · refine a_iload_n B dX7_sheet_7 rfl ?_
    refine a_callSi B k_X7_sheet_220 (c_X7_isForm hV) rfl rfl (Nat.le_of_ble_eq_true rfl) dX7_sheet_8 (fun r8 mu8 h8 => ?_)
    obtain ⟨rfl, rfl⟩ := h8
    refine a_if_eq (tgt := 20) B dX7_sheet_11 (by decide) (fun c11 => ?_) (fun c11 => ?_)
    · refine a_bipush (v := -2) B dX7_sheet_20 (by decide) ?_
      refine a_ireturn B E dX7_sheet_22 ?_
      exact ⟨rfl, rfl⟩
    · refine a_iload_n B dX7_sheet_14 rfl ?_
      refine a_bipush (v := 48) B dX7_sheet_15 (by decide) ?_
      refine a_icmp_le (tgt := 23) B dX7_sheet_17 (by decide) (fun c17 => ?_) (fun c17 => ?_)
      · exfalso
        simp_all [bI_0, bI_n0]
      · refine a_bipush (v := -2) B dX7_sheet_20 (by decide) ?_
        refine a_ireturn B E dX7_sheet_22 ?_
        exact ⟨rfl, rfl⟩
abbrev rm_X7_lose : Room := { frames := 2, cells := 0, slots := 0, locals := 42 }
set_option maxRecDepth 20000 in
theorem us_X7_lose_4 : ∀ w ∈ u_ws RX4 TX4 4, w ∈ wsX7_lose := by decide +kernel
set_option maxRecDepth 20000 in
theorem us_X7_lose_7 : ∀ w ∈ u_ws RX7 TX7 9, w ∈ wsX7_lose := by decide +kernel
set_option maxRecDepth 20000 in
theorem fl_X7_lose_23 : FL RX7 wsX7_lose 23 7 2 := ⟨RX7, TX7, 9, rfl, by decide, us_X7_lose_7, by decide +kernel⟩
set_option maxRecDepth 20000 in
theorem fl_X7_lose_116 : FL RX7 wsX7_lose 116 4 3 := ⟨RX4, TX4, 4, rfl, by decide, us_X7_lose_4, by decide +kernel⟩
set_option maxRecDepth 20000 in
theorem fl_X7_lose_227 : FL RX7 wsX7_lose 227 4 2 := ⟨RX4, TX4, 4, rfl, by decide, us_X7_lose_4, by decide +kernel⟩
set_option maxRecDepth 20000 in
theorem fp_X7_lose_116 : FP RX7 wsX7_lose 116 4 3 .boolean := ⟨RX4, TX4, 4, tyX4, rfl, by decide, us_X7_lose_4, by decide +kernel, tyX4_ok, nmX4, rfl, rfl⟩
theorem k_X7_lose_113 : KS RX7 wsX7_lose rm_X7_lose 113 yX7_isSheet wsX7_isSheet rm_X7_isSheet 1 := ⟨_, _, _, _, gX7_lose_X7_isSheet, rfl, rfl, rfl, by decide +kernel, by decide⟩
theorem k_X7_lose_120 : KV RX7 wsX7_lose rm_X7_lose 120 RX7 yX7_finding wsX7_finding rm_X7_finding 1 := ⟨_, _, _, _, gX7_lose_X7_finding, rfl, rfl, rfl, by decide +kernel, by decide⟩

set_option maxHeartbeats 4000000 in
set_option maxRecDepth 100000 in
theorem c_X7_lose {l : Launch} {V : ab_V} {mu : ab_mem} {s : Nat} (hV : OKX V) (hs : s < 4) (hth : mu (34 + 2 * s) 3 = 0) : CT l V ShX yX7_lose wsX7_lose rm_X7_lose [.ref (aL V 0), .int (nI s)] mu (pI (fun r mu2 => r = mu (34 + 2 * s) 2 ∧ mu2 = ab_up mu (34 + 2 * s) 3 1)) := by
  refine ab_enter hV.1 (by decide) rfl (Nat.le_of_ble_eq_true rfl) ?_
  intro X B E
  have B : CX X l rm_X7_lose RX7 cX7_lose wsX7_lose 2 V ShX := B
  show AW X V ShX 2 0 [some (.ref (aL V 0)), some (.int (nI s))] [] mu
  have q3 := shS hs
  have q4 := shSi hs
  refine a_iload_n B dX7_lose_0 rfl ?_
  refine a_callSi B k_X7_lose_113 (c_X7_isSheet hV) rfl rfl (Nat.le_of_ble_eq_true rfl) dX7_lose_1 (fun r1 mu1 h1 => ?_)
  obtain ⟨rfl, rfl⟩ := h1
  refine a_if_ne_t (tgt := 10) B dX7_lose_4 (by decide) (bI_n0.mpr (inB_nI (n := 3) (by omega) (by decide))) ?_
  refine a_aload_n B dX7_lose_10 rfl ?_
  refine a_getr B fl_X7_lose_23 (by first | rfl | assumption) rfl dX7_lose_11 ?_
  refine a_iload_n B dX7_lose_14 rfl ?_
  refine a_aald B (s) (by first | rfl | assumption) rfl rfl (elS hs) (by decide) dX7_lose_15 ?_
  refine a_geti B fl_X7_lose_116 (by first | rfl | assumption) rfl dX7_lose_16 ?_
  refine a_if_eq_t (tgt := 28) B dX7_lose_19 (by decide) (hth) ?_
  refine a_aload_n B dX7_lose_28 rfl ?_
  refine a_getr B fl_X7_lose_23 (by first | rfl | assumption) rfl dX7_lose_29 ?_
  refine a_iload_n B dX7_lose_32 rfl ?_
  refine a_aald B (s) (by first | rfl | assumption) rfl rfl (elS hs) (by decide) dX7_lose_33 ?_
  refine a_iconst (v := 1) B dX7_lose_34 (by decide) ?_
  refine a_put B fp_X7_lose_116 (by first | rfl | assumption) rfl rfl rfl dX7_lose_35 ?_
  refine a_aload_n B dX7_lose_38 rfl ?_
  refine a_getr B fl_X7_lose_23 (by first | rfl | assumption) rfl dX7_lose_39 ?_
  refine a_iload_n B dX7_lose_42 rfl ?_
  refine a_aald B (s) (by first | rfl | assumption) rfl rfl (elS hs) (by decide) dX7_lose_43 ?_
  refine a_geti B fl_X7_lose_227 (by first | rfl | assumption) rfl dX7_lose_44 ?_
  refine a_ireturn B E dX7_lose_47 ?_
  exact ⟨by rw [ab_up_s, pk_un (by decide)], rfl⟩
set_option maxHeartbeats 4000000 in
set_option maxRecDepth 100000 in
theorem c_X7_lose_no {l : Launch} {V : ab_V} {mu : ab_mem} {s : Nat} (hV : OKX V) (hs : s < 4) (hth : ¬ mu (34 + 2 * s) 3 = 0) : CT l V ShX yX7_lose wsX7_lose rm_X7_lose [.ref (aL V 0), .int (nI s)] mu (pI (fun r mu2 => r = -11 ∧ mu2 = ab_up mu 0 8 1)) := by
  refine ab_enter hV.1 (by decide) rfl (Nat.le_of_ble_eq_true rfl) ?_
  intro X B E
  have B : CX X l rm_X7_lose RX7 cX7_lose wsX7_lose 2 V ShX := B
  show AW X V ShX 2 0 [some (.ref (aL V 0)), some (.int (nI s))] [] mu
  have q3 := shS hs
  have q4 := shSi hs
  refine a_iload_n B dX7_lose_0 rfl ?_
  refine a_callSi B k_X7_lose_113 (c_X7_isSheet hV) rfl rfl (Nat.le_of_ble_eq_true rfl) dX7_lose_1 (fun r1 mu1 h1 => ?_)
  obtain ⟨rfl, rfl⟩ := h1
  refine a_if_ne_t (tgt := 10) B dX7_lose_4 (by decide) (bI_n0.mpr (inB_nI (n := 3) (by omega) (by decide))) ?_
  refine a_aload_n B dX7_lose_10 rfl ?_
  refine a_getr B fl_X7_lose_23 (by first | rfl | assumption) rfl dX7_lose_11 ?_
  refine a_iload_n B dX7_lose_14 rfl ?_
  refine a_aald B (s) (by first | rfl | assumption) rfl rfl (elS hs) (by decide) dX7_lose_15 ?_
  refine a_geti B fl_X7_lose_116 (by first | rfl | assumption) rfl dX7_lose_16 ?_
  refine a_if_eq_f (tgt := 28) B dX7_lose_19 (by decide) (hth) ?_
  refine a_aload_n B dX7_lose_22 rfl ?_
  refine a_iconst (v := 1) B dX7_lose_23 (by decide) ?_
  refine a_callVi B k_X7_lose_120 (c_X7_finding hV) (by first | rfl | assumption) rfl rfl rfl (Nat.le_of_ble_eq_true rfl) dX7_lose_24 (fun r24 mu24 h24 => ?_)
  refine a_ireturn B E dX7_lose_27 ?_
  exact ⟨h24.1, h24.2⟩
set_option maxHeartbeats 4000000 in
set_option maxRecDepth 100000 in
theorem c_X7_lose_bad {l : Launch} {V : ab_V} {mu : ab_mem} {a : Int32} (hV : OKX V) (hbad : ¬ inB a 0 3 = true) : CT l V ShX yX7_lose wsX7_lose rm_X7_lose [.ref (aL V 0), .int a] mu (pI (fun r mu2 => r = -2 ∧ mu = mu2)) := by
  refine ab_enter hV.1 (by decide) rfl (Nat.le_of_ble_eq_true rfl) ?_
  intro X B E
  have B : CX X l rm_X7_lose RX7 cX7_lose wsX7_lose 2 V ShX := B
  show AW X V ShX 2 0 [some (.ref (aL V 0)), some (.int a)] [] mu
  refine a_iload_n B dX7_lose_0 rfl ?_
  refine a_callSi B k_X7_lose_113 (c_X7_isSheet hV) rfl rfl (Nat.le_of_ble_eq_true rfl) dX7_lose_1 (fun r1 mu1 h1 => ?_)
  obtain ⟨rfl, rfl⟩ := h1
  refine a_if_ne (tgt := 10) B dX7_lose_4 (by decide) (fun c4 => ?_) (fun c4 => ?_)
  · exfalso
    simp_all [bI_0, bI_n0]
  · refine a_bipush (v := -2) B dX7_lose_7 (by decide) ?_
    refine a_ireturn B E dX7_lose_9 ?_
    exact ⟨rfl, rfl⟩
abbrev rm_X7_put : Room := { frames := 2, cells := 0, slots := 0, locals := 44 }
set_option maxRecDepth 20000 in
theorem us_X7_put_7 : ∀ w ∈ u_ws RX7 TX7 9, w ∈ wsX7_put := by decide +kernel
set_option maxRecDepth 20000 in
theorem fl_X7_put_23 : FL RX7 wsX7_put 23 7 2 := ⟨RX7, TX7, 9, rfl, by decide, us_X7_put_7, by decide +kernel⟩
theorem k_X7_put_113 : KS RX7 wsX7_put rm_X7_put 113 yX7_isSheet wsX7_isSheet rm_X7_isSheet 1 := ⟨_, _, _, _, gX7_put_X7_isSheet, rfl, rfl, rfl, by decide +kernel, by decide⟩
theorem k_X7_put_120 : KV RX7 wsX7_put rm_X7_put 120 RX7 yX7_finding wsX7_finding rm_X7_finding 1 := ⟨_, _, _, _, gX7_put_X7_finding, rfl, rfl, rfl, by decide +kernel, by decide⟩
theorem k_X7_put_220 : KS RX7 wsX7_put rm_X7_put 220 yX7_isForm wsX7_isForm rm_X7_isForm 1 := ⟨_, _, _, _, gX7_put_X7_isForm, rfl, rfl, rfl, by decide +kernel, by decide⟩
theorem k_X7_put_228 : KV RX7 wsX7_put rm_X7_put 228 RX4 yX4_findingAt wsX4_findingAt rm_X4_findingAt 2 := ⟨_, _, _, _, gX7_put_X4_findingAt, rfl, rfl, rfl, by decide +kernel, by decide⟩
theorem k_X7_put_231 : KV RX7 wsX7_put rm_X7_put 231 RX4 yX4_store wsX4_store rm_X4_store 2 := ⟨_, _, _, _, gX7_put_X4_store, rfl, rfl, rfl, by decide +kernel, by decide⟩

set_option maxHeartbeats 4000000 in
set_option maxRecDepth 100000 in
theorem c_X7_put_no {l : Launch} {V : ab_V} {mu : ab_mem} {s : Nat} {fo i v : Int32} (hV : OKX V) (hs : s < 4) (hfo : inB fo 0 2 = true) (hl : ¬ lkX (mu (34 + 2 * s) 3) (mu (34 + 2 * s) 1) fo (mu (34 + 2 * s) 2) i = 0) : CT l V ShX yX7_put wsX7_put rm_X7_put [.ref (aL V 0), .int (nI s), .int fo, .int i, .int v] mu (pI (fun r mu2 => r = -10 - lkX (mu (34 + 2 * s) 3) (mu (34 + 2 * s) 1) fo (mu (34 + 2 * s) 2) i ∧ mu2 = ab_up mu 0 8 (lkX (mu (34 + 2 * s) 3) (mu (34 + 2 * s) 1) fo (mu (34 + 2 * s) 2) i))) := by
  refine ab_enter hV.1 (by decide) rfl (Nat.le_of_ble_eq_true rfl) ?_
  intro X B E
  have B : CX X l rm_X7_put RX7 cX7_put wsX7_put 6 V ShX := B
  show AW X V ShX 6 0 [some (.ref (aL V 0)), some (.int (nI s)), some (.int fo), some (.int i), some (.int v), none] [] mu
  have q3 := shS hs
  have q4 := shSi hs
  refine a_iload_n B dX7_put_0 rfl ?_
  refine a_callSi B k_X7_put_113 (c_X7_isSheet hV) rfl rfl (Nat.le_of_ble_eq_true rfl) dX7_put_1 (fun r1 mu1 h1 => ?_)
  obtain ⟨rfl, rfl⟩ := h1
  refine a_if_eq_f (tgt := 14) B dX7_put_4 (by decide) (bI_n0.mpr (inB_nI (n := 3) (by omega) (by decide))) ?_
  refine a_iload_n B dX7_put_7 rfl ?_
  refine a_callSi B k_X7_put_220 (c_X7_isForm hV) rfl rfl (Nat.le_of_ble_eq_true rfl) dX7_put_8 (fun r8 mu8 h8 => ?_)
  obtain ⟨rfl, rfl⟩ := h8
  refine a_if_ne_t (tgt := 17) B dX7_put_11 (by decide) (bI_n0.mpr hfo) ?_
  refine a_aload_n B dX7_put_17 rfl ?_
  refine a_getr B fl_X7_put_23 (by first | rfl | assumption) rfl dX7_put_18 ?_
  refine a_iload_n B dX7_put_21 rfl ?_
  refine a_aald B (s) (by first | rfl | assumption) rfl rfl (elS hs) (by decide) dX7_put_22 ?_
  refine a_iload_n B dX7_put_23 rfl ?_
  refine a_iload_n B dX7_put_24 rfl ?_
  refine a_callVi B k_X7_put_228 (c_X4_findingAt hV hs) (by first | rfl | assumption) rfl rfl rfl (Nat.le_of_ble_eq_true rfl) dX7_put_25 (fun r25 mu25 h25 => ?_)
  obtain ⟨rfl, rfl⟩ := h25
  refine a_istore B dX7_put_28 (by decide) ?_
  refine a_iload B dX7_put_30 rfl ?_
  refine a_if_eq_f (tgt := 42) B dX7_put_32 (by decide) (hl) ?_
  refine a_aload_n B dX7_put_35 rfl ?_
  refine a_iload B dX7_put_36 rfl ?_
  refine a_callVi B k_X7_put_120 (c_X7_finding hV) (by first | rfl | assumption) rfl rfl rfl (Nat.le_of_ble_eq_true rfl) dX7_put_38 (fun r38 mu38 h38 => ?_)
  refine a_ireturn B E dX7_put_41 ?_
  exact h38
set_option maxHeartbeats 4000000 in
set_option maxRecDepth 100000 in
theorem c_X7_put {l : Launch} {V : ab_V} {mu : ab_mem} {s z k : Nat} {fo v : Int32} (hV : OKX V) (hs : s < 4) (hfo : inB fo 0 2 = true) (hz : mu (34 + 2 * s) 2 = nI z) (hz48 : z ≤ 48) (hk : k < z) (hl : lkX (mu (34 + 2 * s) 3) (mu (34 + 2 * s) 1) fo (mu (34 + 2 * s) 2) (nI k) = 0) : CT l V ShX yX7_put wsX7_put rm_X7_put [.ref (aL V 0), .int (nI s), .int fo, .int (nI k), .int v] mu (pI (fun r mu2 => r = 1 ∧ mu2 = ab_up mu (35 + 2 * s) k (cvF (mu (34 + 2 * s) 1) v))) := by
  refine ab_enter hV.1 (by decide) rfl (Nat.le_of_ble_eq_true rfl) ?_
  intro X B E
  have B : CX X l rm_X7_put RX7 cX7_put wsX7_put 6 V ShX := B
  show AW X V ShX 6 0 [some (.ref (aL V 0)), some (.int (nI s)), some (.int fo), some (.int (nI k)), some (.int v), none] [] mu
  have q3 := shS hs
  have q4 := shSi hs
  refine a_iload_n B dX7_put_0 rfl ?_
  refine a_callSi B k_X7_put_113 (c_X7_isSheet hV) rfl rfl (Nat.le_of_ble_eq_true rfl) dX7_put_1 (fun r1 mu1 h1 => ?_)
  obtain ⟨rfl, rfl⟩ := h1
  refine a_if_eq_f (tgt := 14) B dX7_put_4 (by decide) (bI_n0.mpr (inB_nI (n := 3) (by omega) (by decide))) ?_
  refine a_iload_n B dX7_put_7 rfl ?_
  refine a_callSi B k_X7_put_220 (c_X7_isForm hV) rfl rfl (Nat.le_of_ble_eq_true rfl) dX7_put_8 (fun r8 mu8 h8 => ?_)
  obtain ⟨rfl, rfl⟩ := h8
  refine a_if_ne_t (tgt := 17) B dX7_put_11 (by decide) (bI_n0.mpr hfo) ?_
  refine a_aload_n B dX7_put_17 rfl ?_
  refine a_getr B fl_X7_put_23 (by first | rfl | assumption) rfl dX7_put_18 ?_
  refine a_iload_n B dX7_put_21 rfl ?_
  refine a_aald B (s) (by first | rfl | assumption) rfl rfl (elS hs) (by decide) dX7_put_22 ?_
  refine a_iload_n B dX7_put_23 rfl ?_
  refine a_iload_n B dX7_put_24 rfl ?_
  refine a_callVi B k_X7_put_228 (c_X4_findingAt hV hs) (by first | rfl | assumption) rfl rfl rfl (Nat.le_of_ble_eq_true rfl) dX7_put_25 (fun r25 mu25 h25 => ?_)
  obtain ⟨rfl, rfl⟩ := h25
  refine a_istore B dX7_put_28 (by decide) ?_
  refine a_iload B dX7_put_30 rfl ?_
  refine a_if_eq_t (tgt := 42) B dX7_put_32 (by decide) (hl) ?_
  refine a_aload_n B dX7_put_42 rfl ?_
  refine a_getr B fl_X7_put_23 (by first | rfl | assumption) rfl dX7_put_43 ?_
  refine a_iload_n B dX7_put_46 rfl ?_
  refine a_aald B (s) (by first | rfl | assumption) rfl rfl (elS hs) (by decide) dX7_put_47 ?_
  refine a_iload_n B dX7_put_48 rfl ?_
  refine a_iload B dX7_put_49 rfl ?_
  refine a_callVv B k_X7_put_231 (c_X4_store hV hs hz hz48 hk) (by first | rfl | assumption) rfl rfl rfl (Nat.le_of_ble_eq_true rfl) dX7_put_51 (fun mu51 h51 => ?_)
  refine a_iconst (v := 1) B dX7_put_54 (by decide) ?_
  refine a_ireturn B E dX7_put_55 ?_
  exact ⟨rfl, h51⟩
set_option maxHeartbeats 4000000 in
set_option maxRecDepth 100000 in
theorem c_X7_put_bad {l : Launch} {V : ab_V} {mu : ab_mem} {a fo i v : Int32} (hV : OKX V) (hbad : ¬ (inB a 0 3 = true ∧ inB fo 0 2 = true)) : CT l V ShX yX7_put wsX7_put rm_X7_put [.ref (aL V 0), .int a, .int fo, .int i, .int v] mu (pI (fun r mu2 => r = -2 ∧ mu = mu2)) := by
  refine ab_enter hV.1 (by decide) rfl (Nat.le_of_ble_eq_true rfl) ?_
  intro X B E
  have B : CX X l rm_X7_put RX7 cX7_put wsX7_put 6 V ShX := B
  show AW X V ShX 6 0 [some (.ref (aL V 0)), some (.int a), some (.int fo), some (.int i), some (.int v), none] [] mu
  refine a_iload_n B dX7_put_0 rfl ?_
  refine a_callSi B k_X7_put_113 (c_X7_isSheet hV) rfl rfl (Nat.le_of_ble_eq_true rfl) dX7_put_1 (fun r1 mu1 h1 => ?_)
  obtain ⟨rfl, rfl⟩ := h1
  refine a_if_eq (tgt := 14) B dX7_put_4 (by decide) (fun c4 => ?_) (fun c4 => ?_)
  · refine a_bipush (v := -2) B dX7_put_14 (by decide) ?_
    refine a_ireturn B E dX7_put_16 ?_
    exact ⟨rfl, rfl⟩
  · refine a_iload_n B dX7_put_7 rfl ?_
    refine a_callSi B k_X7_put_220 (c_X7_isForm hV) rfl rfl (Nat.le_of_ble_eq_true rfl) dX7_put_8 (fun r8 mu8 h8 => ?_)
    obtain ⟨rfl, rfl⟩ := h8
    refine a_if_ne (tgt := 17) B dX7_put_11 (by decide) (fun c11 => ?_) (fun c11 => ?_)
    · exfalso
      simp_all [bI_0, bI_n0]
    · refine a_bipush (v := -2) B dX7_put_14 (by decide) ?_
      refine a_ireturn B E dX7_put_16 ?_
      exact ⟨rfl, rfl⟩
abbrev rm_X7_get : Room := { frames := 2, cells := 0, slots := 0, locals := 44 }
set_option maxRecDepth 20000 in
theorem us_X7_get_4 : ∀ w ∈ u_ws RX4 TX4 4, w ∈ wsX7_get := by decide +kernel
set_option maxRecDepth 20000 in
theorem us_X7_get_7 : ∀ w ∈ u_ws RX7 TX7 9, w ∈ wsX7_get := by decide +kernel
set_option maxRecDepth 20000 in
theorem fl_X7_get_23 : FL RX7 wsX7_get 23 7 2 := ⟨RX7, TX7, 9, rfl, by decide, us_X7_get_7, by decide +kernel⟩
set_option maxRecDepth 20000 in
theorem fl_X7_get_235 : FL RX7 wsX7_get 235 4 0 := ⟨RX4, TX4, 4, rfl, by decide, us_X7_get_4, by decide +kernel⟩
set_option maxRecDepth 20000 in
theorem fp_X7_get_60 : FP RX7 wsX7_get 60 7 8 .int := ⟨RX7, TX7, 9, tyX7, rfl, by decide, us_X7_get_7, by decide +kernel, tyX7_ok, nmX7, rfl, rfl⟩
theorem k_X7_get_113 : KS RX7 wsX7_get rm_X7_get 113 yX7_isSheet wsX7_isSheet rm_X7_isSheet 1 := ⟨_, _, _, _, gX7_get_X7_isSheet, rfl, rfl, rfl, by decide +kernel, by decide⟩
theorem k_X7_get_220 : KS RX7 wsX7_get rm_X7_get 220 yX7_isForm wsX7_isForm rm_X7_isForm 1 := ⟨_, _, _, _, gX7_get_X7_isForm, rfl, rfl, rfl, by decide +kernel, by decide⟩
theorem k_X7_get_228 : KV RX7 wsX7_get rm_X7_get 228 RX4 yX4_findingAt wsX4_findingAt rm_X4_findingAt 2 := ⟨_, _, _, _, gX7_get_X4_findingAt, rfl, rfl, rfl, by decide +kernel, by decide⟩

set_option maxHeartbeats 4000000 in
set_option maxRecDepth 100000 in
theorem c_X7_get_no {l : Launch} {V : ab_V} {mu : ab_mem} {s : Nat} {fo i : Int32} (hV : OKX V) (hs : s < 4) (hfo : inB fo 0 2 = true) (hl : ¬ lkX (mu (34 + 2 * s) 3) (mu (34 + 2 * s) 1) fo (mu (34 + 2 * s) 2) i = 0) : CT l V ShX yX7_get wsX7_get rm_X7_get [.ref (aL V 0), .int (nI s), .int fo, .int i] mu (pI (fun r mu2 => r = -2147483648 ∧ mu2 = ab_up mu 0 8 (lkX (mu (34 + 2 * s) 3) (mu (34 + 2 * s) 1) fo (mu (34 + 2 * s) 2) i))) := by
  refine ab_enter hV.1 (by decide) rfl (Nat.le_of_ble_eq_true rfl) ?_
  intro X B E
  have B : CX X l rm_X7_get RX7 cX7_get wsX7_get 5 V ShX := B
  show AW X V ShX 5 0 [some (.ref (aL V 0)), some (.int (nI s)), some (.int fo), some (.int i), none] [] mu
  have q3 := shS hs
  have q4 := shSi hs
  refine a_iload_n B dX7_get_0 rfl ?_
  refine a_callSi B k_X7_get_113 (c_X7_isSheet hV) rfl rfl (Nat.le_of_ble_eq_true rfl) dX7_get_1 (fun r1 mu1 h1 => ?_)
  obtain ⟨rfl, rfl⟩ := h1
  refine a_if_eq_f (tgt := 14) B dX7_get_4 (by decide) (bI_n0.mpr (inB_nI (n := 3) (by omega) (by decide))) ?_
  refine a_iload_n B dX7_get_7 rfl ?_
  refine a_callSi B k_X7_get_220 (c_X7_isForm hV) rfl rfl (Nat.le_of_ble_eq_true rfl) dX7_get_8 (fun r8 mu8 h8 => ?_)
  obtain ⟨rfl, rfl⟩ := h8
  refine a_if_ne_t (tgt := 17) B dX7_get_11 (by decide) (bI_n0.mpr hfo) ?_
  refine a_aload_n B dX7_get_17 rfl ?_
  refine a_getr B fl_X7_get_23 (by first | rfl | assumption) rfl dX7_get_18 ?_
  refine a_iload_n B dX7_get_21 rfl ?_
  refine a_aald B (s) (by first | rfl | assumption) rfl rfl (elS hs) (by decide) dX7_get_22 ?_
  refine a_iload_n B dX7_get_23 rfl ?_
  refine a_iload_n B dX7_get_24 rfl ?_
  refine a_callVi B k_X7_get_228 (c_X4_findingAt hV hs) (by first | rfl | assumption) rfl rfl rfl (Nat.le_of_ble_eq_true rfl) dX7_get_25 (fun r25 mu25 h25 => ?_)
  obtain ⟨rfl, rfl⟩ := h25
  refine a_istore B dX7_get_28 (by decide) ?_
  refine a_iload B dX7_get_30 rfl ?_
  refine a_if_eq_f (tgt := 44) B dX7_get_32 (by decide) (hl) ?_
  refine a_aload_n B dX7_get_35 rfl ?_
  refine a_iload B dX7_get_36 rfl ?_
  refine a_put B fp_X7_get_60 (by first | rfl | assumption) rfl rfl rfl dX7_get_38 ?_
  refine a_ldc (v := -2147483648) B (by decide +kernel) dX7_get_41 ?_
  refine a_ireturn B E dX7_get_43 ?_
  exact ⟨rfl, rfl⟩
set_option maxHeartbeats 4000000 in
set_option maxRecDepth 100000 in
theorem c_X7_get {l : Launch} {V : ab_V} {mu : ab_mem} {s k : Nat} {fo : Int32} (hV : OKX V) (hs : s < 4) (hfo : inB fo 0 2 = true) (hk : k < 48) (hl : lkX (mu (34 + 2 * s) 3) (mu (34 + 2 * s) 1) fo (mu (34 + 2 * s) 2) (nI k) = 0) : CT l V ShX yX7_get wsX7_get rm_X7_get [.ref (aL V 0), .int (nI s), .int fo, .int (nI k)] mu (pI (fun r mu2 => r = mu (35 + 2 * s) k ∧ mu = mu2)) := by
  refine ab_enter hV.1 (by decide) rfl (Nat.le_of_ble_eq_true rfl) ?_
  intro X B E
  have B : CX X l rm_X7_get RX7 cX7_get wsX7_get 5 V ShX := B
  show AW X V ShX 5 0 [some (.ref (aL V 0)), some (.int (nI s)), some (.int fo), some (.int (nI k)), none] [] mu
  have q3 := shS hs
  have q4 := shSi hs
  refine a_iload_n B dX7_get_0 rfl ?_
  refine a_callSi B k_X7_get_113 (c_X7_isSheet hV) rfl rfl (Nat.le_of_ble_eq_true rfl) dX7_get_1 (fun r1 mu1 h1 => ?_)
  obtain ⟨rfl, rfl⟩ := h1
  refine a_if_eq_f (tgt := 14) B dX7_get_4 (by decide) (bI_n0.mpr (inB_nI (n := 3) (by omega) (by decide))) ?_
  refine a_iload_n B dX7_get_7 rfl ?_
  refine a_callSi B k_X7_get_220 (c_X7_isForm hV) rfl rfl (Nat.le_of_ble_eq_true rfl) dX7_get_8 (fun r8 mu8 h8 => ?_)
  obtain ⟨rfl, rfl⟩ := h8
  refine a_if_ne_t (tgt := 17) B dX7_get_11 (by decide) (bI_n0.mpr hfo) ?_
  refine a_aload_n B dX7_get_17 rfl ?_
  refine a_getr B fl_X7_get_23 (by first | rfl | assumption) rfl dX7_get_18 ?_
  refine a_iload_n B dX7_get_21 rfl ?_
  refine a_aald B (s) (by first | rfl | assumption) rfl rfl (elS hs) (by decide) dX7_get_22 ?_
  refine a_iload_n B dX7_get_23 rfl ?_
  refine a_iload_n B dX7_get_24 rfl ?_
  refine a_callVi B k_X7_get_228 (c_X4_findingAt hV hs) (by first | rfl | assumption) rfl rfl rfl (Nat.le_of_ble_eq_true rfl) dX7_get_25 (fun r25 mu25 h25 => ?_)
  obtain ⟨rfl, rfl⟩ := h25
  refine a_istore B dX7_get_28 (by decide) ?_
  refine a_iload B dX7_get_30 rfl ?_
  refine a_if_eq_t (tgt := 44) B dX7_get_32 (by decide) (hl) ?_
  refine a_aload_n B dX7_get_44 rfl ?_
  refine a_getr B fl_X7_get_23 (by first | rfl | assumption) rfl dX7_get_45 ?_
  refine a_iload_n B dX7_get_48 rfl ?_
  refine a_aald B (s) (by first | rfl | assumption) rfl rfl (elS hs) (by decide) dX7_get_49 ?_
  refine a_getr B fl_X7_get_235 (by first | rfl | assumption) rfl dX7_get_50 ?_
  refine a_iload_n B dX7_get_53 rfl ?_
  refine a_ialdN B (k) (by first | rfl | assumption) rfl (by omega) (by decide) dX7_get_54 ?_
  refine a_ireturn B E dX7_get_55 ?_
  exact ⟨rfl, rfl⟩
set_option maxHeartbeats 4000000 in
set_option maxRecDepth 100000 in
theorem c_X7_get_bad {l : Launch} {V : ab_V} {mu : ab_mem} {a fo i : Int32} (hV : OKX V) (hbad : ¬ (inB a 0 3 = true ∧ inB fo 0 2 = true)) : CT l V ShX yX7_get wsX7_get rm_X7_get [.ref (aL V 0), .int a, .int fo, .int i] mu (pI (fun r mu2 => r = -2147483648 ∧ mu = mu2)) := by
  refine ab_enter hV.1 (by decide) rfl (Nat.le_of_ble_eq_true rfl) ?_
  intro X B E
  have B : CX X l rm_X7_get RX7 cX7_get wsX7_get 5 V ShX := B
  show AW X V ShX 5 0 [some (.ref (aL V 0)), some (.int a), some (.int fo), some (.int i), none] [] mu
  refine a_iload_n B dX7_get_0 rfl ?_
  refine a_callSi B k_X7_get_113 (c_X7_isSheet hV) rfl rfl (Nat.le_of_ble_eq_true rfl) dX7_get_1 (fun r1 mu1 h1 => ?_)
  obtain ⟨rfl, rfl⟩ := h1
  refine a_if_eq (tgt := 14) B dX7_get_4 (by decide) (fun c4 => ?_) (fun c4 => ?_)
  · refine a_ldc (v := -2147483648) B (by decide +kernel) dX7_get_14 ?_
    refine a_ireturn B E dX7_get_16 ?_
    exact ⟨rfl, rfl⟩
  · refine a_iload_n B dX7_get_7 rfl ?_
    refine a_callSi B k_X7_get_220 (c_X7_isForm hV) rfl rfl (Nat.le_of_ble_eq_true rfl) dX7_get_8 (fun r8 mu8 h8 => ?_)
    obtain ⟨rfl, rfl⟩ := h8
    refine a_if_ne (tgt := 17) B dX7_get_11 (by decide) (fun c11 => ?_) (fun c11 => ?_)
    · exfalso
      simp_all [bI_0, bI_n0]
    · refine a_ldc (v := -2147483648) B (by decide +kernel) dX7_get_14 ?_
      refine a_ireturn B E dX7_get_16 ?_
      exact ⟨rfl, rfl⟩
abbrev rm_X7_read : Room := { frames := 3, cells := 0, slots := 0, locals := 65 }
set_option maxRecDepth 20000 in
theorem us_X7_read_4 : ∀ w ∈ u_ws RX4 TX4 4, w ∈ wsX7_read := by decide +kernel
set_option maxRecDepth 20000 in
theorem us_X7_read_7 : ∀ w ∈ u_ws RX7 TX7 9, w ∈ wsX7_read := by decide +kernel
set_option maxRecDepth 20000 in
theorem fl_X7_read_11 : FL RX7 wsX7_read 11 7 0 := ⟨RX7, TX7, 9, rfl, by decide, us_X7_read_7, by decide +kernel⟩
set_option maxRecDepth 20000 in
theorem fl_X7_read_23 : FL RX7 wsX7_read 23 7 2 := ⟨RX7, TX7, 9, rfl, by decide, us_X7_read_7, by decide +kernel⟩
set_option maxRecDepth 20000 in
theorem fl_X7_read_116 : FL RX7 wsX7_read 116 4 3 := ⟨RX4, TX4, 4, rfl, by decide, us_X7_read_4, by decide +kernel⟩
theorem k_X7_read_66 : KS RX7 wsX7_read rm_X7_read 66 yX7_isGeneral wsX7_isGeneral rm_X7_isGeneral 1 := ⟨_, _, _, _, gX7_read_X7_isGeneral, rfl, rfl, rfl, by decide +kernel, by decide⟩
theorem k_X7_read_113 : KS RX7 wsX7_read rm_X7_read 113 yX7_isSheet wsX7_isSheet rm_X7_isSheet 1 := ⟨_, _, _, _, gX7_read_X7_isSheet, rfl, rfl, rfl, by decide +kernel, by decide⟩
theorem k_X7_read_120 : KV RX7 wsX7_read rm_X7_read 120 RX7 yX7_finding wsX7_finding rm_X7_finding 1 := ⟨_, _, _, _, gX7_read_X7_finding, rfl, rfl, rfl, by decide +kernel, by decide⟩
theorem k_X7_read_123 : KV RX7 wsX7_read rm_X7_read 123 RX1 yX1_takeMenu wsX1_takeMenu rm_X1_takeMenu 1 := ⟨_, _, _, _, gX7_read_X1_takeMenu, rfl, rfl, rfl, by decide +kernel, by decide⟩

set_option maxHeartbeats 4000000 in
set_option maxRecDepth 100000 in
theorem c_X7_read {l : Launch} {V : ab_V} {mu : ab_mem} {s g z : Nat} (hV : OKX V) (hs : s < 4) (hg : g < 3) (hz48 : z ≤ 48) (hz : mu (34 + 2 * s) 2 = nI z) (hth : mu (34 + 2 * s) 3 = 0) : CT l V ShX yX7_read wsX7_read rm_X7_read [.ref (aL V 0), .int (nI s), .int (nI g)] mu (pI (fun r mu2 => r = nI (rdF (mu (35 + 2 * s)) 0 (min z 24)) ∧ mu2 = tkX mu g s (rdF (mu (35 + 2 * s)) 0 (min z 24)))) := by
  refine ab_enter hV.1 (by decide) rfl (Nat.le_of_ble_eq_true rfl) ?_
  intro X B E
  have B : CX X l rm_X7_read RX7 cX7_read wsX7_read 4 V ShX := B
  show AW X V ShX 4 0 [some (.ref (aL V 0)), some (.int (nI s)), some (.int (nI g)), none] [] mu
  have q3 := shS hs
  have q4 := shSi hs
  have q1 := shG hg
  have q2 := shGm hg
  refine a_iload_n B dX7_read_0 rfl ?_
  refine a_callSi B k_X7_read_113 (c_X7_isSheet hV) rfl rfl (Nat.le_of_ble_eq_true rfl) dX7_read_1 (fun r1 mu1 h1 => ?_)
  obtain ⟨rfl, rfl⟩ := h1
  refine a_if_eq_f (tgt := 14) B dX7_read_4 (by decide) (bI_n0.mpr (inB_nI (n := 3) (by omega) (by decide))) ?_
  refine a_iload_n B dX7_read_7 rfl ?_
  refine a_callSi B k_X7_read_66 (c_X7_isGeneral hV) rfl rfl (Nat.le_of_ble_eq_true rfl) dX7_read_8 (fun r8 mu8 h8 => ?_)
  obtain ⟨rfl, rfl⟩ := h8
  refine a_if_ne_t (tgt := 17) B dX7_read_11 (by decide) (bI_n0.mpr (inB_nI (n := 2) (by omega) (by decide))) ?_
  refine a_aload_n B dX7_read_17 rfl ?_
  refine a_getr B fl_X7_read_23 (by first | rfl | assumption) rfl dX7_read_18 ?_
  refine a_iload_n B dX7_read_21 rfl ?_
  refine a_aald B (s) (by first | rfl | assumption) rfl rfl (elS hs) (by decide) dX7_read_22 ?_
  refine a_astore_n B dX7_read_23 (by decide) ?_
  refine a_aload_n B dX7_read_24 rfl ?_
  refine a_geti B fl_X7_read_116 (by first | rfl | assumption) rfl dX7_read_25 ?_
  refine a_if_eq_t (tgt := 37) B dX7_read_28 (by decide) (hth) ?_
  refine a_aload_n B dX7_read_37 rfl ?_
  refine a_getr B fl_X7_read_11 (by first | rfl | assumption) rfl dX7_read_38 ?_
  refine a_iload_n B dX7_read_41 rfl ?_
  refine a_aald B (g) (by first | rfl | assumption) rfl rfl (elG hg) (by decide) dX7_read_42 ?_
  refine a_aload_n B dX7_read_43 rfl ?_
  refine a_callVi B k_X7_read_123 (c_X1_takeMenu hV hg hs hz48 hz) (by first | rfl | assumption) rfl rfl rfl (Nat.le_of_ble_eq_true rfl) dX7_read_44 (fun r44 mu44 h44 => ?_)
  refine a_ireturn B E dX7_read_47 ?_
  exact h44
set_option maxHeartbeats 4000000 in
set_option maxRecDepth 100000 in
theorem c_X7_read_no {l : Launch} {V : ab_V} {mu : ab_mem} {s g : Nat} (hV : OKX V) (hs : s < 4) (hg : g < 3) (hth : ¬ mu (34 + 2 * s) 3 = 0) : CT l V ShX yX7_read wsX7_read rm_X7_read [.ref (aL V 0), .int (nI s), .int (nI g)] mu (pI (fun r mu2 => r = -11 ∧ mu2 = ab_up mu 0 8 1)) := by
  refine ab_enter hV.1 (by decide) rfl (Nat.le_of_ble_eq_true rfl) ?_
  intro X B E
  have B : CX X l rm_X7_read RX7 cX7_read wsX7_read 4 V ShX := B
  show AW X V ShX 4 0 [some (.ref (aL V 0)), some (.int (nI s)), some (.int (nI g)), none] [] mu
  have q3 := shS hs
  have q4 := shSi hs
  refine a_iload_n B dX7_read_0 rfl ?_
  refine a_callSi B k_X7_read_113 (c_X7_isSheet hV) rfl rfl (Nat.le_of_ble_eq_true rfl) dX7_read_1 (fun r1 mu1 h1 => ?_)
  obtain ⟨rfl, rfl⟩ := h1
  refine a_if_eq_f (tgt := 14) B dX7_read_4 (by decide) (bI_n0.mpr (inB_nI (n := 3) (by omega) (by decide))) ?_
  refine a_iload_n B dX7_read_7 rfl ?_
  refine a_callSi B k_X7_read_66 (c_X7_isGeneral hV) rfl rfl (Nat.le_of_ble_eq_true rfl) dX7_read_8 (fun r8 mu8 h8 => ?_)
  obtain ⟨rfl, rfl⟩ := h8
  refine a_if_ne_t (tgt := 17) B dX7_read_11 (by decide) (bI_n0.mpr (inB_nI (n := 2) (by omega) (by decide))) ?_
  refine a_aload_n B dX7_read_17 rfl ?_
  refine a_getr B fl_X7_read_23 (by first | rfl | assumption) rfl dX7_read_18 ?_
  refine a_iload_n B dX7_read_21 rfl ?_
  refine a_aald B (s) (by first | rfl | assumption) rfl rfl (elS hs) (by decide) dX7_read_22 ?_
  refine a_astore_n B dX7_read_23 (by decide) ?_
  refine a_aload_n B dX7_read_24 rfl ?_
  refine a_geti B fl_X7_read_116 (by first | rfl | assumption) rfl dX7_read_25 ?_
  refine a_if_eq_f (tgt := 37) B dX7_read_28 (by decide) (hth) ?_
  refine a_aload_n B dX7_read_31 rfl ?_
  refine a_iconst (v := 1) B dX7_read_32 (by decide) ?_
  refine a_callVi B k_X7_read_120 (c_X7_finding hV) (by first | rfl | assumption) rfl rfl rfl (Nat.le_of_ble_eq_true rfl) dX7_read_33 (fun r33 mu33 h33 => ?_)
  refine a_ireturn B E dX7_read_36 ?_
  exact ⟨h33.1, h33.2⟩
set_option maxHeartbeats 4000000 in
set_option maxRecDepth 100000 in
theorem c_X7_read_bad {l : Launch} {V : ab_V} {mu : ab_mem} {a b : Int32} (hV : OKX V) (hbad : ¬ (inB a 0 3 = true ∧ inB b 0 2 = true)) : CT l V ShX yX7_read wsX7_read rm_X7_read [.ref (aL V 0), .int a, .int b] mu (pI (fun r mu2 => r = -2 ∧ mu = mu2)) := by
  refine ab_enter hV.1 (by decide) rfl (Nat.le_of_ble_eq_true rfl) ?_
  intro X B E
  have B : CX X l rm_X7_read RX7 cX7_read wsX7_read 4 V ShX := B
  show AW X V ShX 4 0 [some (.ref (aL V 0)), some (.int a), some (.int b), none] [] mu
  refine a_iload_n B dX7_read_0 rfl ?_
  refine a_callSi B k_X7_read_113 (c_X7_isSheet hV) rfl rfl (Nat.le_of_ble_eq_true rfl) dX7_read_1 (fun r1 mu1 h1 => ?_)
  obtain ⟨rfl, rfl⟩ := h1
  refine a_if_eq (tgt := 14) B dX7_read_4 (by decide) (fun c4 => ?_) (fun c4 => ?_)
  · refine a_bipush (v := -2) B dX7_read_14 (by decide) ?_
    refine a_ireturn B E dX7_read_16 ?_
    exact ⟨rfl, rfl⟩
  · refine a_iload_n B dX7_read_7 rfl ?_
    refine a_callSi B k_X7_read_66 (c_X7_isGeneral hV) rfl rfl (Nat.le_of_ble_eq_true rfl) dX7_read_8 (fun r8 mu8 h8 => ?_)
    obtain ⟨rfl, rfl⟩ := h8
    refine a_if_ne (tgt := 17) B dX7_read_11 (by decide) (fun c11 => ?_) (fun c11 => ?_)
    · exfalso
      simp_all [bI_0, bI_n0]
    · refine a_bipush (v := -2) B dX7_read_14 (by decide) ?_
      refine a_ireturn B E dX7_read_16 ?_
      exact ⟨rfl, rfl⟩
abbrev rm_X7_copy : Room := { frames := 2, cells := 0, slots := 0, locals := 48 }
set_option maxRecDepth 20000 in
theorem us_X7_copy_4 : ∀ w ∈ u_ws RX4 TX4 4, w ∈ wsX7_copy := by decide +kernel
set_option maxRecDepth 20000 in
theorem us_X7_copy_7 : ∀ w ∈ u_ws RX7 TX7 9, w ∈ wsX7_copy := by decide +kernel
set_option maxRecDepth 20000 in
theorem fl_X7_copy_23 : FL RX7 wsX7_copy 23 7 2 := ⟨RX7, TX7, 9, rfl, by decide, us_X7_copy_7, by decide +kernel⟩
set_option maxRecDepth 20000 in
theorem fl_X7_copy_116 : FL RX7 wsX7_copy 116 4 3 := ⟨RX4, TX4, 4, rfl, by decide, us_X7_copy_4, by decide +kernel⟩
set_option maxRecDepth 20000 in
theorem fl_X7_copy_235 : FL RX7 wsX7_copy 235 4 0 := ⟨RX4, TX4, 4, rfl, by decide, us_X7_copy_4, by decide +kernel⟩
set_option maxRecDepth 20000 in
theorem fl_X7_copy_238 : FL RX7 wsX7_copy 238 4 1 := ⟨RX4, TX4, 4, rfl, by decide, us_X7_copy_4, by decide +kernel⟩
theorem k_X7_copy_113 : KS RX7 wsX7_copy rm_X7_copy 113 yX7_isSheet wsX7_isSheet rm_X7_isSheet 1 := ⟨_, _, _, _, gX7_copy_X7_isSheet, rfl, rfl, rfl, by decide +kernel, by decide⟩
theorem k_X7_copy_120 : KV RX7 wsX7_copy rm_X7_copy 120 RX7 yX7_finding wsX7_finding rm_X7_finding 1 := ⟨_, _, _, _, gX7_copy_X7_finding, rfl, rfl, rfl, by decide +kernel, by decide⟩
theorem k_X7_copy_241 : KV RX7 wsX7_copy rm_X7_copy 241 RX4 yX4_hasItems wsX4_hasItems rm_X4_hasItems 2 := ⟨_, _, _, _, gX7_copy_X4_hasItems, rfl, rfl, rfl, by decide +kernel, by decide⟩

set_option maxHeartbeats 4000000 in
set_option maxRecDepth 100000 in
theorem c_X7_copy_bad {l : Launch} {V : ab_V} {mu : ab_mem} {a b c d e : Int32} (hV : OKX V) (hbad : ¬ (inB a 0 3 = true ∧ inB c 0 3 = true)) : CT l V ShX yX7_copy wsX7_copy rm_X7_copy [.ref (aL V 0), .int a, .int b, .int c, .int d, .int e] mu (pI (fun r mu2 => r = -2 ∧ mu = mu2)) := by
  refine ab_enter hV.1 (by decide) rfl (Nat.le_of_ble_eq_true rfl) ?_
  intro X B E
  have B : CX X l rm_X7_copy RX7 cX7_copy wsX7_copy 8 V ShX := B
  show AW X V ShX 8 0 [some (.ref (aL V 0)), some (.int a), some (.int b), some (.int c), some (.int d), some (.int e), none, none] [] mu
  refine a_iload_n B dX7_copy_0 rfl ?_
  refine a_callSi B k_X7_copy_113 (c_X7_isSheet hV) rfl rfl (Nat.le_of_ble_eq_true rfl) dX7_copy_1 (fun r1 mu1 h1 => ?_)
  obtain ⟨rfl, rfl⟩ := h1
  refine a_if_eq (tgt := 14) B dX7_copy_4 (by decide) (fun c4 => ?_) (fun c4 => ?_)
  · refine a_bipush (v := -2) B dX7_copy_14 (by decide) ?_
    refine a_ireturn B E dX7_copy_16 ?_
    exact ⟨rfl, rfl⟩
  · refine a_iload_n B dX7_copy_7 rfl ?_
    refine a_callSi B k_X7_copy_113 (c_X7_isSheet hV) rfl rfl (Nat.le_of_ble_eq_true rfl) dX7_copy_8 (fun r8 mu8 h8 => ?_)
    obtain ⟨rfl, rfl⟩ := h8
    refine a_if_ne (tgt := 17) B dX7_copy_11 (by decide) (fun c11 => ?_) (fun c11 => ?_)
    · exfalso
      simp_all [bI_0, bI_n0]
    · refine a_bipush (v := -2) B dX7_copy_14 (by decide) ?_
      refine a_ireturn B E dX7_copy_16 ?_
      exact ⟨rfl, rfl⟩
set_option maxHeartbeats 4000000 in
set_option maxRecDepth 100000 in
theorem c_X7_copy_null {l : Launch} {V : ab_V} {mu : ab_mem} {s tt : Nat} {b d e : Int32} (hV : OKX V) (hs : s < 4) (ht : tt < 4) (hth : ¬ mu (34 + 2 * s) 3 = 0 ∨ ¬ mu (34 + 2 * tt) 3 = 0) : CT l V ShX yX7_copy wsX7_copy rm_X7_copy [.ref (aL V 0), .int (nI s), .int b, .int (nI tt), .int d, .int e] mu (pI (fun r mu2 => r = -11 ∧ mu2 = ab_up mu 0 8 1)) := by
  refine ab_enter hV.1 (by decide) rfl (Nat.le_of_ble_eq_true rfl) ?_
  intro X B E
  have B : CX X l rm_X7_copy RX7 cX7_copy wsX7_copy 8 V ShX := B
  show AW X V ShX 8 0 [some (.ref (aL V 0)), some (.int (nI s)), some (.int b), some (.int (nI tt)), some (.int d), some (.int e), none, none] [] mu
  have q3 := shS hs
  have q4 := shSi hs
  have q8 := shS ht
  have q9 := shSi ht
  refine a_iload_n B dX7_copy_0 rfl ?_
  refine a_callSi B k_X7_copy_113 (c_X7_isSheet hV) rfl rfl (Nat.le_of_ble_eq_true rfl) dX7_copy_1 (fun r1 mu1 h1 => ?_)
  obtain ⟨rfl, rfl⟩ := h1
  refine a_if_eq_f (tgt := 14) B dX7_copy_4 (by decide) (bI_n0.mpr (inB_nI (n := 3) (by omega) (by decide))) ?_
  refine a_iload_n B dX7_copy_7 rfl ?_
  refine a_callSi B k_X7_copy_113 (c_X7_isSheet hV) rfl rfl (Nat.le_of_ble_eq_true rfl) dX7_copy_8 (fun r8 mu8 h8 => ?_)
  obtain ⟨rfl, rfl⟩ := h8
  refine a_if_ne_t (tgt := 17) B dX7_copy_11 (by decide) (bI_n0.mpr (inB_nI (n := 3) (by omega) (by decide))) ?_
  refine a_aload_n B dX7_copy_17 rfl ?_
  refine a_getr B fl_X7_copy_23 (by first | rfl | assumption) rfl dX7_copy_18 ?_
  refine a_iload_n B dX7_copy_21 rfl ?_
  refine a_aald B (s) (by first | rfl | assumption) rfl rfl (elS hs) (by decide) dX7_copy_22 ?_
  refine a_astore B dX7_copy_23 (by decide) ?_
  refine a_aload_n B dX7_copy_25 rfl ?_
  refine a_getr B fl_X7_copy_23 (by first | rfl | assumption) rfl dX7_copy_26 ?_
  refine a_iload_n B dX7_copy_29 rfl ?_
  refine a_aald B (tt) (by first | rfl | assumption) rfl rfl (elS ht) (by decide) dX7_copy_30 ?_
  refine a_astore B dX7_copy_31 (by decide) ?_
  refine a_aload B dX7_copy_33 rfl ?_
  refine a_geti B fl_X7_copy_116 (by first | rfl | assumption) rfl dX7_copy_35 ?_
  refine a_if_ne (tgt := 49) B dX7_copy_38 (by decide) (fun c38 => ?_) (fun c38 => ?_)
  · refine a_aload_n B dX7_copy_49 rfl ?_
    refine a_iconst (v := 1) B dX7_copy_50 (by decide) ?_
    refine a_callVi B k_X7_copy_120 (c_X7_finding hV) (by first | rfl | assumption) rfl rfl rfl (Nat.le_of_ble_eq_true rfl) dX7_copy_51 (fun r51 mu51 h51 => ?_)
    refine a_ireturn B E dX7_copy_54 ?_
    exact ⟨h51.1, h51.2⟩
  · refine a_aload B dX7_copy_41 rfl ?_
    refine a_geti B fl_X7_copy_116 (by first | rfl | assumption) rfl dX7_copy_43 ?_
    refine a_if_eq (tgt := 55) B dX7_copy_46 (by decide) (fun c46 => ?_) (fun c46 => ?_)
    · exact absurd hth (fun z => z.elim (fun y => y c38) (fun y => y c46))
    · refine a_aload_n B dX7_copy_49 rfl ?_
      refine a_iconst (v := 1) B dX7_copy_50 (by decide) ?_
      refine a_callVi B k_X7_copy_120 (c_X7_finding hV) (by first | rfl | assumption) rfl rfl rfl (Nat.le_of_ble_eq_true rfl) dX7_copy_51 (fun r51 mu51 h51 => ?_)
      refine a_ireturn B E dX7_copy_54 ?_
      exact ⟨h51.1, h51.2⟩
set_option maxHeartbeats 4000000 in
set_option maxRecDepth 100000 in
theorem c_X7_copy_store {l : Launch} {V : ab_V} {mu : ab_mem} {s tt : Nat} {b d e : Int32} (hV : OKX V) (hs : s < 4) (ht : tt < 4) (h1 : mu (34 + 2 * s) 3 = 0) (h2 : mu (34 + 2 * tt) 3 = 0) (hf : ¬ mu (34 + 2 * s) 1 = mu (34 + 2 * tt) 1) : CT l V ShX yX7_copy wsX7_copy rm_X7_copy [.ref (aL V 0), .int (nI s), .int b, .int (nI tt), .int d, .int e] mu (pI (fun r mu2 => r = -14 ∧ mu2 = ab_up mu 0 8 4)) := by
  refine ab_enter hV.1 (by decide) rfl (Nat.le_of_ble_eq_true rfl) ?_
  intro X B E
  have B : CX X l rm_X7_copy RX7 cX7_copy wsX7_copy 8 V ShX := B
  show AW X V ShX 8 0 [some (.ref (aL V 0)), some (.int (nI s)), some (.int b), some (.int (nI tt)), some (.int d), some (.int e), none, none] [] mu
  have q3 := shS hs
  have q4 := shSi hs
  have q8 := shS ht
  have q9 := shSi ht
  refine a_iload_n B dX7_copy_0 rfl ?_
  refine a_callSi B k_X7_copy_113 (c_X7_isSheet hV) rfl rfl (Nat.le_of_ble_eq_true rfl) dX7_copy_1 (fun r1 mu1 h1 => ?_)
  obtain ⟨rfl, rfl⟩ := h1
  refine a_if_eq_f (tgt := 14) B dX7_copy_4 (by decide) (bI_n0.mpr (inB_nI (n := 3) (by omega) (by decide))) ?_
  refine a_iload_n B dX7_copy_7 rfl ?_
  refine a_callSi B k_X7_copy_113 (c_X7_isSheet hV) rfl rfl (Nat.le_of_ble_eq_true rfl) dX7_copy_8 (fun r8 mu8 h8 => ?_)
  obtain ⟨rfl, rfl⟩ := h8
  refine a_if_ne_t (tgt := 17) B dX7_copy_11 (by decide) (bI_n0.mpr (inB_nI (n := 3) (by omega) (by decide))) ?_
  refine a_aload_n B dX7_copy_17 rfl ?_
  refine a_getr B fl_X7_copy_23 (by first | rfl | assumption) rfl dX7_copy_18 ?_
  refine a_iload_n B dX7_copy_21 rfl ?_
  refine a_aald B (s) (by first | rfl | assumption) rfl rfl (elS hs) (by decide) dX7_copy_22 ?_
  refine a_astore B dX7_copy_23 (by decide) ?_
  refine a_aload_n B dX7_copy_25 rfl ?_
  refine a_getr B fl_X7_copy_23 (by first | rfl | assumption) rfl dX7_copy_26 ?_
  refine a_iload_n B dX7_copy_29 rfl ?_
  refine a_aald B (tt) (by first | rfl | assumption) rfl rfl (elS ht) (by decide) dX7_copy_30 ?_
  refine a_astore B dX7_copy_31 (by decide) ?_
  refine a_aload B dX7_copy_33 rfl ?_
  refine a_geti B fl_X7_copy_116 (by first | rfl | assumption) rfl dX7_copy_35 ?_
  refine a_if_ne_f (tgt := 49) B dX7_copy_38 (by decide) (h1) ?_
  refine a_aload B dX7_copy_41 rfl ?_
  refine a_geti B fl_X7_copy_116 (by first | rfl | assumption) rfl dX7_copy_43 ?_
  refine a_if_eq_t (tgt := 55) B dX7_copy_46 (by decide) (h2) ?_
  refine a_aload B dX7_copy_55 rfl ?_
  refine a_geti B fl_X7_copy_238 (by first | rfl | assumption) rfl dX7_copy_57 ?_
  refine a_aload B dX7_copy_60 rfl ?_
  refine a_geti B fl_X7_copy_238 (by first | rfl | assumption) rfl dX7_copy_62 ?_
  refine a_icmp_eq_f (tgt := 74) B dX7_copy_65 (by decide) (hf) ?_
  refine a_aload_n B dX7_copy_68 rfl ?_
  refine a_iconst (v := 4) B dX7_copy_69 (by decide) ?_
  refine a_callVi B k_X7_copy_120 (c_X7_finding hV) (by first | rfl | assumption) rfl rfl rfl (Nat.le_of_ble_eq_true rfl) dX7_copy_70 (fun r70 mu70 h70 => ?_)
  refine a_ireturn B E dX7_copy_73 ?_
  exact ⟨h70.1, h70.2⟩
set_option maxHeartbeats 4000000 in
set_option maxRecDepth 100000 in
theorem c_X7_copy_index {l : Launch} {V : ab_V} {mu : ab_mem} {s tt : Nat} {b d e : Int32} (hV : OKX V) (hs : s < 4) (ht : tt < 4) (h1 : mu (34 + 2 * s) 3 = 0) (h2 : mu (34 + 2 * tt) 3 = 0) (hf : mu (34 + 2 * s) 1 = mu (34 + 2 * tt) 1) (hno : ¬ (hsB (mu (34 + 2 * s) 2) b e = true ∧ hsB (mu (34 + 2 * tt) 2) d e = true)) : CT l V ShX yX7_copy wsX7_copy rm_X7_copy [.ref (aL V 0), .int (nI s), .int b, .int (nI tt), .int d, .int e] mu (pI (fun r mu2 => r = -12 ∧ mu2 = ab_up mu 0 8 2)) := by
  refine ab_enter hV.1 (by decide) rfl (Nat.le_of_ble_eq_true rfl) ?_
  intro X B E
  have B : CX X l rm_X7_copy RX7 cX7_copy wsX7_copy 8 V ShX := B
  show AW X V ShX 8 0 [some (.ref (aL V 0)), some (.int (nI s)), some (.int b), some (.int (nI tt)), some (.int d), some (.int e), none, none] [] mu
  have q3 := shS hs
  have q4 := shSi hs
  have q8 := shS ht
  have q9 := shSi ht
  refine a_iload_n B dX7_copy_0 rfl ?_
  refine a_callSi B k_X7_copy_113 (c_X7_isSheet hV) rfl rfl (Nat.le_of_ble_eq_true rfl) dX7_copy_1 (fun r1 mu1 h1 => ?_)
  obtain ⟨rfl, rfl⟩ := h1
  refine a_if_eq_f (tgt := 14) B dX7_copy_4 (by decide) (bI_n0.mpr (inB_nI (n := 3) (by omega) (by decide))) ?_
  refine a_iload_n B dX7_copy_7 rfl ?_
  refine a_callSi B k_X7_copy_113 (c_X7_isSheet hV) rfl rfl (Nat.le_of_ble_eq_true rfl) dX7_copy_8 (fun r8 mu8 h8 => ?_)
  obtain ⟨rfl, rfl⟩ := h8
  refine a_if_ne_t (tgt := 17) B dX7_copy_11 (by decide) (bI_n0.mpr (inB_nI (n := 3) (by omega) (by decide))) ?_
  refine a_aload_n B dX7_copy_17 rfl ?_
  refine a_getr B fl_X7_copy_23 (by first | rfl | assumption) rfl dX7_copy_18 ?_
  refine a_iload_n B dX7_copy_21 rfl ?_
  refine a_aald B (s) (by first | rfl | assumption) rfl rfl (elS hs) (by decide) dX7_copy_22 ?_
  refine a_astore B dX7_copy_23 (by decide) ?_
  refine a_aload_n B dX7_copy_25 rfl ?_
  refine a_getr B fl_X7_copy_23 (by first | rfl | assumption) rfl dX7_copy_26 ?_
  refine a_iload_n B dX7_copy_29 rfl ?_
  refine a_aald B (tt) (by first | rfl | assumption) rfl rfl (elS ht) (by decide) dX7_copy_30 ?_
  refine a_astore B dX7_copy_31 (by decide) ?_
  refine a_aload B dX7_copy_33 rfl ?_
  refine a_geti B fl_X7_copy_116 (by first | rfl | assumption) rfl dX7_copy_35 ?_
  refine a_if_ne_f (tgt := 49) B dX7_copy_38 (by decide) (h1) ?_
  refine a_aload B dX7_copy_41 rfl ?_
  refine a_geti B fl_X7_copy_116 (by first | rfl | assumption) rfl dX7_copy_43 ?_
  refine a_if_eq_t (tgt := 55) B dX7_copy_46 (by decide) (h2) ?_
  refine a_aload B dX7_copy_55 rfl ?_
  refine a_geti B fl_X7_copy_238 (by first | rfl | assumption) rfl dX7_copy_57 ?_
  refine a_aload B dX7_copy_60 rfl ?_
  refine a_geti B fl_X7_copy_238 (by first | rfl | assumption) rfl dX7_copy_62 ?_
  refine a_icmp_eq_t (tgt := 74) B dX7_copy_65 (by decide) (hf) ?_
  refine a_aload B dX7_copy_74 rfl ?_
  refine a_iload_n B dX7_copy_76 rfl ?_
  refine a_iload B dX7_copy_77 rfl ?_
  refine a_callVi B k_X7_copy_241 (c_X4_hasItems hV hs) (by first | rfl | assumption) rfl rfl rfl (Nat.le_of_ble_eq_true rfl) dX7_copy_79 (fun r79 mu79 h79 => ?_)
  obtain ⟨rfl, rfl⟩ := h79
  refine a_if_eq (tgt := 97) B dX7_copy_82 (by decide) (fun c82 => ?_) (fun c82 => ?_)
  · refine a_aload_n B dX7_copy_97 rfl ?_
    refine a_iconst (v := 2) B dX7_copy_98 (by decide) ?_
    refine a_callVi B k_X7_copy_120 (c_X7_finding hV) (by first | rfl | assumption) rfl rfl rfl (Nat.le_of_ble_eq_true rfl) dX7_copy_99 (fun r99 mu99 h99 => ?_)
    refine a_ireturn B E dX7_copy_102 ?_
    exact ⟨h99.1, h99.2⟩
  · refine a_aload B dX7_copy_85 rfl ?_
    refine a_iload B dX7_copy_87 rfl ?_
    refine a_iload B dX7_copy_89 rfl ?_
    refine a_callVi B k_X7_copy_241 (c_X4_hasItems hV ht) (by first | rfl | assumption) rfl rfl rfl (Nat.le_of_ble_eq_true rfl) dX7_copy_91 (fun r91 mu91 h91 => ?_)
    obtain ⟨rfl, rfl⟩ := h91
    refine a_if_ne (tgt := 103) B dX7_copy_94 (by decide) (fun c94 => ?_) (fun c94 => ?_)
    · exact absurd ⟨bI_n0.mp c82, bI_n0.mp c94⟩ hno
    · refine a_aload_n B dX7_copy_97 rfl ?_
      refine a_iconst (v := 2) B dX7_copy_98 (by decide) ?_
      refine a_callVi B k_X7_copy_120 (c_X7_finding hV) (by first | rfl | assumption) rfl rfl rfl (Nat.le_of_ble_eq_true rfl) dX7_copy_99 (fun r99 mu99 h99 => ?_)
      refine a_ireturn B E dX7_copy_102 ?_
      exact ⟨h99.1, h99.2⟩
set_option maxHeartbeats 4000000 in
set_option maxRecDepth 100000 in
theorem c_X7_copy {l : Launch} {V : ab_V} {mu : ab_mem} {s tt i j n : Nat} (hV : OKX V) (hs : s < 4) (ht : tt < 4) (h1 : mu (34 + 2 * s) 3 = 0) (h2 : mu (34 + 2 * tt) 3 = 0) (hf : mu (34 + 2 * s) 1 = mu (34 + 2 * tt) 1) (h3 : hsB (mu (34 + 2 * s) 2) (nI i) (nI n) = true) (h4 : hsB (mu (34 + 2 * tt) 2) (nI j) (nI n) = true) (hi : i + n ≤ 48) (hj : j + n ≤ 48) : CT l V ShX yX7_copy wsX7_copy rm_X7_copy [.ref (aL V 0), .int (nI s), .int (nI i), .int (nI tt), .int (nI j), .int (nI n)] mu (pI (fun r mu2 => r = 1 ∧ mu2 = ab_row mu (35 + 2 * tt) (va_cpy (mu (35 + 2 * s)) (mu (35 + 2 * tt)) i j n))) := by
  refine ab_enter hV.1 (by decide) rfl (Nat.le_of_ble_eq_true rfl) ?_
  intro X B E
  have B : CX X l rm_X7_copy RX7 cX7_copy wsX7_copy 8 V ShX := B
  show AW X V ShX 8 0 [some (.ref (aL V 0)), some (.int (nI s)), some (.int (nI i)), some (.int (nI tt)), some (.int (nI j)), some (.int (nI n)), none, none] [] mu
  have q3 := shS hs
  have q4 := shSi hs
  have q8 := shS ht
  have q9 := shSi ht
  refine a_iload_n B dX7_copy_0 rfl ?_
  refine a_callSi B k_X7_copy_113 (c_X7_isSheet hV) rfl rfl (Nat.le_of_ble_eq_true rfl) dX7_copy_1 (fun r1 mu1 h1 => ?_)
  obtain ⟨rfl, rfl⟩ := h1
  refine a_if_eq_f (tgt := 14) B dX7_copy_4 (by decide) (bI_n0.mpr (inB_nI (n := 3) (by omega) (by decide))) ?_
  refine a_iload_n B dX7_copy_7 rfl ?_
  refine a_callSi B k_X7_copy_113 (c_X7_isSheet hV) rfl rfl (Nat.le_of_ble_eq_true rfl) dX7_copy_8 (fun r8 mu8 h8 => ?_)
  obtain ⟨rfl, rfl⟩ := h8
  refine a_if_ne_t (tgt := 17) B dX7_copy_11 (by decide) (bI_n0.mpr (inB_nI (n := 3) (by omega) (by decide))) ?_
  refine a_aload_n B dX7_copy_17 rfl ?_
  refine a_getr B fl_X7_copy_23 (by first | rfl | assumption) rfl dX7_copy_18 ?_
  refine a_iload_n B dX7_copy_21 rfl ?_
  refine a_aald B (s) (by first | rfl | assumption) rfl rfl (elS hs) (by decide) dX7_copy_22 ?_
  refine a_astore B dX7_copy_23 (by decide) ?_
  refine a_aload_n B dX7_copy_25 rfl ?_
  refine a_getr B fl_X7_copy_23 (by first | rfl | assumption) rfl dX7_copy_26 ?_
  refine a_iload_n B dX7_copy_29 rfl ?_
  refine a_aald B (tt) (by first | rfl | assumption) rfl rfl (elS ht) (by decide) dX7_copy_30 ?_
  refine a_astore B dX7_copy_31 (by decide) ?_
  refine a_aload B dX7_copy_33 rfl ?_
  refine a_geti B fl_X7_copy_116 (by first | rfl | assumption) rfl dX7_copy_35 ?_
  refine a_if_ne_f (tgt := 49) B dX7_copy_38 (by decide) (h1) ?_
  refine a_aload B dX7_copy_41 rfl ?_
  refine a_geti B fl_X7_copy_116 (by first | rfl | assumption) rfl dX7_copy_43 ?_
  refine a_if_eq_t (tgt := 55) B dX7_copy_46 (by decide) (h2) ?_
  refine a_aload B dX7_copy_55 rfl ?_
  refine a_geti B fl_X7_copy_238 (by first | rfl | assumption) rfl dX7_copy_57 ?_
  refine a_aload B dX7_copy_60 rfl ?_
  refine a_geti B fl_X7_copy_238 (by first | rfl | assumption) rfl dX7_copy_62 ?_
  refine a_icmp_eq_t (tgt := 74) B dX7_copy_65 (by decide) (hf) ?_
  refine a_aload B dX7_copy_74 rfl ?_
  refine a_iload_n B dX7_copy_76 rfl ?_
  refine a_iload B dX7_copy_77 rfl ?_
  refine a_callVi B k_X7_copy_241 (c_X4_hasItems hV hs) (by first | rfl | assumption) rfl rfl rfl (Nat.le_of_ble_eq_true rfl) dX7_copy_79 (fun r79 mu79 h79 => ?_)
  obtain ⟨rfl, rfl⟩ := h79
  refine a_if_eq_f (tgt := 97) B dX7_copy_82 (by decide) (bI_n0.mpr h3) ?_
  refine a_aload B dX7_copy_85 rfl ?_
  refine a_iload B dX7_copy_87 rfl ?_
  refine a_iload B dX7_copy_89 rfl ?_
  refine a_callVi B k_X7_copy_241 (c_X4_hasItems hV ht) (by first | rfl | assumption) rfl rfl rfl (Nat.le_of_ble_eq_true rfl) dX7_copy_91 (fun r91 mu91 h91 => ?_)
  obtain ⟨rfl, rfl⟩ := h91
  refine a_if_ne_t (tgt := 103) B dX7_copy_94 (by decide) (bI_n0.mpr h4) ?_
  refine a_aload B dX7_copy_103 rfl ?_
  refine a_getr B fl_X7_copy_235 (by first | rfl | assumption) rfl dX7_copy_105 ?_
  refine a_iload_n B dX7_copy_108 rfl ?_
  refine a_aload B dX7_copy_109 rfl ?_
  refine a_getr B fl_X7_copy_235 (by first | rfl | assumption) rfl dX7_copy_111 ?_
  refine a_iload B dX7_copy_114 rfl ?_
  refine a_iload B dX7_copy_116 rfl ?_
  refine a_copy B (by decide +kernel) (by decide +kernel) (by decide +kernel) (by decide +kernel) (by assumption) (by assumption) (nI_pos (by omega)) (nI_pos (by omega)) (nI_pos (by omega)) (by rw [nI_clamp (by omega), nI_clamp (by omega)]; exact hi) (by rw [nI_clamp (by omega), nI_clamp (by omega)]; exact hj) (by decide) (by decide) dX7_copy_118 ?_
  rw [nI_clamp (n := i) (by omega), nI_clamp (n := j) (by omega), nI_clamp (n := n) (by omega)]
  refine a_iconst (v := 1) B dX7_copy_121 (by decide) ?_
  refine a_ireturn B E dX7_copy_122 ?_
  exact ⟨rfl, rfl⟩
theorem pX_row {mu mu1 : ab_mem} (h : pX mu1 = pX mu) (q : Nat) (g : Nat → Int32) : pX (ab_row mu1 q g) = pX (ab_row mu q g) := by
  funext a
  have ha := congrFun h a
  simp only [pX] at ha ⊢
  split
  · rfl
  · rename_i hs
    rw [if_neg hs, if_neg hs] at ha
    by_cases e : a = q
    · subst e; rw [ab_row_s, ab_row_s]
    · rw [ab_row_o e, ab_row_o e, ha]
abbrev rm_X7_write : Room := { frames := 3, cells := 0, slots := 0, locals := 68 }
set_option maxRecDepth 20000 in
theorem us_X7_write_0 : ∀ w ∈ u_ws RX0 TX0 3, w ∈ wsX7_write := by decide +kernel
set_option maxRecDepth 20000 in
theorem us_X7_write_4 : ∀ w ∈ u_ws RX4 TX4 4, w ∈ wsX7_write := by decide +kernel
set_option maxRecDepth 20000 in
theorem us_X7_write_7 : ∀ w ∈ u_ws RX7 TX7 9, w ∈ wsX7_write := by decide +kernel
set_option maxRecDepth 20000 in
theorem fl_X7_write_23 : FL RX7 wsX7_write 23 7 2 := ⟨RX7, TX7, 9, rfl, by decide, us_X7_write_7, by decide +kernel⟩
set_option maxRecDepth 20000 in
theorem fl_X7_write_116 : FL RX7 wsX7_write 116 4 3 := ⟨RX4, TX4, 4, rfl, by decide, us_X7_write_4, by decide +kernel⟩
set_option maxRecDepth 20000 in
theorem fl_X7_write_137 : FL RX7 wsX7_write 137 0 1 := ⟨RX0, TX0, 3, rfl, by decide, us_X7_write_0, by decide +kernel⟩
set_option maxRecDepth 20000 in
theorem fl_X7_write_227 : FL RX7 wsX7_write 227 4 2 := ⟨RX4, TX4, 4, rfl, by decide, us_X7_write_4, by decide +kernel⟩
theorem k_X7_write_66 : KS RX7 wsX7_write rm_X7_write 66 yX7_isGeneral wsX7_isGeneral rm_X7_isGeneral 1 := ⟨_, _, _, _, gX7_write_X7_isGeneral, rfl, rfl, rfl, by decide +kernel, by decide⟩
theorem k_X7_write_113 : KS RX7 wsX7_write rm_X7_write 113 yX7_isSheet wsX7_isSheet rm_X7_isSheet 1 := ⟨_, _, _, _, gX7_write_X7_isSheet, rfl, rfl, rfl, by decide +kernel, by decide⟩
theorem k_X7_write_120 : KV RX7 wsX7_write rm_X7_write 120 RX7 yX7_finding wsX7_finding rm_X7_finding 1 := ⟨_, _, _, _, gX7_write_X7_finding, rfl, rfl, rfl, by decide +kernel, by decide⟩
theorem k_X7_write_130 : KV RX7 wsX7_write rm_X7_write 130 RX7 yX7_dayOf wsX7_dayOf rm_X7_dayOf 1 := ⟨_, _, _, _, gX7_write_X7_dayOf, rfl, rfl, rfl, by decide +kernel, by decide⟩
theorem k_X7_write_231 : KV RX7 wsX7_write rm_X7_write 231 RX4 yX4_store wsX4_store rm_X4_store 2 := ⟨_, _, _, _, gX7_write_X4_store, rfl, rfl, rfl, by decide +kernel, by decide⟩

set_option maxHeartbeats 4000000 in
set_option maxRecDepth 100000 in
theorem c_X7_write {l : Launch} {V : ab_V} {mu : ab_mem} {g s z : Nat} (hV : OKX V) (hi : IX mu) (hg : g < 3) (hs : s < 4) (hth : mu (34 + 2 * s) 3 = 0) (hz : mu (34 + 2 * s) 2 = nI z) (hz48 : z ≤ 48) : CT l V ShX yX7_write wsX7_write rm_X7_write [.ref (aL V 0), .int (nI g), .int (nI s)] mu (pI (fun r mu2 => r = nI (min z 24) ∧ pX mu2 = pX (ab_row mu (35 + 2 * s) (fb_put (mu (35 + 2 * s)) (fun k => cvF (mu (34 + 2 * s) 1) (lX mu g 0 99 (k + 1))) 0 (min z 24))))) := by
  refine ab_enter hV.1 (by decide) rfl (Nat.le_of_ble_eq_true rfl) ?_
  intro X B E
  have B : CX X l rm_X7_write RX7 cX7_write wsX7_write 7 V ShX := B
  show AW X V ShX 7 0 [some (.ref (aL V 0)), some (.int (nI g)), some (.int (nI s)), none, none, none, none] [] mu
  have q3 := shS hs
  have q4 := shSi hs
  have hL := DL_g hg
  have q5 := shD hL
  have q6 := shD1 hL
  have q7 := shD2 hL
  have loop : ∀ mu1, DY mu g mu1 → ∀ (m k : Nat), k + m = min z 24 → AW X V ShX 7 58 [some (.ref (aL V 0)), some (.int (nI g)), some (.int (nI s)), some (.ref (aL V (34 + 2 * s))), some (.ref (aL V (25 + 3 * g))), some (.int (nI (min z 24))), some (.int (nI k))] [] (ab_row mu1 (35 + 2 * s) (fb_put (mu1 (35 + 2 * s)) (fun k => cvF (mu (34 + 2 * s) 1) (lX mu g 0 99 (k + 1))) 0 k)) := by
    intro mu1 hD m
    induction m with
    | zero =>
      intro k hk
      refine a_iload B dX7_write_58 rfl ?_
      refine a_iload B dX7_write_60 rfl ?_
      refine a_icmp_ge_t (tgt := 85) B dX7_write_62 (by decide) (nI_le (by omega) (by omega)) ?_
      refine a_iload B dX7_write_85 rfl ?_
      refine a_ireturn B E dX7_write_87 ?_
      rw [show k = min z 24 by omega]
      exact ⟨rfl, by rw [pX_at hD.1 (35 + 2 * s) (scS hs).2]; exact pX_row hD.1 _ _⟩
    | succ m ih =>
      intro k hk
      refine a_iload B dX7_write_58 rfl ?_
      refine a_iload B dX7_write_60 rfl ?_
      refine a_icmp_ge_f (tgt := 85) B dX7_write_62 (by decide) (nI_ge (by omega) (by omega)) ?_
      refine a_aload_n B dX7_write_65 rfl ?_
      refine a_iload B dX7_write_66 rfl ?_
      refine a_aload B dX7_write_68 rfl ?_
      refine a_getr B fl_X7_write_137 (by first | rfl | assumption) rfl dX7_write_70 ?_
      refine a_iload B dX7_write_73 rfl ?_
      refine a_ialdN B (k) (by first | rfl | assumption) rfl (by omega) (by decide) dX7_write_75 ?_
      rw [ab_row_o (by omega), hD.2.2.1 k (by omega)]
      refine a_callVv B k_X7_write_231 (c_X4_store hV hs (by rw [ab_row_o (by omega), pX_at hD.1 _ (scS hs).1]; exact hz) hz48 (by omega)) (by first | rfl | assumption) rfl rfl rfl (Nat.le_of_ble_eq_true rfl) dX7_write_76 (fun mu76 h76 => ?_)
      have z2 := fb_put_succ (mu1 (35 + 2 * s)) (fun k => cvF (mu (34 + 2 * s) 1) (lX mu g 0 99 (k + 1))) 0 k
      rw [Nat.zero_add] at z2
      rw [ab_up_row, ab_row_o (by omega), pX_at hD.1 (34 + 2 * s) (scS hs).1, z2] at h76
      subst h76
      refine a_iinc (v := 1) B dX7_write_79 rfl (by decide) (by decide) ?_
      refine a_goto (tgt := 58) B dX7_write_82 (by decide) ?_
      rw [nI_1]
      exact ih (k + 1) (by omega)
  refine a_iload_n B dX7_write_0 rfl ?_
  refine a_callSi B k_X7_write_66 (c_X7_isGeneral hV) rfl rfl (Nat.le_of_ble_eq_true rfl) dX7_write_1 (fun r1 mu1 h1 => ?_)
  obtain ⟨rfl, rfl⟩ := h1
  refine a_if_eq_f (tgt := 14) B dX7_write_4 (by decide) (bI_n0.mpr (inB_nI (n := 2) (by omega) (by decide))) ?_
  refine a_iload_n B dX7_write_7 rfl ?_
  refine a_callSi B k_X7_write_113 (c_X7_isSheet hV) rfl rfl (Nat.le_of_ble_eq_true rfl) dX7_write_8 (fun r8 mu8 h8 => ?_)
  obtain ⟨rfl, rfl⟩ := h8
  refine a_if_ne_t (tgt := 17) B dX7_write_11 (by decide) (bI_n0.mpr (inB_nI (n := 3) (by omega) (by decide))) ?_
  refine a_aload_n B dX7_write_17 rfl ?_
  refine a_getr B fl_X7_write_23 (by first | rfl | assumption) rfl dX7_write_18 ?_
  refine a_iload_n B dX7_write_21 rfl ?_
  refine a_aald B (s) (by first | rfl | assumption) rfl rfl (elS hs) (by decide) dX7_write_22 ?_
  refine a_astore_n B dX7_write_23 (by decide) ?_
  refine a_aload_n B dX7_write_24 rfl ?_
  refine a_geti B fl_X7_write_116 (by first | rfl | assumption) rfl dX7_write_25 ?_
  refine a_if_eq_t (tgt := 37) B dX7_write_28 (by decide) (hth) ?_
  refine a_aload_n B dX7_write_37 rfl ?_
  refine a_iload_n B dX7_write_38 rfl ?_
  refine a_callVr B k_X7_write_130 (c_X7_dayOf hV hi hg) (by first | rfl | assumption) rfl rfl rfl (Nat.le_of_ble_eq_true rfl) dX7_write_39 (fun r39 mu39 h39 => ?_)
  obtain ⟨rfl, hD⟩ := h39
  refine a_astore B dX7_write_42 (by decide) ?_
  refine a_aload_n B dX7_write_44 rfl ?_
  refine a_geti B fl_X7_write_227 (by first | rfl | assumption) rfl dX7_write_45 ?_
  refine a_bipush (v := 24) B dX7_write_48 (by decide) ?_
  refine a_min B (by decide +kernel) (by decide +kernel) (by decide +kernel) (by decide +kernel) (by decide) (Nat.le_of_ble_eq_true rfl) dX7_write_50 ?_
  rw [pX_at hD.1 (34 + 2 * s) (scS hs).1, hz, min24 z hz48]
  refine a_istore B dX7_write_53 (by decide) ?_
  refine a_iconst (v := 0) B dX7_write_55 (by decide) ?_
  refine a_istore B dX7_write_56 (by decide) ?_
  have z2 := loop mu39 hD (min z 24) 0 (by omega)
  rw [fb_put_0, ab_row_self] at z2
  exact z2
set_option maxHeartbeats 4000000 in
set_option maxRecDepth 100000 in
theorem c_X7_write_no {l : Launch} {V : ab_V} {mu : ab_mem} {g s : Nat} (hV : OKX V) (hg : g < 3) (hs : s < 4) (hth : ¬ mu (34 + 2 * s) 3 = 0) : CT l V ShX yX7_write wsX7_write rm_X7_write [.ref (aL V 0), .int (nI g), .int (nI s)] mu (pI (fun r mu2 => r = -11 ∧ mu2 = ab_up mu 0 8 1)) := by
  refine ab_enter hV.1 (by decide) rfl (Nat.le_of_ble_eq_true rfl) ?_
  intro X B E
  have B : CX X l rm_X7_write RX7 cX7_write wsX7_write 7 V ShX := B
  show AW X V ShX 7 0 [some (.ref (aL V 0)), some (.int (nI g)), some (.int (nI s)), none, none, none, none] [] mu
  have q3 := shS hs
  have q4 := shSi hs
  refine a_iload_n B dX7_write_0 rfl ?_
  refine a_callSi B k_X7_write_66 (c_X7_isGeneral hV) rfl rfl (Nat.le_of_ble_eq_true rfl) dX7_write_1 (fun r1 mu1 h1 => ?_)
  obtain ⟨rfl, rfl⟩ := h1
  refine a_if_eq_f (tgt := 14) B dX7_write_4 (by decide) (bI_n0.mpr (inB_nI (n := 2) (by omega) (by decide))) ?_
  refine a_iload_n B dX7_write_7 rfl ?_
  refine a_callSi B k_X7_write_113 (c_X7_isSheet hV) rfl rfl (Nat.le_of_ble_eq_true rfl) dX7_write_8 (fun r8 mu8 h8 => ?_)
  obtain ⟨rfl, rfl⟩ := h8
  refine a_if_ne_t (tgt := 17) B dX7_write_11 (by decide) (bI_n0.mpr (inB_nI (n := 3) (by omega) (by decide))) ?_
  refine a_aload_n B dX7_write_17 rfl ?_
  refine a_getr B fl_X7_write_23 (by first | rfl | assumption) rfl dX7_write_18 ?_
  refine a_iload_n B dX7_write_21 rfl ?_
  refine a_aald B (s) (by first | rfl | assumption) rfl rfl (elS hs) (by decide) dX7_write_22 ?_
  refine a_astore_n B dX7_write_23 (by decide) ?_
  refine a_aload_n B dX7_write_24 rfl ?_
  refine a_geti B fl_X7_write_116 (by first | rfl | assumption) rfl dX7_write_25 ?_
  refine a_if_eq_f (tgt := 37) B dX7_write_28 (by decide) (hth) ?_
  refine a_aload_n B dX7_write_31 rfl ?_
  refine a_iconst (v := 1) B dX7_write_32 (by decide) ?_
  refine a_callVi B k_X7_write_120 (c_X7_finding hV) (by first | rfl | assumption) rfl rfl rfl (Nat.le_of_ble_eq_true rfl) dX7_write_33 (fun r33 mu33 h33 => ?_)
  refine a_ireturn B E dX7_write_36 ?_
  exact ⟨h33.1, h33.2⟩
set_option maxHeartbeats 4000000 in
set_option maxRecDepth 100000 in
theorem c_X7_write_bad {l : Launch} {V : ab_V} {mu : ab_mem} {a b : Int32} (hV : OKX V) (hbad : ¬ (inB a 0 2 = true ∧ inB b 0 3 = true)) : CT l V ShX yX7_write wsX7_write rm_X7_write [.ref (aL V 0), .int a, .int b] mu (pI (fun r mu2 => r = -2 ∧ mu = mu2)) := by
  refine ab_enter hV.1 (by decide) rfl (Nat.le_of_ble_eq_true rfl) ?_
  intro X B E
  have B : CX X l rm_X7_write RX7 cX7_write wsX7_write 7 V ShX := B
  show AW X V ShX 7 0 [some (.ref (aL V 0)), some (.int a), some (.int b), none, none, none, none] [] mu
  refine a_iload_n B dX7_write_0 rfl ?_
  refine a_callSi B k_X7_write_66 (c_X7_isGeneral hV) rfl rfl (Nat.le_of_ble_eq_true rfl) dX7_write_1 (fun r1 mu1 h1 => ?_)
  obtain ⟨rfl, rfl⟩ := h1
  refine a_if_eq (tgt := 14) B dX7_write_4 (by decide) (fun c4 => ?_) (fun c4 => ?_)
  · refine a_bipush (v := -2) B dX7_write_14 (by decide) ?_
    refine a_ireturn B E dX7_write_16 ?_
    exact ⟨rfl, rfl⟩
  · refine a_iload_n B dX7_write_7 rfl ?_
    refine a_callSi B k_X7_write_113 (c_X7_isSheet hV) rfl rfl (Nat.le_of_ble_eq_true rfl) dX7_write_8 (fun r8 mu8 h8 => ?_)
    obtain ⟨rfl, rfl⟩ := h8
    refine a_if_ne (tgt := 17) B dX7_write_11 (by decide) (fun c11 => ?_) (fun c11 => ?_)
    · exfalso
      simp_all [bI_0, bI_n0]
    · refine a_bipush (v := -2) B dX7_write_14 (by decide) ?_
      refine a_ireturn B E dX7_write_16 ?_
      exact ⟨rfl, rfl⟩
