/-! each method, on both sides -/
def OPI (l : Launch) (V U : ab_V) (yx ym : MethodName) (wx wm : List Cond) (rx rm : Room) (As : List Value) (x m : ab_mem) : Prop := ∃ PX PM : Int32 → ab_mem → Prop, CT l V ShX yx wx rx (.ref (aL V 0) :: As) x (pI PX) ∧ CT l U ShM ym wm rm (.ref (aL U 0) :: As) m (pI PM) ∧ ∀ r1 x2 r2 m2, PX r1 x2 → PM r2 m2 → r1 = r2 ∧ RR x2 m2
def OPL (l : Launch) (V U : ab_V) (yx ym : MethodName) (wx wm : List Cond) (rx rm : Room) (As : List Value) (x m : ab_mem) : Prop := ∃ PX PM : Int64 → ab_mem → Prop, CT l V ShX yx wx rx (.ref (aL V 0) :: As) x (pL PX) ∧ CT l U ShM ym wm rm (.ref (aL U 0) :: As) m (pL PM) ∧ ∀ r1 x2 r2 m2, PX r1 x2 → PM r2 m2 → r1 = r2 ∧ RR x2 m2
section OPS
variable {l : Launch} {V U : ab_V} {yx ym : MethodName} {wx wm : List Cond} {rx rm : Room} {As : List Value} {x m : ab_mem}
theorem op_same {v w : Int32} (h : RR x m) (c1 : CT l V ShX yx wx rx (.ref (aL V 0) :: As) x (pI (fun r mu2 => r = v ∧ x = mu2))) (c2 : CT l U ShM ym wm rm (.ref (aL U 0) :: As) m (pI (fun r mu2 => r = w ∧ m = mu2))) (e : v = w) : OPI l V U yx ym wx wm rx rm As x m :=
  ⟨_, _, c1, c2, fun r1 x2 r2 m2 a b => ⟨a.1.trans (e.trans b.1.symm), by rw [← a.2, ← b.2]; exact h⟩⟩
theorem op_q {v w : Int32} (h : RR x m) (c1 : CT l V ShX yx wx rx (.ref (aL V 0) :: As) x (pI (fun r mu2 => r = v ∧ pX mu2 = pX x))) (c2 : CT l U ShM ym wm rm (.ref (aL U 0) :: As) m (pI (fun r mu2 => r = w ∧ pM mu2 = pM m))) (e : v = w) : OPI l V U yx ym wx wm rx rm As x m :=
  ⟨_, _, c1, c2, fun r1 x2 r2 m2 a b => ⟨a.1.trans (e.trans b.1.symm), RR_p a.2 b.2 h⟩⟩
theorem op_w {v w : Int32} {x3 m3 : ab_mem} (c1 : CT l V ShX yx wx rx (.ref (aL V 0) :: As) x (pI (fun r mu2 => r = v ∧ mu2 = x3))) (c2 : CT l U ShM ym wm rm (.ref (aL U 0) :: As) m (pI (fun r mu2 => r = w ∧ mu2 = m3))) (e : v = w) (h : RR x3 m3) : OPI l V U yx ym wx wm rx rm As x m :=
  ⟨_, _, c1, c2, fun r1 x2 r2 m2 a b => ⟨a.1.trans (e.trans b.1.symm), by rw [a.2, b.2]; exact h⟩⟩
theorem opl_same {v w : Int64} (h : RR x m) (c1 : CT l V ShX yx wx rx (.ref (aL V 0) :: As) x (pL (fun r mu2 => r = v ∧ x = mu2))) (c2 : CT l U ShM ym wm rm (.ref (aL U 0) :: As) m (pL (fun r mu2 => r = w ∧ m = mu2))) (e : v = w) : OPL l V U yx ym wx wm rx rm As x m :=
  ⟨_, _, c1, c2, fun r1 x2 r2 m2 a b => ⟨a.1.trans (e.trans b.1.symm), by rw [← a.2, ← b.2]; exact h⟩⟩
theorem opl_q {v w : Int64} (h : RR x m) (c1 : CT l V ShX yx wx rx (.ref (aL V 0) :: As) x (pL (fun r mu2 => r = v ∧ pX mu2 = pX x))) (c2 : CT l U ShM ym wm rm (.ref (aL U 0) :: As) m (pL (fun r mu2 => r = w ∧ pM mu2 = pM m))) (e : v = w) : OPL l V U yx ym wx wm rx rm As x m :=
  ⟨_, _, c1, c2, fun r1 x2 r2 m2 a b => ⟨a.1.trans (e.trans b.1.symm), RR_p a.2 b.2 h⟩⟩
theorem op_type (hV : OKX V) (hU : OKM U) (h : RR x m) (a b : Int32) : OPI l V U yX7_type yX8_type wsX7_type wsX8_type rm_X7_type rm_X8_type [.int a, .int b] x m := by
  by_cases hb : inB a 0 2 = true ∧ inB b 0 255 = true
  · obtain ⟨g, hg, rfl⟩ := inB_of 2 (by decide) hb.1
    obtain ⟨n1, n2, n3⟩ := RR_n0 h (g := g) (by omega)
    refine ⟨_, _, c_X7_type hV (by omega) hb.2 n3 n1, c_X8_type hU (by omega) hb.2 n3 n2, fun r1 x2 r2 m2 p q => ?_⟩
    by_cases e : nM m g = 24
    · rw [if_pos e] at p q
      exact ⟨p.1.trans q.1.symm, by rw [← p.2, ← q.2]; exact h⟩
    · rw [if_neg e] at p q
      exact ⟨p.1.trans q.1.symm, by rw [p.2, q.2]; exact RR_type h (by omega) rfl (by omega)⟩
  · exact op_same h (c_X7_type_bad hV hb) (c_X8_type_bad hU hb) rfl
theorem op_wipe (hV : OKX V) (hU : OKM U) (h : RR x m) (a : Int32) : OPI l V U yX7_wipe yX8_wipe wsX7_wipe wsX8_wipe rm_X7_wipe rm_X8_wipe [.int a] x m := by
  by_cases hb : inB a 0 2 = true
  · obtain ⟨g, hg, rfl⟩ := inB_of 2 (by decide) hb
    exact op_w (c_X7_wipe hV (by omega)) (c_X8_wipe hU (by omega)) (R_g h (by omega)).2.1 (RR_wipe h (by omega))
  · exact op_same h (c_X7_wipe_bad hV hb) (c_X8_wipe_bad hU hb) rfl
theorem op_fault (hV : OKX V) (hU : OKM U) (h : RR x m) (a : Int32) : OPI l V U yX7_fault yX8_fault wsX7_fault wsX8_fault rm_X7_fault rm_X8_fault [.int a] x m := by
  by_cases hb : inB a 0 2 = true
  · obtain ⟨g, hg, rfl⟩ := inB_of 2 (by decide) hb
    obtain ⟨n1, n2, n3⟩ := RR_n0 h (g := g) (by omega)
    exact op_same h (c_X7_fault hV (by omega)) (c_X8_fault hU (by omega) n3 n2) (flt_eq h (by omega))
  · exact op_same h (c_X7_fault_bad hV hb) (c_X8_fault_bad hU hb) rfl
theorem op_undo (hV : OKX V) (hU : OKM U) (h : RR x m) (a : Int32) : OPI l V U yX7_undo yX8_undo wsX7_undo wsX8_undo rm_X7_undo rm_X8_undo [.int a] x m := by
  by_cases hb : inB a 0 2 = true
  · obtain ⟨g, hg, rfl⟩ := inB_of 2 (by decide) hb
    obtain ⟨n1, n2, n3⟩ := RR_n0 h (g := g) (by omega)
    refine ⟨_, _, c_X7_undo hV (by omega) n3 n1, c_X8_undo hU (by omega) n3 n2, fun r1 x2 r2 m2 p q => ?_⟩
    by_cases e : nM m g = 0
    · rw [if_pos e] at p q
      exact ⟨p.1.trans q.1.symm, by rw [← p.2, ← q.2]; exact h⟩
    · rw [if_neg e] at p q
      exact ⟨p.1.trans q.1.symm, by rw [p.2, q.2]; exact RR_undo h (by omega) rfl e⟩
  · exact op_same h (c_X7_undo_bad hV hb) (c_X8_undo_bad hU hb) rfl
theorem op_calm (hV : OKX V) (hU : OKM U) (h : RR x m) (a b : Int32) : OPI l V U yX7_calm yX8_calm wsX7_calm wsX8_calm rm_X7_calm rm_X8_calm [.int a, .int b] x m := by
  by_cases hb : inB a 0 2 = true ∧ inB b 0 9 = true
  · obtain ⟨g, hg, rfl⟩ := inB_of 2 (by decide) hb.1
    obtain ⟨c, hc, rfl⟩ := inB_of 9 (by decide) hb.2
    exact op_w (c_X7_calm hV (by omega) hb.2) (c_X8_calm hU (by omega) hb.2) (R_g h (by omega)).1 (RR_calm h (by omega) hc)
  · exact op_same h (c_X7_calm_bad hV hb) (c_X8_calm_bad hU hb) rfl
theorem op_does (hV : OKX V) (hU : OKM U) (h : RR x m) (a b : Int32) : OPI l V U yX7_does yX8_does wsX7_does wsX8_does rm_X7_does rm_X8_does [.int a, .int b] x m := by
  by_cases hb : inB a 0 6 = true ∧ inB b (-9) 9 = true
  · obtain ⟨g, hg, rfl⟩ := inB_of 6 (by decide) hb.1
    exact op_w (c_X7_does hV (by omega) hb.2) (c_X8_does hU (by omega) hb.2) (by rw [R_e h]) (RR_does h)
  · exact op_same h (c_X7_does_bad hV hb) (c_X8_does_bad hU hb) rfl
theorem op_price (hV : OKX V) (hU : OKM U) (h : RR x m) (a b : Int32) : OPI l V U yX7_price yX8_price wsX7_price wsX8_price rm_X7_price rm_X8_price [.int a, .int b] x m := by
  by_cases hb : inB a 0 6 = true ∧ inB b 0 99 = true
  · obtain ⟨g, hg, rfl⟩ := inB_of 6 (by decide) hb.1
    exact op_w (c_X7_price hV (by omega) hb.2) (c_X8_price hU (by omega) hb.2) (by rw [R_pr h]) (RR_price h hb.2)
  · exact op_same h (c_X7_price_bad hV hb) (c_X8_price_bad hU hb) rfl
theorem op_set (hV : OKX V) (hU : OKM U) (h : RR x m) (a b : Int32) : OPI l V U yX7_set yX8_set wsX7_set wsX8_set rm_X7_set rm_X8_set [.int a, .int b] x m := by
  cases hb : inB a 0 2 with
  | false => exact op_same h (c_X7_set_b hV hb) (c_X8_set_b hU hb) rfl
  | true =>
    rcases inB_2 hb with rfl | rfl | rfl
    · cases hv : inB b 1 10 with
      | false => exact op_same h (c_X7_set_b0 hV hv) (c_X8_set_b0 hU hv) rfl
      | true => exact op_w (c_X7_set_0 hV hv) (c_X8_set_0 hU hv) (R_mk h) (RR_set0 h)
    · cases hv : inB b 0 2 with
      | false => exact op_same h (c_X7_set_b1 hV hv) (c_X8_set_b1 hU hv) rfl
      | true => exact op_w (c_X7_set_1 hV hv) (c_X8_set_1 hU hv) (R_lw h) (RR_set1 h hv)
    · cases hv : inB b 0 126 with
      | false => exact op_same h (c_X7_set_b2 hV (Or.inl hv)) (c_X8_set_b2 hU hv) rfl
      | true =>
        obtain ⟨k, hk, rfl⟩ := inB_of 126 (by decide) hv
        have par : nI k - nI k / 2 * 2 = nI (k % 2) := by
          have e2 : nI k / 2 = nI (k / 2) := pk_div (d := 2) (by omega) (by decide) (by decide)
          rw [e2, show (2 : Int32) = nI 2 from rfl, pk_mul, pk_sub (by omega)]
          congr 1
          omega
        rcases (show k % 2 = 0 ∨ k % 2 = 1 by omega) with e | e
        · have p0 : nI k - nI k / 2 * 2 = 0 := by rw [par, e]; rfl
          exact op_w (c_X7_set_2 hV hv p0) (c_X8_set_2 hU hv (by rw [p0]; decide)) (R_fb h) (RR_set2 h hv)
        · have p1 : nI k - nI k / 2 * 2 = 1 := by rw [par, e]; rfl
          exact op_same h (c_X7_set_b2 hV (Or.inr (by rw [p1]; decide))) (c_X8_set_b3 hU hv p1) rfl
theorem op_dish (hV : OKX V) (hU : OKM U) (h : RR x m) (a b : Int32) : OPI l V U yX7_dish yX8_dish wsX7_dish wsX8_dish rm_X7_dish rm_X8_dish [.int a, .int b] x m := by
  by_cases hb : inB a 0 2 = true ∧ inB b 0 23 = true
  · obtain ⟨g, hg, rfl⟩ := inB_of 2 (by decide) hb.1
    obtain ⟨k, hk, rfl⟩ := inB_of 23 (by decide) hb.2
    exact op_q h (c_X7_dish hV (R_ix h) (by omega) (by omega)) (c_X8_dish hU (R_im h) (by omega) (by omega)) (by rw [d_eq h (by omega)])
  · exact op_same h (c_X7_dish_bad hV hb) (c_X8_dish_bad hU hb) rfl
theorem op_level (hV : OKX V) (hU : OKM U) (h : RR x m) (a b : Int32) : OPI l V U yX7_level yX8_level wsX7_level wsX8_level rm_X7_level rm_X8_level [.int a, .int b] x m := by
  by_cases hb : inB a 0 2 = true ∧ inB b 0 23 = true
  · obtain ⟨g, hg, rfl⟩ := inB_of 2 (by decide) hb.1
    obtain ⟨k, hk, rfl⟩ := inB_of 23 (by decide) hb.2
    exact op_q h (c_X7_level hV (R_ix h) (by omega) (by omega)) (c_X8_level hU (R_im h) (by omega) (by omega)) (by rw [l_eq h (by omega)])
  · exact op_same h (c_X7_level_bad hV hb) (c_X8_level_bad hU hb) rfl
theorem op_hiccups (hV : OKX V) (hU : OKM U) (h : RR x m) (a : Int32) : OPI l V U yX7_hiccups yX8_hiccups wsX7_hiccups wsX8_hiccups rm_X7_hiccups rm_X8_hiccups [.int a] x m := by
  by_cases hb : inB a 0 2 = true
  · obtain ⟨g, hg, rfl⟩ := inB_of 2 (by decide) hb
    exact op_q h (c_X7_hiccups hV (R_ix h) (by omega)) (c_X8_hiccups hU (R_im h) (by omega)) (by rw [b_eq h (by omega)])
  · exact op_same h (c_X7_hiccups_bad hV hb) (c_X8_hiccups_bad hU hb) rfl
theorem op_broken (hV : OKX V) (hU : OKM U) (h : RR x m) (a : Int32) : OPI l V U yX7_broken yX8_broken wsX7_broken wsX8_broken rm_X7_broken rm_X8_broken [.int a] x m := by
  by_cases hb : inB a 0 2 = true
  · exact op_q h (c_X7_broken hV (R_ix h) hb) (c_X8_broken hU (R_im h) hb) (bk_eq h hb)
  · exact op_same h (c_X7_broken_bad hV hb) (c_X8_broken_bad hU hb) rfl
theorem op_judged (hV : OKX V) (hU : OKM U) (h : RR x m) : OPI l V U yX7_judged yX8_judged wsX7_judged wsX8_judged rm_X7_judged rm_X8_judged [] x m := by
  exact op_q h (c_X7_judged hV (R_ix h)) (c_X8_judged hU (R_im h)) (by rw [bkn_eq h])
theorem op_armistice (hV : OKX V) (hU : OKM U) (h : RR x m) (a : Int32) : OPI l V U yX7_armistice yX8_armistice wsX7_armistice wsX8_armistice rm_X7_armistice rm_X8_armistice [.int a] x m := by
  by_cases hb : inB a 0 1 = true
  · exact op_q h (c_X7_armistice hV (R_ix h) hb) (c_X8_armistice hU (R_im h) hb) (by rw [bkn_eq h, ar_eq])
  · exact op_same h (c_X7_armistice_bad hV hb) (c_X8_armistice_bad hU hb) rfl
theorem op_led (hV : OKX V) (hU : OKM U) (h : RR x m) (a b : Int32) : OPI l V U yX7_led yX8_led wsX7_led wsX8_led rm_X7_led rm_X8_led [.int a, .int b] x m := by
  by_cases hb : inB a 0 2 = true ∧ inB b 0 23 = true
  · obtain ⟨g, hg, rfl⟩ := inB_of 2 (by decide) hb.1
    obtain ⟨k, hk, rfl⟩ := inB_of 23 (by decide) hb.2
    exact op_q h (c_X7_led hV (R_ix h) (by omega) (by omega)) (c_X8_led hU (R_im h) (by omega) (by omega)) (led_eq h (by omega) (by omega))
  · exact op_same h (c_X7_led_bad hV hb) (c_X8_led_bad hU hb) rfl
theorem op_odds (hV : OKX V) (hU : OKM U) (h : RR x m) (a b w : Int32) : OPL l V U yX7_odds yX8_odds wsX7_odds wsX8_odds rm_X7_odds rm_X8_odds [.int a, .int b, .int w] x m := by
  by_cases hb : inB a 0 23 = true ∧ inB b 0 7 = true ∧ ¬ 24 < a + b ∧ inB w 0 1 = true
  · obtain ⟨p, hp, rfl⟩ := inB_of 23 (by decide) hb.1
    obtain ⟨q, hq, rfl⟩ := inB_of 7 (by decide) hb.2.1
    have hs : p + q ≤ 24 := by
      have := hb.2.2.1
      rw [nI_add, show (24 : Int32) = nI 24 from rfl, nI_ltI (by decide) (by omega)] at this
      omega
    exact opl_q h (c_X7_odds hV (R_ix h) (by omega) (by omega) hs hb.2.2.2) (c_X8_odds hU (R_im h) (by omega) (by omega) hs hb.2.2.2) (by rw [o_eq h])
  · exact opl_same h (c_X7_odds_bad hV hb) (c_X8_odds_bad hU hb) rfl
theorem op_heard (hV : OKX V) (hU : OKM U) (h : RR x m) (a b : Int32) : OPI l V U yX7_heard yX8_heard wsX7_heard wsX8_heard rm_X7_heard rm_X8_heard [.int a, .int b] x m := by
  by_cases hb : inB a 0 2 = true
  · obtain ⟨g, hg, rfl⟩ := inB_of 2 (by decide) hb
    exact op_q h (c_X7_heard hV (R_ix h) (by omega)) (c_X8_heard hU (R_im h) (by omega)) (by rw [ch_eq h (by omega)])
  · exact op_same h (c_X7_heard_bad hV hb) (c_X8_heard_bad hU hb) rfl
theorem op_quiet (hV : OKX V) (hU : OKM U) (h : RR x m) (a b c i : Int32) : OPI l V U yX7_quiet yX8_quiet wsX7_quiet wsX8_quiet rm_X7_quiet rm_X8_quiet [.int a, .int b, .int c, .int i] x m := by
  by_cases hb : inB a 0 1 = true ∧ inB b 0 23 = true ∧ inB c 0 23 = true ∧ b ≤ c ∧ inB i (-1) (c - b) = true
  · obtain ⟨g, hg, rfl⟩ := inB_of 1 (by decide) hb.1
    obtain ⟨f, hf, rfl⟩ := inB_of 23 (by decide) hb.2.1
    obtain ⟨t, ht, rfl⟩ := inB_of 23 (by decide) hb.2.2.1
    have hft : f ≤ t := (nI_leI (by omega) (by omega)).mp hb.2.2.2.1
    have hi := hb.2.2.2.2
    rw [pk_sub hft, inB_t] at hi
    have hii : i = -1 ∨ ∃ ii, ii < t + 1 - f ∧ i = nI ii := by
      by_cases h0 : i < 0
      · left
        have h1 := hi.1
        rw [fa_le] at h1
        rw [fa_lt] at h0
        apply Int32.toInt_inj.mp
        have : (0 : Int32).toInt = 0 := rfl
        have : (-1 : Int32).toInt = -1 := rfl
        omega
      · obtain ⟨j, hj, rfl⟩ := nI_of h0
        have h2 := (nI_leI hj (by omega)).mp hi.2
        exact Or.inr ⟨j, by omega, rfl⟩
    exact op_q h (c_X7_quiet hV (R_ix h) (by omega) hft (by omega) hii) (c_X8_quiet hU (R_im h) (R_po h) (by omega) hft (by omega) hii) (by unfold oM; rw [R_e h, R_pr h, R_mk h, R_lw h, R_fb h, b_eq h (g := 1 - g) (by omega), lv_eq h (g := g) (by omega)])
  · refine op_same h (c_X7_quiet_bad hV hb) (c_X8_quiet_bad hU (fun q => hb ?_)) rfl
    obtain ⟨q1, q2, q3, q4⟩ := q
    rw [inB_t] at q2 q3
    refine ⟨q1, inB_t.mpr q2, inB_t.mpr ⟨Int32.le_trans q2.1 q3.1, q3.2⟩, q3.1, q4⟩
theorem op_force (hV : OKX V) (hU : OKM U) (h : RR x m) (a b w : Int32) : OPI l V U yX7_force yX8_force wsX7_force wsX8_force rm_X7_force rm_X8_force [.int a, .int b, .int w] x m := by
  by_cases hb : inB a 0 23 = true ∧ inB b 1 12 = true ∧ ¬ 24 < a + b ∧ inB w 0 1 = true
  · obtain ⟨p, hp, rfl⟩ := inB_of 23 (by decide) hb.1
    have hb2 := inB_t.mp hb.2.1
    obtain ⟨q, hq, rfl⟩ := inB_of (a := b) 12 (by decide) (inB_t.mpr ⟨Int32.le_trans (by decide) hb2.1, hb2.2⟩)
    have hq1 : 1 ≤ q := (nI_leI (a := 1) (by decide) (by omega)).mp hb2.1
    have hs : p + q ≤ 24 := by
      have := hb.2.2.1
      rw [nI_add, show (24 : Int32) = nI 24 from rfl, nI_ltI (by decide) (by omega)] at this
      omega
    exact op_q h (c_X7_force hV (R_ix h) (by omega) hq1 (by omega) hs hb.2.2.2) (c_X8_force hU (R_im h) (by omega) hq1 (by omega) hs hb.2.2.2) (by rw [R_e h, R_mk h, R_fb h, lv_eq h (g := 0) (by decide), lv_eq h (g := 1) (by decide)])
  · exact op_same h (c_X7_force_bad hV hb) (c_X8_force_bad hU hb) rfl
theorem op_seen (hV : OKX V) (hU : OKM U) (h : RR x m) (a b w : Int32) : OPI l V U yX7_seen yX8_seen wsX7_seen wsX8_seen rm_X7_seen rm_X8_seen [.int a, .int b, .int w] x m := by
  by_cases hb : inB a 0 2 = true ∧ inB b 0 23 = true ∧ inB w 0 1 = true
  · obtain ⟨g, hg, rfl⟩ := inB_of 2 (by decide) hb.1
    obtain ⟨q, hq, rfl⟩ := inB_of 23 (by decide) hb.2.1
    obtain ⟨k, hk, k1, k2⟩ := RR_k0 h
    obtain ⟨w1, rfl⟩ : ∃ c, w = bI c := by
      obtain ⟨j, hj, rfl⟩ := inB_of 1 (by decide) hb.2.2
      rcases (show j = 0 ∨ j = 1 by omega) with rfl | rfl
      · exact ⟨false, rfl⟩
      · exact ⟨true, rfl⟩
    refine ⟨_, _, c_X7_seen hV (by omega) (by omega) hb.2.2 hk k1, c_X8_seen hU (by omega) (by omega) hb.2.2 hk k2, fun r1 x2 r2 m2 p q => ?_⟩
    by_cases e : k = 8
    · rw [if_pos e] at p q
      exact ⟨p.1.trans q.1.symm, by rw [← p.2, ← q.2]; exact h⟩
    · rw [if_neg e] at p q
      exact ⟨p.1.trans q.1.symm, by rw [p.2, q.2]; exact RR_seen h (by omega) (by omega) (by omega)⟩
  · exact op_same h (c_X7_seen_bad hV hb) (c_X8_seen_bad hU hb) rfl
theorem op_forget (hV : OKX V) (hU : OKM U) (h : RR x m) : OPI l V U yX7_forget yX8_forget wsX7_forget wsX8_forget rm_X7_forget rm_X8_forget [] x m := by
  exact op_w (c_X7_forget hV) (c_X8_forget hU) (R_si h).2.2.2 (RR_forget h)
theorem op_fright (hV : OKX V) (hU : OKM U) (h : RR x m) (a : Int32) : OPI l V U yX7_fright yX8_fright wsX7_fright wsX8_fright rm_X7_fright rm_X8_fright [.int a] x m := by
  by_cases hb : inB a 0 2 = true
  · obtain ⟨g, hg, rfl⟩ := inB_of 2 (by decide) hb
    exact op_q h (c_X7_fright hV (R_ix h) (by omega)) (c_X8_fright hU (R_im h) (by omega)) (by rw [ag_eq h (by omega)])
  · exact op_same h (c_X7_fright_bad hV hb) (c_X8_fright_bad hU hb) rfl
theorem op_unlike (hV : OKX V) (hU : OKM U) (h : RR x m) : OPI l V U yX7_unlike yX8_unlike wsX7_unlike wsX8_unlike rm_X7_unlike rm_X8_unlike [] x m := by
  exact op_q h (c_X7_unlike hV (R_ix h)) (c_X8_unlike hU (R_im h)) (us_eq h)
theorem pa_eq (h : RR x m) {g : Nat} (hg : g < 2) : H_pa g x = G_pa g m := by
  unfold H_pa G_pa
  rw [b_eq h (g := g) (by omega), b_eq h (g := 1 - g) (by omega), B24_mask]
  exact B24_and (fun i h1 h2 => by rw [b_and, bM_24 i h1 h2, Bool.and_false])
theorem op_parrot (hV : OKX V) (hU : OKM U) (h : RR x m) (a : Int32) : OPI l V U yX7_parrot yX8_parrot wsX7_parrot wsX8_parrot rm_X7_parrot rm_X8_parrot [.int a] x m := by
  by_cases hb : inB a 0 1 = true
  · obtain ⟨g, hg, rfl⟩ := inB_of 1 (by decide) hb
    exact op_q h (c_X7_parrot hV (R_ix h) (by omega)) (c_X8_parrot hU (R_im h) (by omega)) (pa_eq h (by omega))
  · exact op_same h (c_X7_parrot_bad hV hb) (c_X8_parrot_bad hU hb) rfl
theorem op_trained (hV : OKX V) (hU : OKM U) (h : RR x m) (a b : Int32) : OPI l V U yX7_trained yX8_trained wsX7_trained wsX8_trained rm_X7_trained rm_X8_trained [.int a, .int b] x m := by
  by_cases hb : inB a 0 1 = true ∧ inB b 0 2 = true
  · obtain ⟨g, hg, rfl⟩ := inB_of 1 (by decide) hb.1
    exact op_q h (c_X7_trained hV (R_ix h) (by omega) hb.2) (c_X8_trained hU (R_im h) (by omega) hb.2) (by rw [tr_eq2 h (by omega), lk_eq h (by omega)])
  · exact op_same h (c_X7_trained_bad hV hb) (c_X8_trained_bad hU hb) rfl
theorem op_count (hV : OKX V) (hU : OKM U) (h : RR x m) (a : Int32) : OPI l V U yX7_count yX8_count wsX7_count wsX8_count rm_X7_count rm_X8_count [.int a] x m := by
  by_cases hb : inB a 0 8 = true
  · obtain ⟨j, hj, rfl⟩ := inB_of 8 (by decide) hb
    exact op_same h (c_X7_countN hV (R_ix h) (by omega)) (c_X8_countN hU (R_im h) (by omega)) (cnt_eq h j)
  · have hb2 : a.toInt < 0 ∨ 8 < a.toInt := by
      rw [inB_t, fa_le, fa_le] at hb
      have e0 : (0 : Int32).toInt = 0 := rfl
      have e8 : (8 : Int32).toInt = 8 := rfl
      omega
    exact op_same h (c_X7_count_bad hV hb2) (c_X8_count_bad hU hb2) rfl
end OPS
