/-! the reference's constructor -/
def hp_cal : Nat → Int32 := (upd (upd (upd (fun _ => 0) 0 3) 1 3) 2 3)
def muM0 : ab_mem := fun i => ([hp_one 5 5, hp_zer, hp_zer, hp_cal, hp_eff, hp_pri, hp_zer, hp_zer, hp_zer, hp_zer, hp_zer, hp_zer, hp_zer, hp_zer, hp_zer, hp_zer, hp_zer, hp_zer, hp_zer] : List (Nat → Int32)).getD i hp_zer
abbrev rm_X8_init : Room := { frames := 1, cells := 18, slots := 2065, locals := 12 }
set_option maxRecDepth 20000 in
theorem us_X8_init_8 : ∀ w ∈ u_ws RX8 TX8 23, w ∈ wsX8_init := by decide +kernel
set_option maxRecDepth 20000 in
theorem fl_X8_init_16 : FL RX8 wsX8_init 16 8 2 := ⟨RX8, TX8, 23, rfl, by decide, us_X8_init_8, by decide +kernel⟩
set_option maxRecDepth 20000 in
theorem fl_X8_init_19 : FL RX8 wsX8_init 19 8 3 := ⟨RX8, TX8, 23, rfl, by decide, us_X8_init_8, by decide +kernel⟩
set_option maxRecDepth 20000 in
theorem fl_X8_init_22 : FL RX8 wsX8_init 22 8 4 := ⟨RX8, TX8, 23, rfl, by decide, us_X8_init_8, by decide +kernel⟩
set_option maxRecDepth 20000 in
theorem fq_X8_init_7 : FQ RX8 wsX8_init 7 8 0 (tyX8 0) := ⟨RX8, TX8, 23, tyX8, rfl, by decide, us_X8_init_8, by decide +kernel, tyX8_ok, nmX8, rfl, rfl, rfl⟩
set_option maxRecDepth 20000 in
theorem fq_X8_init_13 : FQ RX8 wsX8_init 13 8 1 (tyX8 1) := ⟨RX8, TX8, 23, tyX8, rfl, by decide, us_X8_init_8, by decide +kernel, tyX8_ok, nmX8, rfl, rfl, rfl⟩
set_option maxRecDepth 20000 in
theorem fq_X8_init_16 : FQ RX8 wsX8_init 16 8 2 (tyX8 2) := ⟨RX8, TX8, 23, tyX8, rfl, by decide, us_X8_init_8, by decide +kernel, tyX8_ok, nmX8, rfl, rfl, rfl⟩
set_option maxRecDepth 20000 in
theorem fq_X8_init_19 : FQ RX8 wsX8_init 19 8 3 (tyX8 3) := ⟨RX8, TX8, 23, tyX8, rfl, by decide, us_X8_init_8, by decide +kernel, tyX8_ok, nmX8, rfl, rfl, rfl⟩
set_option maxRecDepth 20000 in
theorem fq_X8_init_22 : FQ RX8 wsX8_init 22 8 4 (tyX8 4) := ⟨RX8, TX8, 23, tyX8, rfl, by decide, us_X8_init_8, by decide +kernel, tyX8_ok, nmX8, rfl, rfl, rfl⟩
set_option maxRecDepth 20000 in
theorem fq_X8_init_25 : FQ RX8 wsX8_init 25 8 8 (tyX8 8) := ⟨RX8, TX8, 23, tyX8, rfl, by decide, us_X8_init_8, by decide +kernel, tyX8_ok, nmX8, rfl, rfl, rfl⟩
set_option maxRecDepth 20000 in
theorem fq_X8_init_28 : FQ RX8 wsX8_init 28 8 9 (tyX8 9) := ⟨RX8, TX8, 23, tyX8, rfl, by decide, us_X8_init_8, by decide +kernel, tyX8_ok, nmX8, rfl, rfl, rfl⟩
set_option maxRecDepth 20000 in
theorem fq_X8_init_31 : FQ RX8 wsX8_init 31 8 10 (tyX8 10) := ⟨RX8, TX8, 23, tyX8, rfl, by decide, us_X8_init_8, by decide +kernel, tyX8_ok, nmX8, rfl, rfl, rfl⟩
set_option maxRecDepth 20000 in
theorem fq_X8_init_34 : FQ RX8 wsX8_init 34 8 11 (tyX8 11) := ⟨RX8, TX8, 23, tyX8, rfl, by decide, us_X8_init_8, by decide +kernel, tyX8_ok, nmX8, rfl, rfl, rfl⟩
set_option maxRecDepth 20000 in
theorem fq_X8_init_37 : FQ RX8 wsX8_init 37 8 12 (tyX8 12) := ⟨RX8, TX8, 23, tyX8, rfl, by decide, us_X8_init_8, by decide +kernel, tyX8_ok, nmX8, rfl, rfl, rfl⟩
set_option maxRecDepth 20000 in
theorem fq_X8_init_41 : FQ RX8 wsX8_init 41 8 14 (tyX8 14) := ⟨RX8, TX8, 23, tyX8, rfl, by decide, us_X8_init_8, by decide +kernel, tyX8_ok, nmX8, rfl, rfl, rfl⟩
set_option maxRecDepth 20000 in
theorem fq_X8_init_44 : FQ RX8 wsX8_init 44 8 15 (tyX8 15) := ⟨RX8, TX8, 23, tyX8, rfl, by decide, us_X8_init_8, by decide +kernel, tyX8_ok, nmX8, rfl, rfl, rfl⟩
set_option maxRecDepth 20000 in
theorem fq_X8_init_47 : FQ RX8 wsX8_init 47 8 16 (tyX8 16) := ⟨RX8, TX8, 23, tyX8, rfl, by decide, us_X8_init_8, by decide +kernel, tyX8_ok, nmX8, rfl, rfl, rfl⟩
set_option maxRecDepth 20000 in
theorem fq_X8_init_50 : FQ RX8 wsX8_init 50 8 17 (tyX8 17) := ⟨RX8, TX8, 23, tyX8, rfl, by decide, us_X8_init_8, by decide +kernel, tyX8_ok, nmX8, rfl, rfl, rfl⟩
set_option maxRecDepth 20000 in
theorem fq_X8_init_53 : FQ RX8 wsX8_init 53 8 18 (tyX8 18) := ⟨RX8, TX8, 23, tyX8, rfl, by decide, us_X8_init_8, by decide +kernel, tyX8_ok, nmX8, rfl, rfl, rfl⟩
set_option maxRecDepth 20000 in
theorem fq_X8_init_56 : FQ RX8 wsX8_init 56 8 19 (tyX8 19) := ⟨RX8, TX8, 23, tyX8, rfl, by decide, us_X8_init_8, by decide +kernel, tyX8_ok, nmX8, rfl, rfl, rfl⟩
set_option maxRecDepth 20000 in
theorem fq_X8_init_59 : FQ RX8 wsX8_init 59 8 20 (tyX8 20) := ⟨RX8, TX8, 23, tyX8, rfl, by decide, us_X8_init_8, by decide +kernel, tyX8_ok, nmX8, rfl, rfl, rfl⟩
set_option maxRecDepth 20000 in
theorem fq_X8_init_62 : FQ RX8 wsX8_init 62 8 21 (tyX8 21) := ⟨RX8, TX8, 23, tyX8, rfl, by decide, us_X8_init_8, by decide +kernel, tyX8_ok, nmX8, rfl, rfl, rfl⟩
set_option maxRecDepth 20000 in
theorem fp_X8_init_65 : FP RX8 wsX8_init 65 8 5 (tyX8 5) := ⟨RX8, TX8, 23, tyX8, rfl, by decide, us_X8_init_8, by decide +kernel, tyX8_ok, nmX8, rfl, rfl⟩

set_option maxHeartbeats 8000000 in
set_option maxRecDepth 100000 in
theorem in_M0 {D : va_G} {tv : Nat → ClassId} {ev : State → Prop} {h0 q1 q2 q3 q4 q5 q6 q7 q8 q9 q10 q11 q12 q13 q14 q15 q16 q17 q18 : Nat} : ab_in [(h0, .inr (8, [.ref q1, .ref q2, .ref q3, .ref q4, .ref q5, .int 5, .int 0, .int 0, .ref q6, .ref q7, .ref q8, .ref q9, .ref q10, .int 0, .ref q11, .ref q12, .ref q13, .ref q14, .ref q15, .ref q16, .ref q17, .ref q18, .int 0])), (q1, .inl (tv 0, 3, .inl (fun _ => 0))), (q2, .inl (tv 0, 72, .inl (fun _ => 0))), (q3, .inl (tv 0, 3, .inl (upd (upd (upd (fun _ => 0) 0 3) 1 3) 2 3))), (q4, .inl (tv 0, 7, .inl (upd (upd (upd (upd (upd (upd (upd (fun _ => 0) 0 0) 1 1) 2 3) 3 (-4)) 4 (-9)) 5 (-1)) 6 (-2)))), (q5, .inl (tv 0, 7, .inl (upd (upd (upd (upd (upd (upd (upd (fun _ => 0) 0 0) 1 2) 2 9) 3 3) 4 1) 5 0) 6 5))), (q6, .inl (tv 0, 72, .inl (fun _ => 0))), (q7, .inl (tv 0, 72, .inl (fun _ => 0))), (q8, .inl (tv 0, 3, .inl (fun _ => 0))), (q9, .inl (tv 0, 250, .inl (fun _ => 0))), (q10, .inl (tv 1, 1300, .inl (fun _ => 0))), (q11, .inl (tv 0, 8, .inl (fun _ => 0))), (q12, .inl (tv 0, 8, .inl (fun _ => 0))), (q13, .inl (tv 0, 8, .inl (fun _ => 0))), (q14, .inl (tv 1, 4, .inl (fun _ => 0))), (q15, .inl (tv 0, 4, .inl (fun _ => 0))), (q16, .inl (tv 0, 4, .inl (fun _ => 0))), (q17, .inl (tv 0, 192, .inl (fun _ => 0))), (q18, .inl (tv 0, 48, .inl (fun _ => 0)))] id (D, tv, (fun k => [h0, q1, q2, q3, q4, q5, q6, q7, q8, q9, q10, q11, q12, q13, q14, q15, q16, q17, q18].getD k 0), ev) muM0 ShM := by
  refine ⟨fun k kd hk => ?_, fun i j _ _ e => e⟩
  have hlt : k < 19 := (List.getElem?_eq_some_iff.mp hk).1
  exact match k, hk, hlt with
  | 0, hk, _ => by
    cases (show some (hp_ob 8 [some 1, some 2, some 3, some 4, some 5, none, none, none, some 6, some 7, some 8, some 9, some 10, none, some 11, some 12, some 13, some 14, some 15, some 16, some 17, some 18, none] : ab_kd) = some kd from hk)
    exact rfl
  | 1, hk, _ => by
    cases (show some (hp_ar 3 : ab_kd) = some kd from hk)
    exact rfl
  | 2, hk, _ => by
    cases (show some (hp_ar 72 : ab_kd) = some kd from hk)
    exact rfl
  | 3, hk, _ => by
    cases (show some (hp_ar 3 : ab_kd) = some kd from hk)
    exact rfl
  | 4, hk, _ => by
    cases (show some (hp_ar 7 : ab_kd) = some kd from hk)
    exact rfl
  | 5, hk, _ => by
    cases (show some (hp_ar 7 : ab_kd) = some kd from hk)
    exact rfl
  | 6, hk, _ => by
    cases (show some (hp_ar 72 : ab_kd) = some kd from hk)
    exact rfl
  | 7, hk, _ => by
    cases (show some (hp_ar 72 : ab_kd) = some kd from hk)
    exact rfl
  | 8, hk, _ => by
    cases (show some (hp_ar 3 : ab_kd) = some kd from hk)
    exact rfl
  | 9, hk, _ => by
    cases (show some (hp_ar 250 : ab_kd) = some kd from hk)
    exact rfl
  | 10, hk, _ => by
    cases (show some (hp_az 1300 : ab_kd) = some kd from hk)
    exact rfl
  | 11, hk, _ => by
    cases (show some (hp_ar 8 : ab_kd) = some kd from hk)
    exact rfl
  | 12, hk, _ => by
    cases (show some (hp_ar 8 : ab_kd) = some kd from hk)
    exact rfl
  | 13, hk, _ => by
    cases (show some (hp_ar 8 : ab_kd) = some kd from hk)
    exact rfl
  | 14, hk, _ => by
    cases (show some (hp_az 4 : ab_kd) = some kd from hk)
    exact rfl
  | 15, hk, _ => by
    cases (show some (hp_ar 4 : ab_kd) = some kd from hk)
    exact rfl
  | 16, hk, _ => by
    cases (show some (hp_ar 4 : ab_kd) = some kd from hk)
    exact rfl
  | 17, hk, _ => by
    cases (show some (hp_ar 192 : ab_kd) = some kd from hk)
    exact rfl
  | 18, hk, _ => by
    cases (show some (hp_ar 48 : ab_kd) = some kd from hk)
    exact rfl
  | n + 19, _, h => absurd h (by omega)
set_option maxHeartbeats 8000000 in
set_option maxRecDepth 100000 in
theorem c_X8_init {l : Launch} {D : va_G} {tv : Nat → ClassId} {h0 : Nat} : IC l D (hp_tys tv) (fun _ => True) yX8_init wsX8_init rm_X8_init h0 8 [.null, .null, .null, .null, .null, .int 0, .int 0, .int 0, .null, .null, .null, .null, .null, .int 0, .null, .null, .null, .null, .null, .null, .null, .null, .int 0] 18 2065 (fun w => ∃ ad : Nat → Nat, ad 0 = h0 ∧ ∀ ev : State → Prop, ab_in w id (D, tv, ad, ev) muM0 ShM) := by
  refine g_enter (by decide) rfl rfl (Nat.le_of_ble_eq_true rfl) ?_
  intro X A B C E
  have B : GB X l rm_X8_init RX8 cX8_init wsX8_init 2 := B
  show GJ X (gH X D A [(h0, .inr (8, [.null, .null, .null, .null, .null, .int 0, .int 0, .int 0, .null, .null, .null, .null, .null, .int 0, .null, .null, .null, .null, .null, .null, .null, .null, .int 0]))]) 2 0 [some (.ref h0), none] [] 0 0
  refine g_aload_n B dX8_init_0 rfl ?_
  refine g_objInit B (by decide +kernel) (by decide +kernel) (by decide +kernel) (Nat.le_of_ble_eq_true rfl) (Nat.le_of_ble_eq_true rfl) dX8_init_1 ?_
  refine g_aload_n B dX8_init_4 rfl ?_
  refine g_iconst (v := 3) B dX8_init_5 (by decide) ?_
  refine g_newI (t0 := 0) (N := 3) B C rfl (by decide +kernel) (by decide) (by decide) (by decide) (Nat.le_of_ble_eq_true rfl) (Nat.le_of_ble_eq_true rfl) dX8_init_6 (fun q1 => ?_)
  show GJ X (gH X D A [(h0, .inr (8, [.null, .null, .null, .null, .null, .int 0, .int 0, .int 0, .null, .null, .null, .null, .null, .int 0, .null, .null, .null, .null, .null, .null, .null, .null, .int 0])), (q1, .inl (tv 0, 3, .inl (fun _ => 0)))]) 2 8 [some (.ref h0), none] [.ref q1, .ref h0] 1 3
  refine g_putF B C fq_X8_init_7 0 rfl rfl rfl (Nat.le_of_ble_eq_true rfl) dX8_init_8 ?_
  show GJ X (gH X D A [(h0, .inr (8, [.ref q1, .null, .null, .null, .null, .int 0, .int 0, .int 0, .null, .null, .null, .null, .null, .int 0, .null, .null, .null, .null, .null, .null, .null, .null, .int 0])), (q1, .inl (tv 0, 3, .inl (fun _ => 0)))]) 2 11 [some (.ref h0), none] [] 1 3
  refine g_aload_n B dX8_init_11 rfl ?_
  refine g_bipush (v := 72) B dX8_init_12 (by decide) ?_
  refine g_newI (t0 := 0) (N := 72) B C rfl (by decide +kernel) (by decide) (by decide) (by decide) (Nat.le_of_ble_eq_true rfl) (Nat.le_of_ble_eq_true rfl) dX8_init_14 (fun q2 => ?_)
  show GJ X (gH X D A [(h0, .inr (8, [.ref q1, .null, .null, .null, .null, .int 0, .int 0, .int 0, .null, .null, .null, .null, .null, .int 0, .null, .null, .null, .null, .null, .null, .null, .null, .int 0])), (q1, .inl (tv 0, 3, .inl (fun _ => 0))), (q2, .inl (tv 0, 72, .inl (fun _ => 0)))]) 2 16 [some (.ref h0), none] [.ref q2, .ref h0] 2 75
  refine g_putF B C fq_X8_init_13 0 rfl rfl rfl (Nat.le_of_ble_eq_true rfl) dX8_init_16 ?_
  show GJ X (gH X D A [(h0, .inr (8, [.ref q1, .ref q2, .null, .null, .null, .int 0, .int 0, .int 0, .null, .null, .null, .null, .null, .int 0, .null, .null, .null, .null, .null, .null, .null, .null, .int 0])), (q1, .inl (tv 0, 3, .inl (fun _ => 0))), (q2, .inl (tv 0, 72, .inl (fun _ => 0)))]) 2 19 [some (.ref h0), none] [] 2 75
  refine g_aload_n B dX8_init_19 rfl ?_
  refine g_iconst (v := 3) B dX8_init_20 (by decide) ?_
  refine g_newI (t0 := 0) (N := 3) B C rfl (by decide +kernel) (by decide) (by decide) (by decide) (Nat.le_of_ble_eq_true rfl) (Nat.le_of_ble_eq_true rfl) dX8_init_21 (fun q3 => ?_)
  show GJ X (gH X D A [(h0, .inr (8, [.ref q1, .ref q2, .null, .null, .null, .int 0, .int 0, .int 0, .null, .null, .null, .null, .null, .int 0, .null, .null, .null, .null, .null, .null, .null, .null, .int 0])), (q1, .inl (tv 0, 3, .inl (fun _ => 0))), (q2, .inl (tv 0, 72, .inl (fun _ => 0))), (q3, .inl (tv 0, 3, .inl (fun _ => 0)))]) 2 23 [some (.ref h0), none] [.ref q3, .ref h0] 3 78
  refine g_putF B C fq_X8_init_16 0 rfl rfl rfl (Nat.le_of_ble_eq_true rfl) dX8_init_23 ?_
  show GJ X (gH X D A [(h0, .inr (8, [.ref q1, .ref q2, .ref q3, .null, .null, .int 0, .int 0, .int 0, .null, .null, .null, .null, .null, .int 0, .null, .null, .null, .null, .null, .null, .null, .null, .int 0])), (q1, .inl (tv 0, 3, .inl (fun _ => 0))), (q2, .inl (tv 0, 72, .inl (fun _ => 0))), (q3, .inl (tv 0, 3, .inl (fun _ => 0)))]) 2 26 [some (.ref h0), none] [] 3 78
  refine g_aload_n B dX8_init_26 rfl ?_
  refine g_bipush (v := 7) B dX8_init_27 (by decide) ?_
  refine g_newI (t0 := 0) (N := 7) B C rfl (by decide +kernel) (by decide) (by decide) (by decide) (Nat.le_of_ble_eq_true rfl) (Nat.le_of_ble_eq_true rfl) dX8_init_29 (fun q4 => ?_)
  show GJ X (gH X D A [(h0, .inr (8, [.ref q1, .ref q2, .ref q3, .null, .null, .int 0, .int 0, .int 0, .null, .null, .null, .null, .null, .int 0, .null, .null, .null, .null, .null, .null, .null, .null, .int 0])), (q1, .inl (tv 0, 3, .inl (fun _ => 0))), (q2, .inl (tv 0, 72, .inl (fun _ => 0))), (q3, .inl (tv 0, 3, .inl (fun _ => 0))), (q4, .inl (tv 0, 7, .inl (fun _ => 0)))]) 2 31 [some (.ref h0), none] [.ref q4, .ref h0] 4 85
  refine g_putF B C fq_X8_init_19 0 rfl rfl rfl (Nat.le_of_ble_eq_true rfl) dX8_init_31 ?_
  show GJ X (gH X D A [(h0, .inr (8, [.ref q1, .ref q2, .ref q3, .ref q4, .null, .int 0, .int 0, .int 0, .null, .null, .null, .null, .null, .int 0, .null, .null, .null, .null, .null, .null, .null, .null, .int 0])), (q1, .inl (tv 0, 3, .inl (fun _ => 0))), (q2, .inl (tv 0, 72, .inl (fun _ => 0))), (q3, .inl (tv 0, 3, .inl (fun _ => 0))), (q4, .inl (tv 0, 7, .inl (fun _ => 0)))]) 2 34 [some (.ref h0), none] [] 4 85
  refine g_aload_n B dX8_init_34 rfl ?_
  refine g_bipush (v := 7) B dX8_init_35 (by decide) ?_
  refine g_newI (t0 := 0) (N := 7) B C rfl (by decide +kernel) (by decide) (by decide) (by decide) (Nat.le_of_ble_eq_true rfl) (Nat.le_of_ble_eq_true rfl) dX8_init_37 (fun q5 => ?_)
  show GJ X (gH X D A [(h0, .inr (8, [.ref q1, .ref q2, .ref q3, .ref q4, .null, .int 0, .int 0, .int 0, .null, .null, .null, .null, .null, .int 0, .null, .null, .null, .null, .null, .null, .null, .null, .int 0])), (q1, .inl (tv 0, 3, .inl (fun _ => 0))), (q2, .inl (tv 0, 72, .inl (fun _ => 0))), (q3, .inl (tv 0, 3, .inl (fun _ => 0))), (q4, .inl (tv 0, 7, .inl (fun _ => 0))), (q5, .inl (tv 0, 7, .inl (fun _ => 0)))]) 2 39 [some (.ref h0), none] [.ref q5, .ref h0] 5 92
  refine g_putF B C fq_X8_init_22 0 rfl rfl rfl (Nat.le_of_ble_eq_true rfl) dX8_init_39 ?_
  show GJ X (gH X D A [(h0, .inr (8, [.ref q1, .ref q2, .ref q3, .ref q4, .ref q5, .int 0, .int 0, .int 0, .null, .null, .null, .null, .null, .int 0, .null, .null, .null, .null, .null, .null, .null, .null, .int 0])), (q1, .inl (tv 0, 3, .inl (fun _ => 0))), (q2, .inl (tv 0, 72, .inl (fun _ => 0))), (q3, .inl (tv 0, 3, .inl (fun _ => 0))), (q4, .inl (tv 0, 7, .inl (fun _ => 0))), (q5, .inl (tv 0, 7, .inl (fun _ => 0)))]) 2 42 [some (.ref h0), none] [] 5 92
  refine g_aload_n B dX8_init_42 rfl ?_
  refine g_bipush (v := 72) B dX8_init_43 (by decide) ?_
  refine g_newI (t0 := 0) (N := 72) B C rfl (by decide +kernel) (by decide) (by decide) (by decide) (Nat.le_of_ble_eq_true rfl) (Nat.le_of_ble_eq_true rfl) dX8_init_45 (fun q6 => ?_)
  show GJ X (gH X D A [(h0, .inr (8, [.ref q1, .ref q2, .ref q3, .ref q4, .ref q5, .int 0, .int 0, .int 0, .null, .null, .null, .null, .null, .int 0, .null, .null, .null, .null, .null, .null, .null, .null, .int 0])), (q1, .inl (tv 0, 3, .inl (fun _ => 0))), (q2, .inl (tv 0, 72, .inl (fun _ => 0))), (q3, .inl (tv 0, 3, .inl (fun _ => 0))), (q4, .inl (tv 0, 7, .inl (fun _ => 0))), (q5, .inl (tv 0, 7, .inl (fun _ => 0))), (q6, .inl (tv 0, 72, .inl (fun _ => 0)))]) 2 47 [some (.ref h0), none] [.ref q6, .ref h0] 6 164
  refine g_putF B C fq_X8_init_25 0 rfl rfl rfl (Nat.le_of_ble_eq_true rfl) dX8_init_47 ?_
  show GJ X (gH X D A [(h0, .inr (8, [.ref q1, .ref q2, .ref q3, .ref q4, .ref q5, .int 0, .int 0, .int 0, .ref q6, .null, .null, .null, .null, .int 0, .null, .null, .null, .null, .null, .null, .null, .null, .int 0])), (q1, .inl (tv 0, 3, .inl (fun _ => 0))), (q2, .inl (tv 0, 72, .inl (fun _ => 0))), (q3, .inl (tv 0, 3, .inl (fun _ => 0))), (q4, .inl (tv 0, 7, .inl (fun _ => 0))), (q5, .inl (tv 0, 7, .inl (fun _ => 0))), (q6, .inl (tv 0, 72, .inl (fun _ => 0)))]) 2 50 [some (.ref h0), none] [] 6 164
  refine g_aload_n B dX8_init_50 rfl ?_
  refine g_bipush (v := 72) B dX8_init_51 (by decide) ?_
  refine g_newI (t0 := 0) (N := 72) B C rfl (by decide +kernel) (by decide) (by decide) (by decide) (Nat.le_of_ble_eq_true rfl) (Nat.le_of_ble_eq_true rfl) dX8_init_53 (fun q7 => ?_)
  show GJ X (gH X D A [(h0, .inr (8, [.ref q1, .ref q2, .ref q3, .ref q4, .ref q5, .int 0, .int 0, .int 0, .ref q6, .null, .null, .null, .null, .int 0, .null, .null, .null, .null, .null, .null, .null, .null, .int 0])), (q1, .inl (tv 0, 3, .inl (fun _ => 0))), (q2, .inl (tv 0, 72, .inl (fun _ => 0))), (q3, .inl (tv 0, 3, .inl (fun _ => 0))), (q4, .inl (tv 0, 7, .inl (fun _ => 0))), (q5, .inl (tv 0, 7, .inl (fun _ => 0))), (q6, .inl (tv 0, 72, .inl (fun _ => 0))), (q7, .inl (tv 0, 72, .inl (fun _ => 0)))]) 2 55 [some (.ref h0), none] [.ref q7, .ref h0] 7 236
  refine g_putF B C fq_X8_init_28 0 rfl rfl rfl (Nat.le_of_ble_eq_true rfl) dX8_init_55 ?_
  show GJ X (gH X D A [(h0, .inr (8, [.ref q1, .ref q2, .ref q3, .ref q4, .ref q5, .int 0, .int 0, .int 0, .ref q6, .ref q7, .null, .null, .null, .int 0, .null, .null, .null, .null, .null, .null, .null, .null, .int 0])), (q1, .inl (tv 0, 3, .inl (fun _ => 0))), (q2, .inl (tv 0, 72, .inl (fun _ => 0))), (q3, .inl (tv 0, 3, .inl (fun _ => 0))), (q4, .inl (tv 0, 7, .inl (fun _ => 0))), (q5, .inl (tv 0, 7, .inl (fun _ => 0))), (q6, .inl (tv 0, 72, .inl (fun _ => 0))), (q7, .inl (tv 0, 72, .inl (fun _ => 0)))]) 2 58 [some (.ref h0), none] [] 7 236
  refine g_aload_n B dX8_init_58 rfl ?_
  refine g_iconst (v := 3) B dX8_init_59 (by decide) ?_
  refine g_newI (t0 := 0) (N := 3) B C rfl (by decide +kernel) (by decide) (by decide) (by decide) (Nat.le_of_ble_eq_true rfl) (Nat.le_of_ble_eq_true rfl) dX8_init_60 (fun q8 => ?_)
  show GJ X (gH X D A [(h0, .inr (8, [.ref q1, .ref q2, .ref q3, .ref q4, .ref q5, .int 0, .int 0, .int 0, .ref q6, .ref q7, .null, .null, .null, .int 0, .null, .null, .null, .null, .null, .null, .null, .null, .int 0])), (q1, .inl (tv 0, 3, .inl (fun _ => 0))), (q2, .inl (tv 0, 72, .inl (fun _ => 0))), (q3, .inl (tv 0, 3, .inl (fun _ => 0))), (q4, .inl (tv 0, 7, .inl (fun _ => 0))), (q5, .inl (tv 0, 7, .inl (fun _ => 0))), (q6, .inl (tv 0, 72, .inl (fun _ => 0))), (q7, .inl (tv 0, 72, .inl (fun _ => 0))), (q8, .inl (tv 0, 3, .inl (fun _ => 0)))]) 2 62 [some (.ref h0), none] [.ref q8, .ref h0] 8 239
  refine g_putF B C fq_X8_init_31 0 rfl rfl rfl (Nat.le_of_ble_eq_true rfl) dX8_init_62 ?_
  show GJ X (gH X D A [(h0, .inr (8, [.ref q1, .ref q2, .ref q3, .ref q4, .ref q5, .int 0, .int 0, .int 0, .ref q6, .ref q7, .ref q8, .null, .null, .int 0, .null, .null, .null, .null, .null, .null, .null, .null, .int 0])), (q1, .inl (tv 0, 3, .inl (fun _ => 0))), (q2, .inl (tv 0, 72, .inl (fun _ => 0))), (q3, .inl (tv 0, 3, .inl (fun _ => 0))), (q4, .inl (tv 0, 7, .inl (fun _ => 0))), (q5, .inl (tv 0, 7, .inl (fun _ => 0))), (q6, .inl (tv 0, 72, .inl (fun _ => 0))), (q7, .inl (tv 0, 72, .inl (fun _ => 0))), (q8, .inl (tv 0, 3, .inl (fun _ => 0)))]) 2 65 [some (.ref h0), none] [] 8 239
  refine g_aload_n B dX8_init_65 rfl ?_
  refine g_sipush (v := 250) B dX8_init_66 (by decide) ?_
  refine g_newI (t0 := 0) (N := 250) B C rfl (by decide +kernel) (by decide) (by decide) (by decide) (Nat.le_of_ble_eq_true rfl) (Nat.le_of_ble_eq_true rfl) dX8_init_69 (fun q9 => ?_)
  show GJ X (gH X D A [(h0, .inr (8, [.ref q1, .ref q2, .ref q3, .ref q4, .ref q5, .int 0, .int 0, .int 0, .ref q6, .ref q7, .ref q8, .null, .null, .int 0, .null, .null, .null, .null, .null, .null, .null, .null, .int 0])), (q1, .inl (tv 0, 3, .inl (fun _ => 0))), (q2, .inl (tv 0, 72, .inl (fun _ => 0))), (q3, .inl (tv 0, 3, .inl (fun _ => 0))), (q4, .inl (tv 0, 7, .inl (fun _ => 0))), (q5, .inl (tv 0, 7, .inl (fun _ => 0))), (q6, .inl (tv 0, 72, .inl (fun _ => 0))), (q7, .inl (tv 0, 72, .inl (fun _ => 0))), (q8, .inl (tv 0, 3, .inl (fun _ => 0))), (q9, .inl (tv 0, 250, .inl (fun _ => 0)))]) 2 71 [some (.ref h0), none] [.ref q9, .ref h0] 9 489
  refine g_putF B C fq_X8_init_34 0 rfl rfl rfl (Nat.le_of_ble_eq_true rfl) dX8_init_71 ?_
  show GJ X (gH X D A [(h0, .inr (8, [.ref q1, .ref q2, .ref q3, .ref q4, .ref q5, .int 0, .int 0, .int 0, .ref q6, .ref q7, .ref q8, .ref q9, .null, .int 0, .null, .null, .null, .null, .null, .null, .null, .null, .int 0])), (q1, .inl (tv 0, 3, .inl (fun _ => 0))), (q2, .inl (tv 0, 72, .inl (fun _ => 0))), (q3, .inl (tv 0, 3, .inl (fun _ => 0))), (q4, .inl (tv 0, 7, .inl (fun _ => 0))), (q5, .inl (tv 0, 7, .inl (fun _ => 0))), (q6, .inl (tv 0, 72, .inl (fun _ => 0))), (q7, .inl (tv 0, 72, .inl (fun _ => 0))), (q8, .inl (tv 0, 3, .inl (fun _ => 0))), (q9, .inl (tv 0, 250, .inl (fun _ => 0)))]) 2 74 [some (.ref h0), none] [] 9 489
  refine g_aload_n B dX8_init_74 rfl ?_
  refine g_sipush (v := 1300) B dX8_init_75 (by decide) ?_
  refine g_newZ (t0 := 1) (N := 1300) B C rfl (by decide +kernel) (by decide) (by decide) (by decide) (Nat.le_of_ble_eq_true rfl) (Nat.le_of_ble_eq_true rfl) dX8_init_78 (fun q10 => ?_)
  show GJ X (gH X D A [(h0, .inr (8, [.ref q1, .ref q2, .ref q3, .ref q4, .ref q5, .int 0, .int 0, .int 0, .ref q6, .ref q7, .ref q8, .ref q9, .null, .int 0, .null, .null, .null, .null, .null, .null, .null, .null, .int 0])), (q1, .inl (tv 0, 3, .inl (fun _ => 0))), (q2, .inl (tv 0, 72, .inl (fun _ => 0))), (q3, .inl (tv 0, 3, .inl (fun _ => 0))), (q4, .inl (tv 0, 7, .inl (fun _ => 0))), (q5, .inl (tv 0, 7, .inl (fun _ => 0))), (q6, .inl (tv 0, 72, .inl (fun _ => 0))), (q7, .inl (tv 0, 72, .inl (fun _ => 0))), (q8, .inl (tv 0, 3, .inl (fun _ => 0))), (q9, .inl (tv 0, 250, .inl (fun _ => 0))), (q10, .inl (tv 1, 1300, .inl (fun _ => 0)))]) 2 80 [some (.ref h0), none] [.ref q10, .ref h0] 10 1789
  refine g_putF B C fq_X8_init_37 0 rfl rfl rfl (Nat.le_of_ble_eq_true rfl) dX8_init_80 ?_
  show GJ X (gH X D A [(h0, .inr (8, [.ref q1, .ref q2, .ref q3, .ref q4, .ref q5, .int 0, .int 0, .int 0, .ref q6, .ref q7, .ref q8, .ref q9, .ref q10, .int 0, .null, .null, .null, .null, .null, .null, .null, .null, .int 0])), (q1, .inl (tv 0, 3, .inl (fun _ => 0))), (q2, .inl (tv 0, 72, .inl (fun _ => 0))), (q3, .inl (tv 0, 3, .inl (fun _ => 0))), (q4, .inl (tv 0, 7, .inl (fun _ => 0))), (q5, .inl (tv 0, 7, .inl (fun _ => 0))), (q6, .inl (tv 0, 72, .inl (fun _ => 0))), (q7, .inl (tv 0, 72, .inl (fun _ => 0))), (q8, .inl (tv 0, 3, .inl (fun _ => 0))), (q9, .inl (tv 0, 250, .inl (fun _ => 0))), (q10, .inl (tv 1, 1300, .inl (fun _ => 0)))]) 2 83 [some (.ref h0), none] [] 10 1789
  refine g_aload_n B dX8_init_83 rfl ?_
  refine g_bipush (v := 8) B dX8_init_84 (by decide) ?_
  refine g_newI (t0 := 0) (N := 8) B C rfl (by decide +kernel) (by decide) (by decide) (by decide) (Nat.le_of_ble_eq_true rfl) (Nat.le_of_ble_eq_true rfl) dX8_init_86 (fun q11 => ?_)
  show GJ X (gH X D A [(h0, .inr (8, [.ref q1, .ref q2, .ref q3, .ref q4, .ref q5, .int 0, .int 0, .int 0, .ref q6, .ref q7, .ref q8, .ref q9, .ref q10, .int 0, .null, .null, .null, .null, .null, .null, .null, .null, .int 0])), (q1, .inl (tv 0, 3, .inl (fun _ => 0))), (q2, .inl (tv 0, 72, .inl (fun _ => 0))), (q3, .inl (tv 0, 3, .inl (fun _ => 0))), (q4, .inl (tv 0, 7, .inl (fun _ => 0))), (q5, .inl (tv 0, 7, .inl (fun _ => 0))), (q6, .inl (tv 0, 72, .inl (fun _ => 0))), (q7, .inl (tv 0, 72, .inl (fun _ => 0))), (q8, .inl (tv 0, 3, .inl (fun _ => 0))), (q9, .inl (tv 0, 250, .inl (fun _ => 0))), (q10, .inl (tv 1, 1300, .inl (fun _ => 0))), (q11, .inl (tv 0, 8, .inl (fun _ => 0)))]) 2 88 [some (.ref h0), none] [.ref q11, .ref h0] 11 1797
  refine g_putF B C fq_X8_init_41 0 rfl rfl rfl (Nat.le_of_ble_eq_true rfl) dX8_init_88 ?_
  show GJ X (gH X D A [(h0, .inr (8, [.ref q1, .ref q2, .ref q3, .ref q4, .ref q5, .int 0, .int 0, .int 0, .ref q6, .ref q7, .ref q8, .ref q9, .ref q10, .int 0, .ref q11, .null, .null, .null, .null, .null, .null, .null, .int 0])), (q1, .inl (tv 0, 3, .inl (fun _ => 0))), (q2, .inl (tv 0, 72, .inl (fun _ => 0))), (q3, .inl (tv 0, 3, .inl (fun _ => 0))), (q4, .inl (tv 0, 7, .inl (fun _ => 0))), (q5, .inl (tv 0, 7, .inl (fun _ => 0))), (q6, .inl (tv 0, 72, .inl (fun _ => 0))), (q7, .inl (tv 0, 72, .inl (fun _ => 0))), (q8, .inl (tv 0, 3, .inl (fun _ => 0))), (q9, .inl (tv 0, 250, .inl (fun _ => 0))), (q10, .inl (tv 1, 1300, .inl (fun _ => 0))), (q11, .inl (tv 0, 8, .inl (fun _ => 0)))]) 2 91 [some (.ref h0), none] [] 11 1797
  refine g_aload_n B dX8_init_91 rfl ?_
  refine g_bipush (v := 8) B dX8_init_92 (by decide) ?_
  refine g_newI (t0 := 0) (N := 8) B C rfl (by decide +kernel) (by decide) (by decide) (by decide) (Nat.le_of_ble_eq_true rfl) (Nat.le_of_ble_eq_true rfl) dX8_init_94 (fun q12 => ?_)
  show GJ X (gH X D A [(h0, .inr (8, [.ref q1, .ref q2, .ref q3, .ref q4, .ref q5, .int 0, .int 0, .int 0, .ref q6, .ref q7, .ref q8, .ref q9, .ref q10, .int 0, .ref q11, .null, .null, .null, .null, .null, .null, .null, .int 0])), (q1, .inl (tv 0, 3, .inl (fun _ => 0))), (q2, .inl (tv 0, 72, .inl (fun _ => 0))), (q3, .inl (tv 0, 3, .inl (fun _ => 0))), (q4, .inl (tv 0, 7, .inl (fun _ => 0))), (q5, .inl (tv 0, 7, .inl (fun _ => 0))), (q6, .inl (tv 0, 72, .inl (fun _ => 0))), (q7, .inl (tv 0, 72, .inl (fun _ => 0))), (q8, .inl (tv 0, 3, .inl (fun _ => 0))), (q9, .inl (tv 0, 250, .inl (fun _ => 0))), (q10, .inl (tv 1, 1300, .inl (fun _ => 0))), (q11, .inl (tv 0, 8, .inl (fun _ => 0))), (q12, .inl (tv 0, 8, .inl (fun _ => 0)))]) 2 96 [some (.ref h0), none] [.ref q12, .ref h0] 12 1805
  refine g_putF B C fq_X8_init_44 0 rfl rfl rfl (Nat.le_of_ble_eq_true rfl) dX8_init_96 ?_
  show GJ X (gH X D A [(h0, .inr (8, [.ref q1, .ref q2, .ref q3, .ref q4, .ref q5, .int 0, .int 0, .int 0, .ref q6, .ref q7, .ref q8, .ref q9, .ref q10, .int 0, .ref q11, .ref q12, .null, .null, .null, .null, .null, .null, .int 0])), (q1, .inl (tv 0, 3, .inl (fun _ => 0))), (q2, .inl (tv 0, 72, .inl (fun _ => 0))), (q3, .inl (tv 0, 3, .inl (fun _ => 0))), (q4, .inl (tv 0, 7, .inl (fun _ => 0))), (q5, .inl (tv 0, 7, .inl (fun _ => 0))), (q6, .inl (tv 0, 72, .inl (fun _ => 0))), (q7, .inl (tv 0, 72, .inl (fun _ => 0))), (q8, .inl (tv 0, 3, .inl (fun _ => 0))), (q9, .inl (tv 0, 250, .inl (fun _ => 0))), (q10, .inl (tv 1, 1300, .inl (fun _ => 0))), (q11, .inl (tv 0, 8, .inl (fun _ => 0))), (q12, .inl (tv 0, 8, .inl (fun _ => 0)))]) 2 99 [some (.ref h0), none] [] 12 1805
  refine g_aload_n B dX8_init_99 rfl ?_
  refine g_bipush (v := 8) B dX8_init_100 (by decide) ?_
  refine g_newI (t0 := 0) (N := 8) B C rfl (by decide +kernel) (by decide) (by decide) (by decide) (Nat.le_of_ble_eq_true rfl) (Nat.le_of_ble_eq_true rfl) dX8_init_102 (fun q13 => ?_)
  show GJ X (gH X D A [(h0, .inr (8, [.ref q1, .ref q2, .ref q3, .ref q4, .ref q5, .int 0, .int 0, .int 0, .ref q6, .ref q7, .ref q8, .ref q9, .ref q10, .int 0, .ref q11, .ref q12, .null, .null, .null, .null, .null, .null, .int 0])), (q1, .inl (tv 0, 3, .inl (fun _ => 0))), (q2, .inl (tv 0, 72, .inl (fun _ => 0))), (q3, .inl (tv 0, 3, .inl (fun _ => 0))), (q4, .inl (tv 0, 7, .inl (fun _ => 0))), (q5, .inl (tv 0, 7, .inl (fun _ => 0))), (q6, .inl (tv 0, 72, .inl (fun _ => 0))), (q7, .inl (tv 0, 72, .inl (fun _ => 0))), (q8, .inl (tv 0, 3, .inl (fun _ => 0))), (q9, .inl (tv 0, 250, .inl (fun _ => 0))), (q10, .inl (tv 1, 1300, .inl (fun _ => 0))), (q11, .inl (tv 0, 8, .inl (fun _ => 0))), (q12, .inl (tv 0, 8, .inl (fun _ => 0))), (q13, .inl (tv 0, 8, .inl (fun _ => 0)))]) 2 104 [some (.ref h0), none] [.ref q13, .ref h0] 13 1813
  refine g_putF B C fq_X8_init_47 0 rfl rfl rfl (Nat.le_of_ble_eq_true rfl) dX8_init_104 ?_
  show GJ X (gH X D A [(h0, .inr (8, [.ref q1, .ref q2, .ref q3, .ref q4, .ref q5, .int 0, .int 0, .int 0, .ref q6, .ref q7, .ref q8, .ref q9, .ref q10, .int 0, .ref q11, .ref q12, .ref q13, .null, .null, .null, .null, .null, .int 0])), (q1, .inl (tv 0, 3, .inl (fun _ => 0))), (q2, .inl (tv 0, 72, .inl (fun _ => 0))), (q3, .inl (tv 0, 3, .inl (fun _ => 0))), (q4, .inl (tv 0, 7, .inl (fun _ => 0))), (q5, .inl (tv 0, 7, .inl (fun _ => 0))), (q6, .inl (tv 0, 72, .inl (fun _ => 0))), (q7, .inl (tv 0, 72, .inl (fun _ => 0))), (q8, .inl (tv 0, 3, .inl (fun _ => 0))), (q9, .inl (tv 0, 250, .inl (fun _ => 0))), (q10, .inl (tv 1, 1300, .inl (fun _ => 0))), (q11, .inl (tv 0, 8, .inl (fun _ => 0))), (q12, .inl (tv 0, 8, .inl (fun _ => 0))), (q13, .inl (tv 0, 8, .inl (fun _ => 0)))]) 2 107 [some (.ref h0), none] [] 13 1813
  refine g_aload_n B dX8_init_107 rfl ?_
  refine g_iconst (v := 4) B dX8_init_108 (by decide) ?_
  refine g_newZ (t0 := 1) (N := 4) B C rfl (by decide +kernel) (by decide) (by decide) (by decide) (Nat.le_of_ble_eq_true rfl) (Nat.le_of_ble_eq_true rfl) dX8_init_109 (fun q14 => ?_)
  show GJ X (gH X D A [(h0, .inr (8, [.ref q1, .ref q2, .ref q3, .ref q4, .ref q5, .int 0, .int 0, .int 0, .ref q6, .ref q7, .ref q8, .ref q9, .ref q10, .int 0, .ref q11, .ref q12, .ref q13, .null, .null, .null, .null, .null, .int 0])), (q1, .inl (tv 0, 3, .inl (fun _ => 0))), (q2, .inl (tv 0, 72, .inl (fun _ => 0))), (q3, .inl (tv 0, 3, .inl (fun _ => 0))), (q4, .inl (tv 0, 7, .inl (fun _ => 0))), (q5, .inl (tv 0, 7, .inl (fun _ => 0))), (q6, .inl (tv 0, 72, .inl (fun _ => 0))), (q7, .inl (tv 0, 72, .inl (fun _ => 0))), (q8, .inl (tv 0, 3, .inl (fun _ => 0))), (q9, .inl (tv 0, 250, .inl (fun _ => 0))), (q10, .inl (tv 1, 1300, .inl (fun _ => 0))), (q11, .inl (tv 0, 8, .inl (fun _ => 0))), (q12, .inl (tv 0, 8, .inl (fun _ => 0))), (q13, .inl (tv 0, 8, .inl (fun _ => 0))), (q14, .inl (tv 1, 4, .inl (fun _ => 0)))]) 2 111 [some (.ref h0), none] [.ref q14, .ref h0] 14 1817
  refine g_putF B C fq_X8_init_50 0 rfl rfl rfl (Nat.le_of_ble_eq_true rfl) dX8_init_111 ?_
  show GJ X (gH X D A [(h0, .inr (8, [.ref q1, .ref q2, .ref q3, .ref q4, .ref q5, .int 0, .int 0, .int 0, .ref q6, .ref q7, .ref q8, .ref q9, .ref q10, .int 0, .ref q11, .ref q12, .ref q13, .ref q14, .null, .null, .null, .null, .int 0])), (q1, .inl (tv 0, 3, .inl (fun _ => 0))), (q2, .inl (tv 0, 72, .inl (fun _ => 0))), (q3, .inl (tv 0, 3, .inl (fun _ => 0))), (q4, .inl (tv 0, 7, .inl (fun _ => 0))), (q5, .inl (tv 0, 7, .inl (fun _ => 0))), (q6, .inl (tv 0, 72, .inl (fun _ => 0))), (q7, .inl (tv 0, 72, .inl (fun _ => 0))), (q8, .inl (tv 0, 3, .inl (fun _ => 0))), (q9, .inl (tv 0, 250, .inl (fun _ => 0))), (q10, .inl (tv 1, 1300, .inl (fun _ => 0))), (q11, .inl (tv 0, 8, .inl (fun _ => 0))), (q12, .inl (tv 0, 8, .inl (fun _ => 0))), (q13, .inl (tv 0, 8, .inl (fun _ => 0))), (q14, .inl (tv 1, 4, .inl (fun _ => 0)))]) 2 114 [some (.ref h0), none] [] 14 1817
  refine g_aload_n B dX8_init_114 rfl ?_
  refine g_iconst (v := 4) B dX8_init_115 (by decide) ?_
  refine g_newI (t0 := 0) (N := 4) B C rfl (by decide +kernel) (by decide) (by decide) (by decide) (Nat.le_of_ble_eq_true rfl) (Nat.le_of_ble_eq_true rfl) dX8_init_116 (fun q15 => ?_)
  show GJ X (gH X D A [(h0, .inr (8, [.ref q1, .ref q2, .ref q3, .ref q4, .ref q5, .int 0, .int 0, .int 0, .ref q6, .ref q7, .ref q8, .ref q9, .ref q10, .int 0, .ref q11, .ref q12, .ref q13, .ref q14, .null, .null, .null, .null, .int 0])), (q1, .inl (tv 0, 3, .inl (fun _ => 0))), (q2, .inl (tv 0, 72, .inl (fun _ => 0))), (q3, .inl (tv 0, 3, .inl (fun _ => 0))), (q4, .inl (tv 0, 7, .inl (fun _ => 0))), (q5, .inl (tv 0, 7, .inl (fun _ => 0))), (q6, .inl (tv 0, 72, .inl (fun _ => 0))), (q7, .inl (tv 0, 72, .inl (fun _ => 0))), (q8, .inl (tv 0, 3, .inl (fun _ => 0))), (q9, .inl (tv 0, 250, .inl (fun _ => 0))), (q10, .inl (tv 1, 1300, .inl (fun _ => 0))), (q11, .inl (tv 0, 8, .inl (fun _ => 0))), (q12, .inl (tv 0, 8, .inl (fun _ => 0))), (q13, .inl (tv 0, 8, .inl (fun _ => 0))), (q14, .inl (tv 1, 4, .inl (fun _ => 0))), (q15, .inl (tv 0, 4, .inl (fun _ => 0)))]) 2 118 [some (.ref h0), none] [.ref q15, .ref h0] 15 1821
  refine g_putF B C fq_X8_init_53 0 rfl rfl rfl (Nat.le_of_ble_eq_true rfl) dX8_init_118 ?_
  show GJ X (gH X D A [(h0, .inr (8, [.ref q1, .ref q2, .ref q3, .ref q4, .ref q5, .int 0, .int 0, .int 0, .ref q6, .ref q7, .ref q8, .ref q9, .ref q10, .int 0, .ref q11, .ref q12, .ref q13, .ref q14, .ref q15, .null, .null, .null, .int 0])), (q1, .inl (tv 0, 3, .inl (fun _ => 0))), (q2, .inl (tv 0, 72, .inl (fun _ => 0))), (q3, .inl (tv 0, 3, .inl (fun _ => 0))), (q4, .inl (tv 0, 7, .inl (fun _ => 0))), (q5, .inl (tv 0, 7, .inl (fun _ => 0))), (q6, .inl (tv 0, 72, .inl (fun _ => 0))), (q7, .inl (tv 0, 72, .inl (fun _ => 0))), (q8, .inl (tv 0, 3, .inl (fun _ => 0))), (q9, .inl (tv 0, 250, .inl (fun _ => 0))), (q10, .inl (tv 1, 1300, .inl (fun _ => 0))), (q11, .inl (tv 0, 8, .inl (fun _ => 0))), (q12, .inl (tv 0, 8, .inl (fun _ => 0))), (q13, .inl (tv 0, 8, .inl (fun _ => 0))), (q14, .inl (tv 1, 4, .inl (fun _ => 0))), (q15, .inl (tv 0, 4, .inl (fun _ => 0)))]) 2 121 [some (.ref h0), none] [] 15 1821
  refine g_aload_n B dX8_init_121 rfl ?_
  refine g_iconst (v := 4) B dX8_init_122 (by decide) ?_
  refine g_newI (t0 := 0) (N := 4) B C rfl (by decide +kernel) (by decide) (by decide) (by decide) (Nat.le_of_ble_eq_true rfl) (Nat.le_of_ble_eq_true rfl) dX8_init_123 (fun q16 => ?_)
  show GJ X (gH X D A [(h0, .inr (8, [.ref q1, .ref q2, .ref q3, .ref q4, .ref q5, .int 0, .int 0, .int 0, .ref q6, .ref q7, .ref q8, .ref q9, .ref q10, .int 0, .ref q11, .ref q12, .ref q13, .ref q14, .ref q15, .null, .null, .null, .int 0])), (q1, .inl (tv 0, 3, .inl (fun _ => 0))), (q2, .inl (tv 0, 72, .inl (fun _ => 0))), (q3, .inl (tv 0, 3, .inl (fun _ => 0))), (q4, .inl (tv 0, 7, .inl (fun _ => 0))), (q5, .inl (tv 0, 7, .inl (fun _ => 0))), (q6, .inl (tv 0, 72, .inl (fun _ => 0))), (q7, .inl (tv 0, 72, .inl (fun _ => 0))), (q8, .inl (tv 0, 3, .inl (fun _ => 0))), (q9, .inl (tv 0, 250, .inl (fun _ => 0))), (q10, .inl (tv 1, 1300, .inl (fun _ => 0))), (q11, .inl (tv 0, 8, .inl (fun _ => 0))), (q12, .inl (tv 0, 8, .inl (fun _ => 0))), (q13, .inl (tv 0, 8, .inl (fun _ => 0))), (q14, .inl (tv 1, 4, .inl (fun _ => 0))), (q15, .inl (tv 0, 4, .inl (fun _ => 0))), (q16, .inl (tv 0, 4, .inl (fun _ => 0)))]) 2 125 [some (.ref h0), none] [.ref q16, .ref h0] 16 1825
  refine g_putF B C fq_X8_init_56 0 rfl rfl rfl (Nat.le_of_ble_eq_true rfl) dX8_init_125 ?_
  show GJ X (gH X D A [(h0, .inr (8, [.ref q1, .ref q2, .ref q3, .ref q4, .ref q5, .int 0, .int 0, .int 0, .ref q6, .ref q7, .ref q8, .ref q9, .ref q10, .int 0, .ref q11, .ref q12, .ref q13, .ref q14, .ref q15, .ref q16, .null, .null, .int 0])), (q1, .inl (tv 0, 3, .inl (fun _ => 0))), (q2, .inl (tv 0, 72, .inl (fun _ => 0))), (q3, .inl (tv 0, 3, .inl (fun _ => 0))), (q4, .inl (tv 0, 7, .inl (fun _ => 0))), (q5, .inl (tv 0, 7, .inl (fun _ => 0))), (q6, .inl (tv 0, 72, .inl (fun _ => 0))), (q7, .inl (tv 0, 72, .inl (fun _ => 0))), (q8, .inl (tv 0, 3, .inl (fun _ => 0))), (q9, .inl (tv 0, 250, .inl (fun _ => 0))), (q10, .inl (tv 1, 1300, .inl (fun _ => 0))), (q11, .inl (tv 0, 8, .inl (fun _ => 0))), (q12, .inl (tv 0, 8, .inl (fun _ => 0))), (q13, .inl (tv 0, 8, .inl (fun _ => 0))), (q14, .inl (tv 1, 4, .inl (fun _ => 0))), (q15, .inl (tv 0, 4, .inl (fun _ => 0))), (q16, .inl (tv 0, 4, .inl (fun _ => 0)))]) 2 128 [some (.ref h0), none] [] 16 1825
  refine g_aload_n B dX8_init_128 rfl ?_
  refine g_sipush (v := 192) B dX8_init_129 (by decide) ?_
  refine g_newI (t0 := 0) (N := 192) B C rfl (by decide +kernel) (by decide) (by decide) (by decide) (Nat.le_of_ble_eq_true rfl) (Nat.le_of_ble_eq_true rfl) dX8_init_132 (fun q17 => ?_)
  show GJ X (gH X D A [(h0, .inr (8, [.ref q1, .ref q2, .ref q3, .ref q4, .ref q5, .int 0, .int 0, .int 0, .ref q6, .ref q7, .ref q8, .ref q9, .ref q10, .int 0, .ref q11, .ref q12, .ref q13, .ref q14, .ref q15, .ref q16, .null, .null, .int 0])), (q1, .inl (tv 0, 3, .inl (fun _ => 0))), (q2, .inl (tv 0, 72, .inl (fun _ => 0))), (q3, .inl (tv 0, 3, .inl (fun _ => 0))), (q4, .inl (tv 0, 7, .inl (fun _ => 0))), (q5, .inl (tv 0, 7, .inl (fun _ => 0))), (q6, .inl (tv 0, 72, .inl (fun _ => 0))), (q7, .inl (tv 0, 72, .inl (fun _ => 0))), (q8, .inl (tv 0, 3, .inl (fun _ => 0))), (q9, .inl (tv 0, 250, .inl (fun _ => 0))), (q10, .inl (tv 1, 1300, .inl (fun _ => 0))), (q11, .inl (tv 0, 8, .inl (fun _ => 0))), (q12, .inl (tv 0, 8, .inl (fun _ => 0))), (q13, .inl (tv 0, 8, .inl (fun _ => 0))), (q14, .inl (tv 1, 4, .inl (fun _ => 0))), (q15, .inl (tv 0, 4, .inl (fun _ => 0))), (q16, .inl (tv 0, 4, .inl (fun _ => 0))), (q17, .inl (tv 0, 192, .inl (fun _ => 0)))]) 2 134 [some (.ref h0), none] [.ref q17, .ref h0] 17 2017
  refine g_putF B C fq_X8_init_59 0 rfl rfl rfl (Nat.le_of_ble_eq_true rfl) dX8_init_134 ?_
  show GJ X (gH X D A [(h0, .inr (8, [.ref q1, .ref q2, .ref q3, .ref q4, .ref q5, .int 0, .int 0, .int 0, .ref q6, .ref q7, .ref q8, .ref q9, .ref q10, .int 0, .ref q11, .ref q12, .ref q13, .ref q14, .ref q15, .ref q16, .ref q17, .null, .int 0])), (q1, .inl (tv 0, 3, .inl (fun _ => 0))), (q2, .inl (tv 0, 72, .inl (fun _ => 0))), (q3, .inl (tv 0, 3, .inl (fun _ => 0))), (q4, .inl (tv 0, 7, .inl (fun _ => 0))), (q5, .inl (tv 0, 7, .inl (fun _ => 0))), (q6, .inl (tv 0, 72, .inl (fun _ => 0))), (q7, .inl (tv 0, 72, .inl (fun _ => 0))), (q8, .inl (tv 0, 3, .inl (fun _ => 0))), (q9, .inl (tv 0, 250, .inl (fun _ => 0))), (q10, .inl (tv 1, 1300, .inl (fun _ => 0))), (q11, .inl (tv 0, 8, .inl (fun _ => 0))), (q12, .inl (tv 0, 8, .inl (fun _ => 0))), (q13, .inl (tv 0, 8, .inl (fun _ => 0))), (q14, .inl (tv 1, 4, .inl (fun _ => 0))), (q15, .inl (tv 0, 4, .inl (fun _ => 0))), (q16, .inl (tv 0, 4, .inl (fun _ => 0))), (q17, .inl (tv 0, 192, .inl (fun _ => 0)))]) 2 137 [some (.ref h0), none] [] 17 2017
  refine g_aload_n B dX8_init_137 rfl ?_
  refine g_bipush (v := 48) B dX8_init_138 (by decide) ?_
  refine g_newI (t0 := 0) (N := 48) B C rfl (by decide +kernel) (by decide) (by decide) (by decide) (Nat.le_of_ble_eq_true rfl) (Nat.le_of_ble_eq_true rfl) dX8_init_140 (fun q18 => ?_)
  show GJ X (gH X D A [(h0, .inr (8, [.ref q1, .ref q2, .ref q3, .ref q4, .ref q5, .int 0, .int 0, .int 0, .ref q6, .ref q7, .ref q8, .ref q9, .ref q10, .int 0, .ref q11, .ref q12, .ref q13, .ref q14, .ref q15, .ref q16, .ref q17, .null, .int 0])), (q1, .inl (tv 0, 3, .inl (fun _ => 0))), (q2, .inl (tv 0, 72, .inl (fun _ => 0))), (q3, .inl (tv 0, 3, .inl (fun _ => 0))), (q4, .inl (tv 0, 7, .inl (fun _ => 0))), (q5, .inl (tv 0, 7, .inl (fun _ => 0))), (q6, .inl (tv 0, 72, .inl (fun _ => 0))), (q7, .inl (tv 0, 72, .inl (fun _ => 0))), (q8, .inl (tv 0, 3, .inl (fun _ => 0))), (q9, .inl (tv 0, 250, .inl (fun _ => 0))), (q10, .inl (tv 1, 1300, .inl (fun _ => 0))), (q11, .inl (tv 0, 8, .inl (fun _ => 0))), (q12, .inl (tv 0, 8, .inl (fun _ => 0))), (q13, .inl (tv 0, 8, .inl (fun _ => 0))), (q14, .inl (tv 1, 4, .inl (fun _ => 0))), (q15, .inl (tv 0, 4, .inl (fun _ => 0))), (q16, .inl (tv 0, 4, .inl (fun _ => 0))), (q17, .inl (tv 0, 192, .inl (fun _ => 0))), (q18, .inl (tv 0, 48, .inl (fun _ => 0)))]) 2 142 [some (.ref h0), none] [.ref q18, .ref h0] 18 2065
  refine g_putF B C fq_X8_init_62 0 rfl rfl rfl (Nat.le_of_ble_eq_true rfl) dX8_init_142 ?_
  show GJ X (gH X D A [(h0, .inr (8, [.ref q1, .ref q2, .ref q3, .ref q4, .ref q5, .int 0, .int 0, .int 0, .ref q6, .ref q7, .ref q8, .ref q9, .ref q10, .int 0, .ref q11, .ref q12, .ref q13, .ref q14, .ref q15, .ref q16, .ref q17, .ref q18, .int 0])), (q1, .inl (tv 0, 3, .inl (fun _ => 0))), (q2, .inl (tv 0, 72, .inl (fun _ => 0))), (q3, .inl (tv 0, 3, .inl (fun _ => 0))), (q4, .inl (tv 0, 7, .inl (fun _ => 0))), (q5, .inl (tv 0, 7, .inl (fun _ => 0))), (q6, .inl (tv 0, 72, .inl (fun _ => 0))), (q7, .inl (tv 0, 72, .inl (fun _ => 0))), (q8, .inl (tv 0, 3, .inl (fun _ => 0))), (q9, .inl (tv 0, 250, .inl (fun _ => 0))), (q10, .inl (tv 1, 1300, .inl (fun _ => 0))), (q11, .inl (tv 0, 8, .inl (fun _ => 0))), (q12, .inl (tv 0, 8, .inl (fun _ => 0))), (q13, .inl (tv 0, 8, .inl (fun _ => 0))), (q14, .inl (tv 1, 4, .inl (fun _ => 0))), (q15, .inl (tv 0, 4, .inl (fun _ => 0))), (q16, .inl (tv 0, 4, .inl (fun _ => 0))), (q17, .inl (tv 0, 192, .inl (fun _ => 0))), (q18, .inl (tv 0, 48, .inl (fun _ => 0)))]) 2 145 [some (.ref h0), none] [] 18 2065
  refine g_iconst (v := 0) B dX8_init_145 (by decide) ?_
  refine g_istore_n B dX8_init_146 (by decide) ?_
  show GJ X (gH X D A [(h0, .inr (8, [.ref q1, .ref q2, .ref q3, .ref q4, .ref q5, .int 0, .int 0, .int 0, .ref q6, .ref q7, .ref q8, .ref q9, .ref q10, .int 0, .ref q11, .ref q12, .ref q13, .ref q14, .ref q15, .ref q16, .ref q17, .ref q18, .int 0])), (q1, .inl (tv 0, 3, .inl (fun _ => 0))), (q2, .inl (tv 0, 72, .inl (fun _ => 0))), (q3, .inl (tv 0, 3, .inl (fun _ => 0))), (q4, .inl (tv 0, 7, .inl (fun _ => 0))), (q5, .inl (tv 0, 7, .inl (fun _ => 0))), (q6, .inl (tv 0, 72, .inl (fun _ => 0))), (q7, .inl (tv 0, 72, .inl (fun _ => 0))), (q8, .inl (tv 0, 3, .inl (fun _ => 0))), (q9, .inl (tv 0, 250, .inl (fun _ => 0))), (q10, .inl (tv 1, 1300, .inl (fun _ => 0))), (q11, .inl (tv 0, 8, .inl (fun _ => 0))), (q12, .inl (tv 0, 8, .inl (fun _ => 0))), (q13, .inl (tv 0, 8, .inl (fun _ => 0))), (q14, .inl (tv 1, 4, .inl (fun _ => 0))), (q15, .inl (tv 0, 4, .inl (fun _ => 0))), (q16, .inl (tv 0, 4, .inl (fun _ => 0))), (q17, .inl (tv 0, 192, .inl (fun _ => 0))), (q18, .inl (tv 0, 48, .inl (fun _ => 0)))]) 2 147 [some (.ref h0), some (.int 0)] [] 18 2065
  refine g_iload_n B dX8_init_147 rfl ?_
  refine g_iconst (v := 3) B dX8_init_148 (by decide) ?_
  refine g_icmp_ge_f (tgt := 165) B dX8_init_149 (by decide) (by decide) ?_
  refine g_aload_n B dX8_init_152 rfl ?_
  refine g_get B C fl_X8_init_16 0 rfl rfl dX8_init_153 ?_
  refine g_iload_n B dX8_init_156 rfl ?_
  refine g_iconst (v := 3) B dX8_init_157 (by decide) ?_
  refine g_iast B C 0 3 0 rfl rfl (by decide) (by decide) dX8_init_158 ?_
  show GJ X (gH X D A [(h0, .inr (8, [.ref q1, .ref q2, .ref q3, .ref q4, .ref q5, .int 0, .int 0, .int 0, .ref q6, .ref q7, .ref q8, .ref q9, .ref q10, .int 0, .ref q11, .ref q12, .ref q13, .ref q14, .ref q15, .ref q16, .ref q17, .ref q18, .int 0])), (q1, .inl (tv 0, 3, .inl (fun _ => 0))), (q2, .inl (tv 0, 72, .inl (fun _ => 0))), (q3, .inl (tv 0, 3, .inl (upd (fun _ => 0) 0 3))), (q4, .inl (tv 0, 7, .inl (fun _ => 0))), (q5, .inl (tv 0, 7, .inl (fun _ => 0))), (q6, .inl (tv 0, 72, .inl (fun _ => 0))), (q7, .inl (tv 0, 72, .inl (fun _ => 0))), (q8, .inl (tv 0, 3, .inl (fun _ => 0))), (q9, .inl (tv 0, 250, .inl (fun _ => 0))), (q10, .inl (tv 1, 1300, .inl (fun _ => 0))), (q11, .inl (tv 0, 8, .inl (fun _ => 0))), (q12, .inl (tv 0, 8, .inl (fun _ => 0))), (q13, .inl (tv 0, 8, .inl (fun _ => 0))), (q14, .inl (tv 1, 4, .inl (fun _ => 0))), (q15, .inl (tv 0, 4, .inl (fun _ => 0))), (q16, .inl (tv 0, 4, .inl (fun _ => 0))), (q17, .inl (tv 0, 192, .inl (fun _ => 0))), (q18, .inl (tv 0, 48, .inl (fun _ => 0)))]) 2 159 [some (.ref h0), some (.int 0)] [] 18 2065
  refine g_iinc (v := 1) (y := 1) B dX8_init_159 rfl (by decide) (by decide) (by decide) ?_
  show GJ X (gH X D A [(h0, .inr (8, [.ref q1, .ref q2, .ref q3, .ref q4, .ref q5, .int 0, .int 0, .int 0, .ref q6, .ref q7, .ref q8, .ref q9, .ref q10, .int 0, .ref q11, .ref q12, .ref q13, .ref q14, .ref q15, .ref q16, .ref q17, .ref q18, .int 0])), (q1, .inl (tv 0, 3, .inl (fun _ => 0))), (q2, .inl (tv 0, 72, .inl (fun _ => 0))), (q3, .inl (tv 0, 3, .inl (upd (fun _ => 0) 0 3))), (q4, .inl (tv 0, 7, .inl (fun _ => 0))), (q5, .inl (tv 0, 7, .inl (fun _ => 0))), (q6, .inl (tv 0, 72, .inl (fun _ => 0))), (q7, .inl (tv 0, 72, .inl (fun _ => 0))), (q8, .inl (tv 0, 3, .inl (fun _ => 0))), (q9, .inl (tv 0, 250, .inl (fun _ => 0))), (q10, .inl (tv 1, 1300, .inl (fun _ => 0))), (q11, .inl (tv 0, 8, .inl (fun _ => 0))), (q12, .inl (tv 0, 8, .inl (fun _ => 0))), (q13, .inl (tv 0, 8, .inl (fun _ => 0))), (q14, .inl (tv 1, 4, .inl (fun _ => 0))), (q15, .inl (tv 0, 4, .inl (fun _ => 0))), (q16, .inl (tv 0, 4, .inl (fun _ => 0))), (q17, .inl (tv 0, 192, .inl (fun _ => 0))), (q18, .inl (tv 0, 48, .inl (fun _ => 0)))]) 2 162 [some (.ref h0), some (.int 1)] [] 18 2065
  refine g_goto (tgt := 147) B dX8_init_162 (by decide) ?_
  refine g_iload_n B dX8_init_147 rfl ?_
  refine g_iconst (v := 3) B dX8_init_148 (by decide) ?_
  refine g_icmp_ge_f (tgt := 165) B dX8_init_149 (by decide) (by decide) ?_
  refine g_aload_n B dX8_init_152 rfl ?_
  refine g_get B C fl_X8_init_16 0 rfl rfl dX8_init_153 ?_
  refine g_iload_n B dX8_init_156 rfl ?_
  refine g_iconst (v := 3) B dX8_init_157 (by decide) ?_
  refine g_iast B C 1 3 0 rfl rfl (by decide) (by decide) dX8_init_158 ?_
  show GJ X (gH X D A [(h0, .inr (8, [.ref q1, .ref q2, .ref q3, .ref q4, .ref q5, .int 0, .int 0, .int 0, .ref q6, .ref q7, .ref q8, .ref q9, .ref q10, .int 0, .ref q11, .ref q12, .ref q13, .ref q14, .ref q15, .ref q16, .ref q17, .ref q18, .int 0])), (q1, .inl (tv 0, 3, .inl (fun _ => 0))), (q2, .inl (tv 0, 72, .inl (fun _ => 0))), (q3, .inl (tv 0, 3, .inl (upd (upd (fun _ => 0) 0 3) 1 3))), (q4, .inl (tv 0, 7, .inl (fun _ => 0))), (q5, .inl (tv 0, 7, .inl (fun _ => 0))), (q6, .inl (tv 0, 72, .inl (fun _ => 0))), (q7, .inl (tv 0, 72, .inl (fun _ => 0))), (q8, .inl (tv 0, 3, .inl (fun _ => 0))), (q9, .inl (tv 0, 250, .inl (fun _ => 0))), (q10, .inl (tv 1, 1300, .inl (fun _ => 0))), (q11, .inl (tv 0, 8, .inl (fun _ => 0))), (q12, .inl (tv 0, 8, .inl (fun _ => 0))), (q13, .inl (tv 0, 8, .inl (fun _ => 0))), (q14, .inl (tv 1, 4, .inl (fun _ => 0))), (q15, .inl (tv 0, 4, .inl (fun _ => 0))), (q16, .inl (tv 0, 4, .inl (fun _ => 0))), (q17, .inl (tv 0, 192, .inl (fun _ => 0))), (q18, .inl (tv 0, 48, .inl (fun _ => 0)))]) 2 159 [some (.ref h0), some (.int 1)] [] 18 2065
  refine g_iinc (v := 1) (y := 2) B dX8_init_159 rfl (by decide) (by decide) (by decide) ?_
  show GJ X (gH X D A [(h0, .inr (8, [.ref q1, .ref q2, .ref q3, .ref q4, .ref q5, .int 0, .int 0, .int 0, .ref q6, .ref q7, .ref q8, .ref q9, .ref q10, .int 0, .ref q11, .ref q12, .ref q13, .ref q14, .ref q15, .ref q16, .ref q17, .ref q18, .int 0])), (q1, .inl (tv 0, 3, .inl (fun _ => 0))), (q2, .inl (tv 0, 72, .inl (fun _ => 0))), (q3, .inl (tv 0, 3, .inl (upd (upd (fun _ => 0) 0 3) 1 3))), (q4, .inl (tv 0, 7, .inl (fun _ => 0))), (q5, .inl (tv 0, 7, .inl (fun _ => 0))), (q6, .inl (tv 0, 72, .inl (fun _ => 0))), (q7, .inl (tv 0, 72, .inl (fun _ => 0))), (q8, .inl (tv 0, 3, .inl (fun _ => 0))), (q9, .inl (tv 0, 250, .inl (fun _ => 0))), (q10, .inl (tv 1, 1300, .inl (fun _ => 0))), (q11, .inl (tv 0, 8, .inl (fun _ => 0))), (q12, .inl (tv 0, 8, .inl (fun _ => 0))), (q13, .inl (tv 0, 8, .inl (fun _ => 0))), (q14, .inl (tv 1, 4, .inl (fun _ => 0))), (q15, .inl (tv 0, 4, .inl (fun _ => 0))), (q16, .inl (tv 0, 4, .inl (fun _ => 0))), (q17, .inl (tv 0, 192, .inl (fun _ => 0))), (q18, .inl (tv 0, 48, .inl (fun _ => 0)))]) 2 162 [some (.ref h0), some (.int 2)] [] 18 2065
  refine g_goto (tgt := 147) B dX8_init_162 (by decide) ?_
  refine g_iload_n B dX8_init_147 rfl ?_
  refine g_iconst (v := 3) B dX8_init_148 (by decide) ?_
  refine g_icmp_ge_f (tgt := 165) B dX8_init_149 (by decide) (by decide) ?_
  refine g_aload_n B dX8_init_152 rfl ?_
  refine g_get B C fl_X8_init_16 0 rfl rfl dX8_init_153 ?_
  refine g_iload_n B dX8_init_156 rfl ?_
  refine g_iconst (v := 3) B dX8_init_157 (by decide) ?_
  refine g_iast B C 2 3 0 rfl rfl (by decide) (by decide) dX8_init_158 ?_
  show GJ X (gH X D A [(h0, .inr (8, [.ref q1, .ref q2, .ref q3, .ref q4, .ref q5, .int 0, .int 0, .int 0, .ref q6, .ref q7, .ref q8, .ref q9, .ref q10, .int 0, .ref q11, .ref q12, .ref q13, .ref q14, .ref q15, .ref q16, .ref q17, .ref q18, .int 0])), (q1, .inl (tv 0, 3, .inl (fun _ => 0))), (q2, .inl (tv 0, 72, .inl (fun _ => 0))), (q3, .inl (tv 0, 3, .inl (upd (upd (upd (fun _ => 0) 0 3) 1 3) 2 3))), (q4, .inl (tv 0, 7, .inl (fun _ => 0))), (q5, .inl (tv 0, 7, .inl (fun _ => 0))), (q6, .inl (tv 0, 72, .inl (fun _ => 0))), (q7, .inl (tv 0, 72, .inl (fun _ => 0))), (q8, .inl (tv 0, 3, .inl (fun _ => 0))), (q9, .inl (tv 0, 250, .inl (fun _ => 0))), (q10, .inl (tv 1, 1300, .inl (fun _ => 0))), (q11, .inl (tv 0, 8, .inl (fun _ => 0))), (q12, .inl (tv 0, 8, .inl (fun _ => 0))), (q13, .inl (tv 0, 8, .inl (fun _ => 0))), (q14, .inl (tv 1, 4, .inl (fun _ => 0))), (q15, .inl (tv 0, 4, .inl (fun _ => 0))), (q16, .inl (tv 0, 4, .inl (fun _ => 0))), (q17, .inl (tv 0, 192, .inl (fun _ => 0))), (q18, .inl (tv 0, 48, .inl (fun _ => 0)))]) 2 159 [some (.ref h0), some (.int 2)] [] 18 2065
  refine g_iinc (v := 1) (y := 3) B dX8_init_159 rfl (by decide) (by decide) (by decide) ?_
  show GJ X (gH X D A [(h0, .inr (8, [.ref q1, .ref q2, .ref q3, .ref q4, .ref q5, .int 0, .int 0, .int 0, .ref q6, .ref q7, .ref q8, .ref q9, .ref q10, .int 0, .ref q11, .ref q12, .ref q13, .ref q14, .ref q15, .ref q16, .ref q17, .ref q18, .int 0])), (q1, .inl (tv 0, 3, .inl (fun _ => 0))), (q2, .inl (tv 0, 72, .inl (fun _ => 0))), (q3, .inl (tv 0, 3, .inl (upd (upd (upd (fun _ => 0) 0 3) 1 3) 2 3))), (q4, .inl (tv 0, 7, .inl (fun _ => 0))), (q5, .inl (tv 0, 7, .inl (fun _ => 0))), (q6, .inl (tv 0, 72, .inl (fun _ => 0))), (q7, .inl (tv 0, 72, .inl (fun _ => 0))), (q8, .inl (tv 0, 3, .inl (fun _ => 0))), (q9, .inl (tv 0, 250, .inl (fun _ => 0))), (q10, .inl (tv 1, 1300, .inl (fun _ => 0))), (q11, .inl (tv 0, 8, .inl (fun _ => 0))), (q12, .inl (tv 0, 8, .inl (fun _ => 0))), (q13, .inl (tv 0, 8, .inl (fun _ => 0))), (q14, .inl (tv 1, 4, .inl (fun _ => 0))), (q15, .inl (tv 0, 4, .inl (fun _ => 0))), (q16, .inl (tv 0, 4, .inl (fun _ => 0))), (q17, .inl (tv 0, 192, .inl (fun _ => 0))), (q18, .inl (tv 0, 48, .inl (fun _ => 0)))]) 2 162 [some (.ref h0), some (.int 3)] [] 18 2065
  refine g_goto (tgt := 147) B dX8_init_162 (by decide) ?_
  refine g_iload_n B dX8_init_147 rfl ?_
  refine g_iconst (v := 3) B dX8_init_148 (by decide) ?_
  refine g_icmp_ge_t (tgt := 165) B dX8_init_149 (by decide) (by decide) ?_
  refine g_iconst (v := 0) B dX8_init_165 (by decide) ?_
  refine g_istore_n B dX8_init_166 (by decide) ?_
  show GJ X (gH X D A [(h0, .inr (8, [.ref q1, .ref q2, .ref q3, .ref q4, .ref q5, .int 0, .int 0, .int 0, .ref q6, .ref q7, .ref q8, .ref q9, .ref q10, .int 0, .ref q11, .ref q12, .ref q13, .ref q14, .ref q15, .ref q16, .ref q17, .ref q18, .int 0])), (q1, .inl (tv 0, 3, .inl (fun _ => 0))), (q2, .inl (tv 0, 72, .inl (fun _ => 0))), (q3, .inl (tv 0, 3, .inl (upd (upd (upd (fun _ => 0) 0 3) 1 3) 2 3))), (q4, .inl (tv 0, 7, .inl (fun _ => 0))), (q5, .inl (tv 0, 7, .inl (fun _ => 0))), (q6, .inl (tv 0, 72, .inl (fun _ => 0))), (q7, .inl (tv 0, 72, .inl (fun _ => 0))), (q8, .inl (tv 0, 3, .inl (fun _ => 0))), (q9, .inl (tv 0, 250, .inl (fun _ => 0))), (q10, .inl (tv 1, 1300, .inl (fun _ => 0))), (q11, .inl (tv 0, 8, .inl (fun _ => 0))), (q12, .inl (tv 0, 8, .inl (fun _ => 0))), (q13, .inl (tv 0, 8, .inl (fun _ => 0))), (q14, .inl (tv 1, 4, .inl (fun _ => 0))), (q15, .inl (tv 0, 4, .inl (fun _ => 0))), (q16, .inl (tv 0, 4, .inl (fun _ => 0))), (q17, .inl (tv 0, 192, .inl (fun _ => 0))), (q18, .inl (tv 0, 48, .inl (fun _ => 0)))]) 2 167 [some (.ref h0), some (.int 0)] [] 18 2065
  refine g_iload_n B dX8_init_167 rfl ?_
  refine g_bipush (v := 7) B dX8_init_168 (by decide) ?_
  refine g_icmp_ge_f (tgt := 298) B dX8_init_170 (by decide) (by decide) ?_
  refine g_aload_n B dX8_init_173 rfl ?_
  refine g_get B C fl_X8_init_19 0 rfl rfl dX8_init_174 ?_
  refine g_iload_n B dX8_init_177 rfl ?_
  refine g_iload_n B dX8_init_178 rfl ?_
  refine g_iconst (v := 1) B dX8_init_179 (by decide) ?_
  refine g_icmp_ne_t (tgt := 187) B dX8_init_180 (by decide) (by decide) ?_
  refine g_iload_n B dX8_init_187 rfl ?_
  refine g_iconst (v := 2) B dX8_init_188 (by decide) ?_
  refine g_icmp_ne_t (tgt := 196) B dX8_init_189 (by decide) (by decide) ?_
  refine g_iload_n B dX8_init_196 rfl ?_
  refine g_iconst (v := 3) B dX8_init_197 (by decide) ?_
  refine g_icmp_ne_t (tgt := 206) B dX8_init_198 (by decide) (by decide) ?_
  refine g_iload_n B dX8_init_206 rfl ?_
  refine g_iconst (v := 4) B dX8_init_207 (by decide) ?_
  refine g_icmp_ne_t (tgt := 216) B dX8_init_208 (by decide) (by decide) ?_
  refine g_iload_n B dX8_init_216 rfl ?_
  refine g_iconst (v := 5) B dX8_init_217 (by decide) ?_
  refine g_icmp_ne_t (tgt := 225) B dX8_init_218 (by decide) (by decide) ?_
  refine g_iload_n B dX8_init_225 rfl ?_
  refine g_bipush (v := 6) B dX8_init_226 (by decide) ?_
  refine g_icmp_ne_t (tgt := 236) B dX8_init_228 (by decide) (by decide) ?_
  refine g_iconst (v := 0) B dX8_init_236 (by decide) ?_
  refine g_iast B C 0 4 0 rfl rfl (by decide) (by decide) dX8_init_237 ?_
  show GJ X (gH X D A [(h0, .inr (8, [.ref q1, .ref q2, .ref q3, .ref q4, .ref q5, .int 0, .int 0, .int 0, .ref q6, .ref q7, .ref q8, .ref q9, .ref q10, .int 0, .ref q11, .ref q12, .ref q13, .ref q14, .ref q15, .ref q16, .ref q17, .ref q18, .int 0])), (q1, .inl (tv 0, 3, .inl (fun _ => 0))), (q2, .inl (tv 0, 72, .inl (fun _ => 0))), (q3, .inl (tv 0, 3, .inl (upd (upd (upd (fun _ => 0) 0 3) 1 3) 2 3))), (q4, .inl (tv 0, 7, .inl (upd (fun _ => 0) 0 0))), (q5, .inl (tv 0, 7, .inl (fun _ => 0))), (q6, .inl (tv 0, 72, .inl (fun _ => 0))), (q7, .inl (tv 0, 72, .inl (fun _ => 0))), (q8, .inl (tv 0, 3, .inl (fun _ => 0))), (q9, .inl (tv 0, 250, .inl (fun _ => 0))), (q10, .inl (tv 1, 1300, .inl (fun _ => 0))), (q11, .inl (tv 0, 8, .inl (fun _ => 0))), (q12, .inl (tv 0, 8, .inl (fun _ => 0))), (q13, .inl (tv 0, 8, .inl (fun _ => 0))), (q14, .inl (tv 1, 4, .inl (fun _ => 0))), (q15, .inl (tv 0, 4, .inl (fun _ => 0))), (q16, .inl (tv 0, 4, .inl (fun _ => 0))), (q17, .inl (tv 0, 192, .inl (fun _ => 0))), (q18, .inl (tv 0, 48, .inl (fun _ => 0)))]) 2 238 [some (.ref h0), some (.int 0)] [] 18 2065
  refine g_aload_n B dX8_init_238 rfl ?_
  refine g_get B C fl_X8_init_22 0 rfl rfl dX8_init_239 ?_
  refine g_iload_n B dX8_init_242 rfl ?_
  refine g_iload_n B dX8_init_243 rfl ?_
  refine g_iconst (v := 1) B dX8_init_244 (by decide) ?_
  refine g_icmp_ne_t (tgt := 252) B dX8_init_245 (by decide) (by decide) ?_
  refine g_iload_n B dX8_init_252 rfl ?_
  refine g_iconst (v := 2) B dX8_init_253 (by decide) ?_
  refine g_icmp_ne_t (tgt := 262) B dX8_init_254 (by decide) (by decide) ?_
  refine g_iload_n B dX8_init_262 rfl ?_
  refine g_iconst (v := 3) B dX8_init_263 (by decide) ?_
  refine g_icmp_ne_t (tgt := 271) B dX8_init_264 (by decide) (by decide) ?_
  refine g_iload_n B dX8_init_271 rfl ?_
  refine g_iconst (v := 4) B dX8_init_272 (by decide) ?_
  refine g_icmp_ne_t (tgt := 280) B dX8_init_273 (by decide) (by decide) ?_
  refine g_iload_n B dX8_init_280 rfl ?_
  refine g_bipush (v := 6) B dX8_init_281 (by decide) ?_
  refine g_icmp_ne_t (tgt := 290) B dX8_init_283 (by decide) (by decide) ?_
  refine g_iconst (v := 0) B dX8_init_290 (by decide) ?_
  refine g_iast B C 0 5 0 rfl rfl (by decide) (by decide) dX8_init_291 ?_
  show GJ X (gH X D A [(h0, .inr (8, [.ref q1, .ref q2, .ref q3, .ref q4, .ref q5, .int 0, .int 0, .int 0, .ref q6, .ref q7, .ref q8, .ref q9, .ref q10, .int 0, .ref q11, .ref q12, .ref q13, .ref q14, .ref q15, .ref q16, .ref q17, .ref q18, .int 0])), (q1, .inl (tv 0, 3, .inl (fun _ => 0))), (q2, .inl (tv 0, 72, .inl (fun _ => 0))), (q3, .inl (tv 0, 3, .inl (upd (upd (upd (fun _ => 0) 0 3) 1 3) 2 3))), (q4, .inl (tv 0, 7, .inl (upd (fun _ => 0) 0 0))), (q5, .inl (tv 0, 7, .inl (upd (fun _ => 0) 0 0))), (q6, .inl (tv 0, 72, .inl (fun _ => 0))), (q7, .inl (tv 0, 72, .inl (fun _ => 0))), (q8, .inl (tv 0, 3, .inl (fun _ => 0))), (q9, .inl (tv 0, 250, .inl (fun _ => 0))), (q10, .inl (tv 1, 1300, .inl (fun _ => 0))), (q11, .inl (tv 0, 8, .inl (fun _ => 0))), (q12, .inl (tv 0, 8, .inl (fun _ => 0))), (q13, .inl (tv 0, 8, .inl (fun _ => 0))), (q14, .inl (tv 1, 4, .inl (fun _ => 0))), (q15, .inl (tv 0, 4, .inl (fun _ => 0))), (q16, .inl (tv 0, 4, .inl (fun _ => 0))), (q17, .inl (tv 0, 192, .inl (fun _ => 0))), (q18, .inl (tv 0, 48, .inl (fun _ => 0)))]) 2 292 [some (.ref h0), some (.int 0)] [] 18 2065
  refine g_iinc (v := 1) (y := 1) B dX8_init_292 rfl (by decide) (by decide) (by decide) ?_
  show GJ X (gH X D A [(h0, .inr (8, [.ref q1, .ref q2, .ref q3, .ref q4, .ref q5, .int 0, .int 0, .int 0, .ref q6, .ref q7, .ref q8, .ref q9, .ref q10, .int 0, .ref q11, .ref q12, .ref q13, .ref q14, .ref q15, .ref q16, .ref q17, .ref q18, .int 0])), (q1, .inl (tv 0, 3, .inl (fun _ => 0))), (q2, .inl (tv 0, 72, .inl (fun _ => 0))), (q3, .inl (tv 0, 3, .inl (upd (upd (upd (fun _ => 0) 0 3) 1 3) 2 3))), (q4, .inl (tv 0, 7, .inl (upd (fun _ => 0) 0 0))), (q5, .inl (tv 0, 7, .inl (upd (fun _ => 0) 0 0))), (q6, .inl (tv 0, 72, .inl (fun _ => 0))), (q7, .inl (tv 0, 72, .inl (fun _ => 0))), (q8, .inl (tv 0, 3, .inl (fun _ => 0))), (q9, .inl (tv 0, 250, .inl (fun _ => 0))), (q10, .inl (tv 1, 1300, .inl (fun _ => 0))), (q11, .inl (tv 0, 8, .inl (fun _ => 0))), (q12, .inl (tv 0, 8, .inl (fun _ => 0))), (q13, .inl (tv 0, 8, .inl (fun _ => 0))), (q14, .inl (tv 1, 4, .inl (fun _ => 0))), (q15, .inl (tv 0, 4, .inl (fun _ => 0))), (q16, .inl (tv 0, 4, .inl (fun _ => 0))), (q17, .inl (tv 0, 192, .inl (fun _ => 0))), (q18, .inl (tv 0, 48, .inl (fun _ => 0)))]) 2 295 [some (.ref h0), some (.int 1)] [] 18 2065
  refine g_goto (tgt := 167) B dX8_init_295 (by decide) ?_
  refine g_iload_n B dX8_init_167 rfl ?_
  refine g_bipush (v := 7) B dX8_init_168 (by decide) ?_
  refine g_icmp_ge_f (tgt := 298) B dX8_init_170 (by decide) (by decide) ?_
  refine g_aload_n B dX8_init_173 rfl ?_
  refine g_get B C fl_X8_init_19 0 rfl rfl dX8_init_174 ?_
  refine g_iload_n B dX8_init_177 rfl ?_
  refine g_iload_n B dX8_init_178 rfl ?_
  refine g_iconst (v := 1) B dX8_init_179 (by decide) ?_
  refine g_icmp_ne_f (tgt := 187) B dX8_init_180 (by decide) (by decide) ?_
  refine g_iconst (v := 1) B dX8_init_183 (by decide) ?_
  refine g_goto (tgt := 237) B dX8_init_184 (by decide) ?_
  refine g_iast B C 1 4 0 rfl rfl (by decide) (by decide) dX8_init_237 ?_
  show GJ X (gH X D A [(h0, .inr (8, [.ref q1, .ref q2, .ref q3, .ref q4, .ref q5, .int 0, .int 0, .int 0, .ref q6, .ref q7, .ref q8, .ref q9, .ref q10, .int 0, .ref q11, .ref q12, .ref q13, .ref q14, .ref q15, .ref q16, .ref q17, .ref q18, .int 0])), (q1, .inl (tv 0, 3, .inl (fun _ => 0))), (q2, .inl (tv 0, 72, .inl (fun _ => 0))), (q3, .inl (tv 0, 3, .inl (upd (upd (upd (fun _ => 0) 0 3) 1 3) 2 3))), (q4, .inl (tv 0, 7, .inl (upd (upd (fun _ => 0) 0 0) 1 1))), (q5, .inl (tv 0, 7, .inl (upd (fun _ => 0) 0 0))), (q6, .inl (tv 0, 72, .inl (fun _ => 0))), (q7, .inl (tv 0, 72, .inl (fun _ => 0))), (q8, .inl (tv 0, 3, .inl (fun _ => 0))), (q9, .inl (tv 0, 250, .inl (fun _ => 0))), (q10, .inl (tv 1, 1300, .inl (fun _ => 0))), (q11, .inl (tv 0, 8, .inl (fun _ => 0))), (q12, .inl (tv 0, 8, .inl (fun _ => 0))), (q13, .inl (tv 0, 8, .inl (fun _ => 0))), (q14, .inl (tv 1, 4, .inl (fun _ => 0))), (q15, .inl (tv 0, 4, .inl (fun _ => 0))), (q16, .inl (tv 0, 4, .inl (fun _ => 0))), (q17, .inl (tv 0, 192, .inl (fun _ => 0))), (q18, .inl (tv 0, 48, .inl (fun _ => 0)))]) 2 238 [some (.ref h0), some (.int 1)] [] 18 2065
  refine g_aload_n B dX8_init_238 rfl ?_
  refine g_get B C fl_X8_init_22 0 rfl rfl dX8_init_239 ?_
  refine g_iload_n B dX8_init_242 rfl ?_
  refine g_iload_n B dX8_init_243 rfl ?_
  refine g_iconst (v := 1) B dX8_init_244 (by decide) ?_
  refine g_icmp_ne_f (tgt := 252) B dX8_init_245 (by decide) (by decide) ?_
  refine g_iconst (v := 2) B dX8_init_248 (by decide) ?_
  refine g_goto (tgt := 291) B dX8_init_249 (by decide) ?_
  refine g_iast B C 1 5 0 rfl rfl (by decide) (by decide) dX8_init_291 ?_
  show GJ X (gH X D A [(h0, .inr (8, [.ref q1, .ref q2, .ref q3, .ref q4, .ref q5, .int 0, .int 0, .int 0, .ref q6, .ref q7, .ref q8, .ref q9, .ref q10, .int 0, .ref q11, .ref q12, .ref q13, .ref q14, .ref q15, .ref q16, .ref q17, .ref q18, .int 0])), (q1, .inl (tv 0, 3, .inl (fun _ => 0))), (q2, .inl (tv 0, 72, .inl (fun _ => 0))), (q3, .inl (tv 0, 3, .inl (upd (upd (upd (fun _ => 0) 0 3) 1 3) 2 3))), (q4, .inl (tv 0, 7, .inl (upd (upd (fun _ => 0) 0 0) 1 1))), (q5, .inl (tv 0, 7, .inl (upd (upd (fun _ => 0) 0 0) 1 2))), (q6, .inl (tv 0, 72, .inl (fun _ => 0))), (q7, .inl (tv 0, 72, .inl (fun _ => 0))), (q8, .inl (tv 0, 3, .inl (fun _ => 0))), (q9, .inl (tv 0, 250, .inl (fun _ => 0))), (q10, .inl (tv 1, 1300, .inl (fun _ => 0))), (q11, .inl (tv 0, 8, .inl (fun _ => 0))), (q12, .inl (tv 0, 8, .inl (fun _ => 0))), (q13, .inl (tv 0, 8, .inl (fun _ => 0))), (q14, .inl (tv 1, 4, .inl (fun _ => 0))), (q15, .inl (tv 0, 4, .inl (fun _ => 0))), (q16, .inl (tv 0, 4, .inl (fun _ => 0))), (q17, .inl (tv 0, 192, .inl (fun _ => 0))), (q18, .inl (tv 0, 48, .inl (fun _ => 0)))]) 2 292 [some (.ref h0), some (.int 1)] [] 18 2065
  refine g_iinc (v := 1) (y := 2) B dX8_init_292 rfl (by decide) (by decide) (by decide) ?_
  show GJ X (gH X D A [(h0, .inr (8, [.ref q1, .ref q2, .ref q3, .ref q4, .ref q5, .int 0, .int 0, .int 0, .ref q6, .ref q7, .ref q8, .ref q9, .ref q10, .int 0, .ref q11, .ref q12, .ref q13, .ref q14, .ref q15, .ref q16, .ref q17, .ref q18, .int 0])), (q1, .inl (tv 0, 3, .inl (fun _ => 0))), (q2, .inl (tv 0, 72, .inl (fun _ => 0))), (q3, .inl (tv 0, 3, .inl (upd (upd (upd (fun _ => 0) 0 3) 1 3) 2 3))), (q4, .inl (tv 0, 7, .inl (upd (upd (fun _ => 0) 0 0) 1 1))), (q5, .inl (tv 0, 7, .inl (upd (upd (fun _ => 0) 0 0) 1 2))), (q6, .inl (tv 0, 72, .inl (fun _ => 0))), (q7, .inl (tv 0, 72, .inl (fun _ => 0))), (q8, .inl (tv 0, 3, .inl (fun _ => 0))), (q9, .inl (tv 0, 250, .inl (fun _ => 0))), (q10, .inl (tv 1, 1300, .inl (fun _ => 0))), (q11, .inl (tv 0, 8, .inl (fun _ => 0))), (q12, .inl (tv 0, 8, .inl (fun _ => 0))), (q13, .inl (tv 0, 8, .inl (fun _ => 0))), (q14, .inl (tv 1, 4, .inl (fun _ => 0))), (q15, .inl (tv 0, 4, .inl (fun _ => 0))), (q16, .inl (tv 0, 4, .inl (fun _ => 0))), (q17, .inl (tv 0, 192, .inl (fun _ => 0))), (q18, .inl (tv 0, 48, .inl (fun _ => 0)))]) 2 295 [some (.ref h0), some (.int 2)] [] 18 2065
  refine g_goto (tgt := 167) B dX8_init_295 (by decide) ?_
  refine g_iload_n B dX8_init_167 rfl ?_
  refine g_bipush (v := 7) B dX8_init_168 (by decide) ?_
  refine g_icmp_ge_f (tgt := 298) B dX8_init_170 (by decide) (by decide) ?_
  refine g_aload_n B dX8_init_173 rfl ?_
  refine g_get B C fl_X8_init_19 0 rfl rfl dX8_init_174 ?_
  refine g_iload_n B dX8_init_177 rfl ?_
  refine g_iload_n B dX8_init_178 rfl ?_
  refine g_iconst (v := 1) B dX8_init_179 (by decide) ?_
  refine g_icmp_ne_t (tgt := 187) B dX8_init_180 (by decide) (by decide) ?_
  refine g_iload_n B dX8_init_187 rfl ?_
  refine g_iconst (v := 2) B dX8_init_188 (by decide) ?_
  refine g_icmp_ne_f (tgt := 196) B dX8_init_189 (by decide) (by decide) ?_
  refine g_iconst (v := 3) B dX8_init_192 (by decide) ?_
  refine g_goto (tgt := 237) B dX8_init_193 (by decide) ?_
  refine g_iast B C 2 4 0 rfl rfl (by decide) (by decide) dX8_init_237 ?_
  show GJ X (gH X D A [(h0, .inr (8, [.ref q1, .ref q2, .ref q3, .ref q4, .ref q5, .int 0, .int 0, .int 0, .ref q6, .ref q7, .ref q8, .ref q9, .ref q10, .int 0, .ref q11, .ref q12, .ref q13, .ref q14, .ref q15, .ref q16, .ref q17, .ref q18, .int 0])), (q1, .inl (tv 0, 3, .inl (fun _ => 0))), (q2, .inl (tv 0, 72, .inl (fun _ => 0))), (q3, .inl (tv 0, 3, .inl (upd (upd (upd (fun _ => 0) 0 3) 1 3) 2 3))), (q4, .inl (tv 0, 7, .inl (upd (upd (upd (fun _ => 0) 0 0) 1 1) 2 3))), (q5, .inl (tv 0, 7, .inl (upd (upd (fun _ => 0) 0 0) 1 2))), (q6, .inl (tv 0, 72, .inl (fun _ => 0))), (q7, .inl (tv 0, 72, .inl (fun _ => 0))), (q8, .inl (tv 0, 3, .inl (fun _ => 0))), (q9, .inl (tv 0, 250, .inl (fun _ => 0))), (q10, .inl (tv 1, 1300, .inl (fun _ => 0))), (q11, .inl (tv 0, 8, .inl (fun _ => 0))), (q12, .inl (tv 0, 8, .inl (fun _ => 0))), (q13, .inl (tv 0, 8, .inl (fun _ => 0))), (q14, .inl (tv 1, 4, .inl (fun _ => 0))), (q15, .inl (tv 0, 4, .inl (fun _ => 0))), (q16, .inl (tv 0, 4, .inl (fun _ => 0))), (q17, .inl (tv 0, 192, .inl (fun _ => 0))), (q18, .inl (tv 0, 48, .inl (fun _ => 0)))]) 2 238 [some (.ref h0), some (.int 2)] [] 18 2065
  refine g_aload_n B dX8_init_238 rfl ?_
  refine g_get B C fl_X8_init_22 0 rfl rfl dX8_init_239 ?_
  refine g_iload_n B dX8_init_242 rfl ?_
  refine g_iload_n B dX8_init_243 rfl ?_
  refine g_iconst (v := 1) B dX8_init_244 (by decide) ?_
  refine g_icmp_ne_t (tgt := 252) B dX8_init_245 (by decide) (by decide) ?_
  refine g_iload_n B dX8_init_252 rfl ?_
  refine g_iconst (v := 2) B dX8_init_253 (by decide) ?_
  refine g_icmp_ne_f (tgt := 262) B dX8_init_254 (by decide) (by decide) ?_
  refine g_bipush (v := 9) B dX8_init_257 (by decide) ?_
  refine g_goto (tgt := 291) B dX8_init_259 (by decide) ?_
  refine g_iast B C 2 5 0 rfl rfl (by decide) (by decide) dX8_init_291 ?_
  show GJ X (gH X D A [(h0, .inr (8, [.ref q1, .ref q2, .ref q3, .ref q4, .ref q5, .int 0, .int 0, .int 0, .ref q6, .ref q7, .ref q8, .ref q9, .ref q10, .int 0, .ref q11, .ref q12, .ref q13, .ref q14, .ref q15, .ref q16, .ref q17, .ref q18, .int 0])), (q1, .inl (tv 0, 3, .inl (fun _ => 0))), (q2, .inl (tv 0, 72, .inl (fun _ => 0))), (q3, .inl (tv 0, 3, .inl (upd (upd (upd (fun _ => 0) 0 3) 1 3) 2 3))), (q4, .inl (tv 0, 7, .inl (upd (upd (upd (fun _ => 0) 0 0) 1 1) 2 3))), (q5, .inl (tv 0, 7, .inl (upd (upd (upd (fun _ => 0) 0 0) 1 2) 2 9))), (q6, .inl (tv 0, 72, .inl (fun _ => 0))), (q7, .inl (tv 0, 72, .inl (fun _ => 0))), (q8, .inl (tv 0, 3, .inl (fun _ => 0))), (q9, .inl (tv 0, 250, .inl (fun _ => 0))), (q10, .inl (tv 1, 1300, .inl (fun _ => 0))), (q11, .inl (tv 0, 8, .inl (fun _ => 0))), (q12, .inl (tv 0, 8, .inl (fun _ => 0))), (q13, .inl (tv 0, 8, .inl (fun _ => 0))), (q14, .inl (tv 1, 4, .inl (fun _ => 0))), (q15, .inl (tv 0, 4, .inl (fun _ => 0))), (q16, .inl (tv 0, 4, .inl (fun _ => 0))), (q17, .inl (tv 0, 192, .inl (fun _ => 0))), (q18, .inl (tv 0, 48, .inl (fun _ => 0)))]) 2 292 [some (.ref h0), some (.int 2)] [] 18 2065
  refine g_iinc (v := 1) (y := 3) B dX8_init_292 rfl (by decide) (by decide) (by decide) ?_
  show GJ X (gH X D A [(h0, .inr (8, [.ref q1, .ref q2, .ref q3, .ref q4, .ref q5, .int 0, .int 0, .int 0, .ref q6, .ref q7, .ref q8, .ref q9, .ref q10, .int 0, .ref q11, .ref q12, .ref q13, .ref q14, .ref q15, .ref q16, .ref q17, .ref q18, .int 0])), (q1, .inl (tv 0, 3, .inl (fun _ => 0))), (q2, .inl (tv 0, 72, .inl (fun _ => 0))), (q3, .inl (tv 0, 3, .inl (upd (upd (upd (fun _ => 0) 0 3) 1 3) 2 3))), (q4, .inl (tv 0, 7, .inl (upd (upd (upd (fun _ => 0) 0 0) 1 1) 2 3))), (q5, .inl (tv 0, 7, .inl (upd (upd (upd (fun _ => 0) 0 0) 1 2) 2 9))), (q6, .inl (tv 0, 72, .inl (fun _ => 0))), (q7, .inl (tv 0, 72, .inl (fun _ => 0))), (q8, .inl (tv 0, 3, .inl (fun _ => 0))), (q9, .inl (tv 0, 250, .inl (fun _ => 0))), (q10, .inl (tv 1, 1300, .inl (fun _ => 0))), (q11, .inl (tv 0, 8, .inl (fun _ => 0))), (q12, .inl (tv 0, 8, .inl (fun _ => 0))), (q13, .inl (tv 0, 8, .inl (fun _ => 0))), (q14, .inl (tv 1, 4, .inl (fun _ => 0))), (q15, .inl (tv 0, 4, .inl (fun _ => 0))), (q16, .inl (tv 0, 4, .inl (fun _ => 0))), (q17, .inl (tv 0, 192, .inl (fun _ => 0))), (q18, .inl (tv 0, 48, .inl (fun _ => 0)))]) 2 295 [some (.ref h0), some (.int 3)] [] 18 2065
  refine g_goto (tgt := 167) B dX8_init_295 (by decide) ?_
  refine g_iload_n B dX8_init_167 rfl ?_
  refine g_bipush (v := 7) B dX8_init_168 (by decide) ?_
  refine g_icmp_ge_f (tgt := 298) B dX8_init_170 (by decide) (by decide) ?_
  refine g_aload_n B dX8_init_173 rfl ?_
  refine g_get B C fl_X8_init_19 0 rfl rfl dX8_init_174 ?_
  refine g_iload_n B dX8_init_177 rfl ?_
  refine g_iload_n B dX8_init_178 rfl ?_
  refine g_iconst (v := 1) B dX8_init_179 (by decide) ?_
  refine g_icmp_ne_t (tgt := 187) B dX8_init_180 (by decide) (by decide) ?_
  refine g_iload_n B dX8_init_187 rfl ?_
  refine g_iconst (v := 2) B dX8_init_188 (by decide) ?_
  refine g_icmp_ne_t (tgt := 196) B dX8_init_189 (by decide) (by decide) ?_
  refine g_iload_n B dX8_init_196 rfl ?_
  refine g_iconst (v := 3) B dX8_init_197 (by decide) ?_
  refine g_icmp_ne_f (tgt := 206) B dX8_init_198 (by decide) (by decide) ?_
  refine g_bipush (v := -4) B dX8_init_201 (by decide) ?_
  refine g_goto (tgt := 237) B dX8_init_203 (by decide) ?_
  refine g_iast B C 3 4 0 rfl rfl (by decide) (by decide) dX8_init_237 ?_
  show GJ X (gH X D A [(h0, .inr (8, [.ref q1, .ref q2, .ref q3, .ref q4, .ref q5, .int 0, .int 0, .int 0, .ref q6, .ref q7, .ref q8, .ref q9, .ref q10, .int 0, .ref q11, .ref q12, .ref q13, .ref q14, .ref q15, .ref q16, .ref q17, .ref q18, .int 0])), (q1, .inl (tv 0, 3, .inl (fun _ => 0))), (q2, .inl (tv 0, 72, .inl (fun _ => 0))), (q3, .inl (tv 0, 3, .inl (upd (upd (upd (fun _ => 0) 0 3) 1 3) 2 3))), (q4, .inl (tv 0, 7, .inl (upd (upd (upd (upd (fun _ => 0) 0 0) 1 1) 2 3) 3 (-4)))), (q5, .inl (tv 0, 7, .inl (upd (upd (upd (fun _ => 0) 0 0) 1 2) 2 9))), (q6, .inl (tv 0, 72, .inl (fun _ => 0))), (q7, .inl (tv 0, 72, .inl (fun _ => 0))), (q8, .inl (tv 0, 3, .inl (fun _ => 0))), (q9, .inl (tv 0, 250, .inl (fun _ => 0))), (q10, .inl (tv 1, 1300, .inl (fun _ => 0))), (q11, .inl (tv 0, 8, .inl (fun _ => 0))), (q12, .inl (tv 0, 8, .inl (fun _ => 0))), (q13, .inl (tv 0, 8, .inl (fun _ => 0))), (q14, .inl (tv 1, 4, .inl (fun _ => 0))), (q15, .inl (tv 0, 4, .inl (fun _ => 0))), (q16, .inl (tv 0, 4, .inl (fun _ => 0))), (q17, .inl (tv 0, 192, .inl (fun _ => 0))), (q18, .inl (tv 0, 48, .inl (fun _ => 0)))]) 2 238 [some (.ref h0), some (.int 3)] [] 18 2065
  refine g_aload_n B dX8_init_238 rfl ?_
  refine g_get B C fl_X8_init_22 0 rfl rfl dX8_init_239 ?_
  refine g_iload_n B dX8_init_242 rfl ?_
  refine g_iload_n B dX8_init_243 rfl ?_
  refine g_iconst (v := 1) B dX8_init_244 (by decide) ?_
  refine g_icmp_ne_t (tgt := 252) B dX8_init_245 (by decide) (by decide) ?_
  refine g_iload_n B dX8_init_252 rfl ?_
  refine g_iconst (v := 2) B dX8_init_253 (by decide) ?_
  refine g_icmp_ne_t (tgt := 262) B dX8_init_254 (by decide) (by decide) ?_
  refine g_iload_n B dX8_init_262 rfl ?_
  refine g_iconst (v := 3) B dX8_init_263 (by decide) ?_
  refine g_icmp_ne_f (tgt := 271) B dX8_init_264 (by decide) (by decide) ?_
  refine g_iconst (v := 3) B dX8_init_267 (by decide) ?_
  refine g_goto (tgt := 291) B dX8_init_268 (by decide) ?_
  refine g_iast B C 3 5 0 rfl rfl (by decide) (by decide) dX8_init_291 ?_
  show GJ X (gH X D A [(h0, .inr (8, [.ref q1, .ref q2, .ref q3, .ref q4, .ref q5, .int 0, .int 0, .int 0, .ref q6, .ref q7, .ref q8, .ref q9, .ref q10, .int 0, .ref q11, .ref q12, .ref q13, .ref q14, .ref q15, .ref q16, .ref q17, .ref q18, .int 0])), (q1, .inl (tv 0, 3, .inl (fun _ => 0))), (q2, .inl (tv 0, 72, .inl (fun _ => 0))), (q3, .inl (tv 0, 3, .inl (upd (upd (upd (fun _ => 0) 0 3) 1 3) 2 3))), (q4, .inl (tv 0, 7, .inl (upd (upd (upd (upd (fun _ => 0) 0 0) 1 1) 2 3) 3 (-4)))), (q5, .inl (tv 0, 7, .inl (upd (upd (upd (upd (fun _ => 0) 0 0) 1 2) 2 9) 3 3))), (q6, .inl (tv 0, 72, .inl (fun _ => 0))), (q7, .inl (tv 0, 72, .inl (fun _ => 0))), (q8, .inl (tv 0, 3, .inl (fun _ => 0))), (q9, .inl (tv 0, 250, .inl (fun _ => 0))), (q10, .inl (tv 1, 1300, .inl (fun _ => 0))), (q11, .inl (tv 0, 8, .inl (fun _ => 0))), (q12, .inl (tv 0, 8, .inl (fun _ => 0))), (q13, .inl (tv 0, 8, .inl (fun _ => 0))), (q14, .inl (tv 1, 4, .inl (fun _ => 0))), (q15, .inl (tv 0, 4, .inl (fun _ => 0))), (q16, .inl (tv 0, 4, .inl (fun _ => 0))), (q17, .inl (tv 0, 192, .inl (fun _ => 0))), (q18, .inl (tv 0, 48, .inl (fun _ => 0)))]) 2 292 [some (.ref h0), some (.int 3)] [] 18 2065
  refine g_iinc (v := 1) (y := 4) B dX8_init_292 rfl (by decide) (by decide) (by decide) ?_
  show GJ X (gH X D A [(h0, .inr (8, [.ref q1, .ref q2, .ref q3, .ref q4, .ref q5, .int 0, .int 0, .int 0, .ref q6, .ref q7, .ref q8, .ref q9, .ref q10, .int 0, .ref q11, .ref q12, .ref q13, .ref q14, .ref q15, .ref q16, .ref q17, .ref q18, .int 0])), (q1, .inl (tv 0, 3, .inl (fun _ => 0))), (q2, .inl (tv 0, 72, .inl (fun _ => 0))), (q3, .inl (tv 0, 3, .inl (upd (upd (upd (fun _ => 0) 0 3) 1 3) 2 3))), (q4, .inl (tv 0, 7, .inl (upd (upd (upd (upd (fun _ => 0) 0 0) 1 1) 2 3) 3 (-4)))), (q5, .inl (tv 0, 7, .inl (upd (upd (upd (upd (fun _ => 0) 0 0) 1 2) 2 9) 3 3))), (q6, .inl (tv 0, 72, .inl (fun _ => 0))), (q7, .inl (tv 0, 72, .inl (fun _ => 0))), (q8, .inl (tv 0, 3, .inl (fun _ => 0))), (q9, .inl (tv 0, 250, .inl (fun _ => 0))), (q10, .inl (tv 1, 1300, .inl (fun _ => 0))), (q11, .inl (tv 0, 8, .inl (fun _ => 0))), (q12, .inl (tv 0, 8, .inl (fun _ => 0))), (q13, .inl (tv 0, 8, .inl (fun _ => 0))), (q14, .inl (tv 1, 4, .inl (fun _ => 0))), (q15, .inl (tv 0, 4, .inl (fun _ => 0))), (q16, .inl (tv 0, 4, .inl (fun _ => 0))), (q17, .inl (tv 0, 192, .inl (fun _ => 0))), (q18, .inl (tv 0, 48, .inl (fun _ => 0)))]) 2 295 [some (.ref h0), some (.int 4)] [] 18 2065
  refine g_goto (tgt := 167) B dX8_init_295 (by decide) ?_
  refine g_iload_n B dX8_init_167 rfl ?_
  refine g_bipush (v := 7) B dX8_init_168 (by decide) ?_
  refine g_icmp_ge_f (tgt := 298) B dX8_init_170 (by decide) (by decide) ?_
  refine g_aload_n B dX8_init_173 rfl ?_
  refine g_get B C fl_X8_init_19 0 rfl rfl dX8_init_174 ?_
  refine g_iload_n B dX8_init_177 rfl ?_
  refine g_iload_n B dX8_init_178 rfl ?_
  refine g_iconst (v := 1) B dX8_init_179 (by decide) ?_
  refine g_icmp_ne_t (tgt := 187) B dX8_init_180 (by decide) (by decide) ?_
  refine g_iload_n B dX8_init_187 rfl ?_
  refine g_iconst (v := 2) B dX8_init_188 (by decide) ?_
  refine g_icmp_ne_t (tgt := 196) B dX8_init_189 (by decide) (by decide) ?_
  refine g_iload_n B dX8_init_196 rfl ?_
  refine g_iconst (v := 3) B dX8_init_197 (by decide) ?_
  refine g_icmp_ne_t (tgt := 206) B dX8_init_198 (by decide) (by decide) ?_
  refine g_iload_n B dX8_init_206 rfl ?_
  refine g_iconst (v := 4) B dX8_init_207 (by decide) ?_
  refine g_icmp_ne_f (tgt := 216) B dX8_init_208 (by decide) (by decide) ?_
  refine g_bipush (v := -9) B dX8_init_211 (by decide) ?_
  refine g_goto (tgt := 237) B dX8_init_213 (by decide) ?_
  refine g_iast B C 4 4 0 rfl rfl (by decide) (by decide) dX8_init_237 ?_
  show GJ X (gH X D A [(h0, .inr (8, [.ref q1, .ref q2, .ref q3, .ref q4, .ref q5, .int 0, .int 0, .int 0, .ref q6, .ref q7, .ref q8, .ref q9, .ref q10, .int 0, .ref q11, .ref q12, .ref q13, .ref q14, .ref q15, .ref q16, .ref q17, .ref q18, .int 0])), (q1, .inl (tv 0, 3, .inl (fun _ => 0))), (q2, .inl (tv 0, 72, .inl (fun _ => 0))), (q3, .inl (tv 0, 3, .inl (upd (upd (upd (fun _ => 0) 0 3) 1 3) 2 3))), (q4, .inl (tv 0, 7, .inl (upd (upd (upd (upd (upd (fun _ => 0) 0 0) 1 1) 2 3) 3 (-4)) 4 (-9)))), (q5, .inl (tv 0, 7, .inl (upd (upd (upd (upd (fun _ => 0) 0 0) 1 2) 2 9) 3 3))), (q6, .inl (tv 0, 72, .inl (fun _ => 0))), (q7, .inl (tv 0, 72, .inl (fun _ => 0))), (q8, .inl (tv 0, 3, .inl (fun _ => 0))), (q9, .inl (tv 0, 250, .inl (fun _ => 0))), (q10, .inl (tv 1, 1300, .inl (fun _ => 0))), (q11, .inl (tv 0, 8, .inl (fun _ => 0))), (q12, .inl (tv 0, 8, .inl (fun _ => 0))), (q13, .inl (tv 0, 8, .inl (fun _ => 0))), (q14, .inl (tv 1, 4, .inl (fun _ => 0))), (q15, .inl (tv 0, 4, .inl (fun _ => 0))), (q16, .inl (tv 0, 4, .inl (fun _ => 0))), (q17, .inl (tv 0, 192, .inl (fun _ => 0))), (q18, .inl (tv 0, 48, .inl (fun _ => 0)))]) 2 238 [some (.ref h0), some (.int 4)] [] 18 2065
  refine g_aload_n B dX8_init_238 rfl ?_
  refine g_get B C fl_X8_init_22 0 rfl rfl dX8_init_239 ?_
  refine g_iload_n B dX8_init_242 rfl ?_
  refine g_iload_n B dX8_init_243 rfl ?_
  refine g_iconst (v := 1) B dX8_init_244 (by decide) ?_
  refine g_icmp_ne_t (tgt := 252) B dX8_init_245 (by decide) (by decide) ?_
  refine g_iload_n B dX8_init_252 rfl ?_
  refine g_iconst (v := 2) B dX8_init_253 (by decide) ?_
  refine g_icmp_ne_t (tgt := 262) B dX8_init_254 (by decide) (by decide) ?_
  refine g_iload_n B dX8_init_262 rfl ?_
  refine g_iconst (v := 3) B dX8_init_263 (by decide) ?_
  refine g_icmp_ne_t (tgt := 271) B dX8_init_264 (by decide) (by decide) ?_
  refine g_iload_n B dX8_init_271 rfl ?_
  refine g_iconst (v := 4) B dX8_init_272 (by decide) ?_
  refine g_icmp_ne_f (tgt := 280) B dX8_init_273 (by decide) (by decide) ?_
  refine g_iconst (v := 1) B dX8_init_276 (by decide) ?_
  refine g_goto (tgt := 291) B dX8_init_277 (by decide) ?_
  refine g_iast B C 4 5 0 rfl rfl (by decide) (by decide) dX8_init_291 ?_
  show GJ X (gH X D A [(h0, .inr (8, [.ref q1, .ref q2, .ref q3, .ref q4, .ref q5, .int 0, .int 0, .int 0, .ref q6, .ref q7, .ref q8, .ref q9, .ref q10, .int 0, .ref q11, .ref q12, .ref q13, .ref q14, .ref q15, .ref q16, .ref q17, .ref q18, .int 0])), (q1, .inl (tv 0, 3, .inl (fun _ => 0))), (q2, .inl (tv 0, 72, .inl (fun _ => 0))), (q3, .inl (tv 0, 3, .inl (upd (upd (upd (fun _ => 0) 0 3) 1 3) 2 3))), (q4, .inl (tv 0, 7, .inl (upd (upd (upd (upd (upd (fun _ => 0) 0 0) 1 1) 2 3) 3 (-4)) 4 (-9)))), (q5, .inl (tv 0, 7, .inl (upd (upd (upd (upd (upd (fun _ => 0) 0 0) 1 2) 2 9) 3 3) 4 1))), (q6, .inl (tv 0, 72, .inl (fun _ => 0))), (q7, .inl (tv 0, 72, .inl (fun _ => 0))), (q8, .inl (tv 0, 3, .inl (fun _ => 0))), (q9, .inl (tv 0, 250, .inl (fun _ => 0))), (q10, .inl (tv 1, 1300, .inl (fun _ => 0))), (q11, .inl (tv 0, 8, .inl (fun _ => 0))), (q12, .inl (tv 0, 8, .inl (fun _ => 0))), (q13, .inl (tv 0, 8, .inl (fun _ => 0))), (q14, .inl (tv 1, 4, .inl (fun _ => 0))), (q15, .inl (tv 0, 4, .inl (fun _ => 0))), (q16, .inl (tv 0, 4, .inl (fun _ => 0))), (q17, .inl (tv 0, 192, .inl (fun _ => 0))), (q18, .inl (tv 0, 48, .inl (fun _ => 0)))]) 2 292 [some (.ref h0), some (.int 4)] [] 18 2065
  refine g_iinc (v := 1) (y := 5) B dX8_init_292 rfl (by decide) (by decide) (by decide) ?_
  show GJ X (gH X D A [(h0, .inr (8, [.ref q1, .ref q2, .ref q3, .ref q4, .ref q5, .int 0, .int 0, .int 0, .ref q6, .ref q7, .ref q8, .ref q9, .ref q10, .int 0, .ref q11, .ref q12, .ref q13, .ref q14, .ref q15, .ref q16, .ref q17, .ref q18, .int 0])), (q1, .inl (tv 0, 3, .inl (fun _ => 0))), (q2, .inl (tv 0, 72, .inl (fun _ => 0))), (q3, .inl (tv 0, 3, .inl (upd (upd (upd (fun _ => 0) 0 3) 1 3) 2 3))), (q4, .inl (tv 0, 7, .inl (upd (upd (upd (upd (upd (fun _ => 0) 0 0) 1 1) 2 3) 3 (-4)) 4 (-9)))), (q5, .inl (tv 0, 7, .inl (upd (upd (upd (upd (upd (fun _ => 0) 0 0) 1 2) 2 9) 3 3) 4 1))), (q6, .inl (tv 0, 72, .inl (fun _ => 0))), (q7, .inl (tv 0, 72, .inl (fun _ => 0))), (q8, .inl (tv 0, 3, .inl (fun _ => 0))), (q9, .inl (tv 0, 250, .inl (fun _ => 0))), (q10, .inl (tv 1, 1300, .inl (fun _ => 0))), (q11, .inl (tv 0, 8, .inl (fun _ => 0))), (q12, .inl (tv 0, 8, .inl (fun _ => 0))), (q13, .inl (tv 0, 8, .inl (fun _ => 0))), (q14, .inl (tv 1, 4, .inl (fun _ => 0))), (q15, .inl (tv 0, 4, .inl (fun _ => 0))), (q16, .inl (tv 0, 4, .inl (fun _ => 0))), (q17, .inl (tv 0, 192, .inl (fun _ => 0))), (q18, .inl (tv 0, 48, .inl (fun _ => 0)))]) 2 295 [some (.ref h0), some (.int 5)] [] 18 2065
  refine g_goto (tgt := 167) B dX8_init_295 (by decide) ?_
  refine g_iload_n B dX8_init_167 rfl ?_
  refine g_bipush (v := 7) B dX8_init_168 (by decide) ?_
  refine g_icmp_ge_f (tgt := 298) B dX8_init_170 (by decide) (by decide) ?_
  refine g_aload_n B dX8_init_173 rfl ?_
  refine g_get B C fl_X8_init_19 0 rfl rfl dX8_init_174 ?_
  refine g_iload_n B dX8_init_177 rfl ?_
  refine g_iload_n B dX8_init_178 rfl ?_
  refine g_iconst (v := 1) B dX8_init_179 (by decide) ?_
  refine g_icmp_ne_t (tgt := 187) B dX8_init_180 (by decide) (by decide) ?_
  refine g_iload_n B dX8_init_187 rfl ?_
  refine g_iconst (v := 2) B dX8_init_188 (by decide) ?_
  refine g_icmp_ne_t (tgt := 196) B dX8_init_189 (by decide) (by decide) ?_
  refine g_iload_n B dX8_init_196 rfl ?_
  refine g_iconst (v := 3) B dX8_init_197 (by decide) ?_
  refine g_icmp_ne_t (tgt := 206) B dX8_init_198 (by decide) (by decide) ?_
  refine g_iload_n B dX8_init_206 rfl ?_
  refine g_iconst (v := 4) B dX8_init_207 (by decide) ?_
  refine g_icmp_ne_t (tgt := 216) B dX8_init_208 (by decide) (by decide) ?_
  refine g_iload_n B dX8_init_216 rfl ?_
  refine g_iconst (v := 5) B dX8_init_217 (by decide) ?_
  refine g_icmp_ne_f (tgt := 225) B dX8_init_218 (by decide) (by decide) ?_
  refine g_iconst (v := -1) B dX8_init_221 (by decide) ?_
  refine g_goto (tgt := 237) B dX8_init_222 (by decide) ?_
  refine g_iast B C 5 4 0 rfl rfl (by decide) (by decide) dX8_init_237 ?_
  show GJ X (gH X D A [(h0, .inr (8, [.ref q1, .ref q2, .ref q3, .ref q4, .ref q5, .int 0, .int 0, .int 0, .ref q6, .ref q7, .ref q8, .ref q9, .ref q10, .int 0, .ref q11, .ref q12, .ref q13, .ref q14, .ref q15, .ref q16, .ref q17, .ref q18, .int 0])), (q1, .inl (tv 0, 3, .inl (fun _ => 0))), (q2, .inl (tv 0, 72, .inl (fun _ => 0))), (q3, .inl (tv 0, 3, .inl (upd (upd (upd (fun _ => 0) 0 3) 1 3) 2 3))), (q4, .inl (tv 0, 7, .inl (upd (upd (upd (upd (upd (upd (fun _ => 0) 0 0) 1 1) 2 3) 3 (-4)) 4 (-9)) 5 (-1)))), (q5, .inl (tv 0, 7, .inl (upd (upd (upd (upd (upd (fun _ => 0) 0 0) 1 2) 2 9) 3 3) 4 1))), (q6, .inl (tv 0, 72, .inl (fun _ => 0))), (q7, .inl (tv 0, 72, .inl (fun _ => 0))), (q8, .inl (tv 0, 3, .inl (fun _ => 0))), (q9, .inl (tv 0, 250, .inl (fun _ => 0))), (q10, .inl (tv 1, 1300, .inl (fun _ => 0))), (q11, .inl (tv 0, 8, .inl (fun _ => 0))), (q12, .inl (tv 0, 8, .inl (fun _ => 0))), (q13, .inl (tv 0, 8, .inl (fun _ => 0))), (q14, .inl (tv 1, 4, .inl (fun _ => 0))), (q15, .inl (tv 0, 4, .inl (fun _ => 0))), (q16, .inl (tv 0, 4, .inl (fun _ => 0))), (q17, .inl (tv 0, 192, .inl (fun _ => 0))), (q18, .inl (tv 0, 48, .inl (fun _ => 0)))]) 2 238 [some (.ref h0), some (.int 5)] [] 18 2065
  refine g_aload_n B dX8_init_238 rfl ?_
  refine g_get B C fl_X8_init_22 0 rfl rfl dX8_init_239 ?_
  refine g_iload_n B dX8_init_242 rfl ?_
  refine g_iload_n B dX8_init_243 rfl ?_
  refine g_iconst (v := 1) B dX8_init_244 (by decide) ?_
  refine g_icmp_ne_t (tgt := 252) B dX8_init_245 (by decide) (by decide) ?_
  refine g_iload_n B dX8_init_252 rfl ?_
  refine g_iconst (v := 2) B dX8_init_253 (by decide) ?_
  refine g_icmp_ne_t (tgt := 262) B dX8_init_254 (by decide) (by decide) ?_
  refine g_iload_n B dX8_init_262 rfl ?_
  refine g_iconst (v := 3) B dX8_init_263 (by decide) ?_
  refine g_icmp_ne_t (tgt := 271) B dX8_init_264 (by decide) (by decide) ?_
  refine g_iload_n B dX8_init_271 rfl ?_
  refine g_iconst (v := 4) B dX8_init_272 (by decide) ?_
  refine g_icmp_ne_t (tgt := 280) B dX8_init_273 (by decide) (by decide) ?_
  refine g_iload_n B dX8_init_280 rfl ?_
  refine g_bipush (v := 6) B dX8_init_281 (by decide) ?_
  refine g_icmp_ne_t (tgt := 290) B dX8_init_283 (by decide) (by decide) ?_
  refine g_iconst (v := 0) B dX8_init_290 (by decide) ?_
  refine g_iast B C 5 5 0 rfl rfl (by decide) (by decide) dX8_init_291 ?_
  show GJ X (gH X D A [(h0, .inr (8, [.ref q1, .ref q2, .ref q3, .ref q4, .ref q5, .int 0, .int 0, .int 0, .ref q6, .ref q7, .ref q8, .ref q9, .ref q10, .int 0, .ref q11, .ref q12, .ref q13, .ref q14, .ref q15, .ref q16, .ref q17, .ref q18, .int 0])), (q1, .inl (tv 0, 3, .inl (fun _ => 0))), (q2, .inl (tv 0, 72, .inl (fun _ => 0))), (q3, .inl (tv 0, 3, .inl (upd (upd (upd (fun _ => 0) 0 3) 1 3) 2 3))), (q4, .inl (tv 0, 7, .inl (upd (upd (upd (upd (upd (upd (fun _ => 0) 0 0) 1 1) 2 3) 3 (-4)) 4 (-9)) 5 (-1)))), (q5, .inl (tv 0, 7, .inl (upd (upd (upd (upd (upd (upd (fun _ => 0) 0 0) 1 2) 2 9) 3 3) 4 1) 5 0))), (q6, .inl (tv 0, 72, .inl (fun _ => 0))), (q7, .inl (tv 0, 72, .inl (fun _ => 0))), (q8, .inl (tv 0, 3, .inl (fun _ => 0))), (q9, .inl (tv 0, 250, .inl (fun _ => 0))), (q10, .inl (tv 1, 1300, .inl (fun _ => 0))), (q11, .inl (tv 0, 8, .inl (fun _ => 0))), (q12, .inl (tv 0, 8, .inl (fun _ => 0))), (q13, .inl (tv 0, 8, .inl (fun _ => 0))), (q14, .inl (tv 1, 4, .inl (fun _ => 0))), (q15, .inl (tv 0, 4, .inl (fun _ => 0))), (q16, .inl (tv 0, 4, .inl (fun _ => 0))), (q17, .inl (tv 0, 192, .inl (fun _ => 0))), (q18, .inl (tv 0, 48, .inl (fun _ => 0)))]) 2 292 [some (.ref h0), some (.int 5)] [] 18 2065
  refine g_iinc (v := 1) (y := 6) B dX8_init_292 rfl (by decide) (by decide) (by decide) ?_
  show GJ X (gH X D A [(h0, .inr (8, [.ref q1, .ref q2, .ref q3, .ref q4, .ref q5, .int 0, .int 0, .int 0, .ref q6, .ref q7, .ref q8, .ref q9, .ref q10, .int 0, .ref q11, .ref q12, .ref q13, .ref q14, .ref q15, .ref q16, .ref q17, .ref q18, .int 0])), (q1, .inl (tv 0, 3, .inl (fun _ => 0))), (q2, .inl (tv 0, 72, .inl (fun _ => 0))), (q3, .inl (tv 0, 3, .inl (upd (upd (upd (fun _ => 0) 0 3) 1 3) 2 3))), (q4, .inl (tv 0, 7, .inl (upd (upd (upd (upd (upd (upd (fun _ => 0) 0 0) 1 1) 2 3) 3 (-4)) 4 (-9)) 5 (-1)))), (q5, .inl (tv 0, 7, .inl (upd (upd (upd (upd (upd (upd (fun _ => 0) 0 0) 1 2) 2 9) 3 3) 4 1) 5 0))), (q6, .inl (tv 0, 72, .inl (fun _ => 0))), (q7, .inl (tv 0, 72, .inl (fun _ => 0))), (q8, .inl (tv 0, 3, .inl (fun _ => 0))), (q9, .inl (tv 0, 250, .inl (fun _ => 0))), (q10, .inl (tv 1, 1300, .inl (fun _ => 0))), (q11, .inl (tv 0, 8, .inl (fun _ => 0))), (q12, .inl (tv 0, 8, .inl (fun _ => 0))), (q13, .inl (tv 0, 8, .inl (fun _ => 0))), (q14, .inl (tv 1, 4, .inl (fun _ => 0))), (q15, .inl (tv 0, 4, .inl (fun _ => 0))), (q16, .inl (tv 0, 4, .inl (fun _ => 0))), (q17, .inl (tv 0, 192, .inl (fun _ => 0))), (q18, .inl (tv 0, 48, .inl (fun _ => 0)))]) 2 295 [some (.ref h0), some (.int 6)] [] 18 2065
  refine g_goto (tgt := 167) B dX8_init_295 (by decide) ?_
  refine g_iload_n B dX8_init_167 rfl ?_
  refine g_bipush (v := 7) B dX8_init_168 (by decide) ?_
  refine g_icmp_ge_f (tgt := 298) B dX8_init_170 (by decide) (by decide) ?_
  refine g_aload_n B dX8_init_173 rfl ?_
  refine g_get B C fl_X8_init_19 0 rfl rfl dX8_init_174 ?_
  refine g_iload_n B dX8_init_177 rfl ?_
  refine g_iload_n B dX8_init_178 rfl ?_
  refine g_iconst (v := 1) B dX8_init_179 (by decide) ?_
  refine g_icmp_ne_t (tgt := 187) B dX8_init_180 (by decide) (by decide) ?_
  refine g_iload_n B dX8_init_187 rfl ?_
  refine g_iconst (v := 2) B dX8_init_188 (by decide) ?_
  refine g_icmp_ne_t (tgt := 196) B dX8_init_189 (by decide) (by decide) ?_
  refine g_iload_n B dX8_init_196 rfl ?_
  refine g_iconst (v := 3) B dX8_init_197 (by decide) ?_
  refine g_icmp_ne_t (tgt := 206) B dX8_init_198 (by decide) (by decide) ?_
  refine g_iload_n B dX8_init_206 rfl ?_
  refine g_iconst (v := 4) B dX8_init_207 (by decide) ?_
  refine g_icmp_ne_t (tgt := 216) B dX8_init_208 (by decide) (by decide) ?_
  refine g_iload_n B dX8_init_216 rfl ?_
  refine g_iconst (v := 5) B dX8_init_217 (by decide) ?_
  refine g_icmp_ne_t (tgt := 225) B dX8_init_218 (by decide) (by decide) ?_
  refine g_iload_n B dX8_init_225 rfl ?_
  refine g_bipush (v := 6) B dX8_init_226 (by decide) ?_
  refine g_icmp_ne_f (tgt := 236) B dX8_init_228 (by decide) (by decide) ?_
  refine g_bipush (v := -2) B dX8_init_231 (by decide) ?_
  refine g_goto (tgt := 237) B dX8_init_233 (by decide) ?_
  refine g_iast B C 6 4 0 rfl rfl (by decide) (by decide) dX8_init_237 ?_
  show GJ X (gH X D A [(h0, .inr (8, [.ref q1, .ref q2, .ref q3, .ref q4, .ref q5, .int 0, .int 0, .int 0, .ref q6, .ref q7, .ref q8, .ref q9, .ref q10, .int 0, .ref q11, .ref q12, .ref q13, .ref q14, .ref q15, .ref q16, .ref q17, .ref q18, .int 0])), (q1, .inl (tv 0, 3, .inl (fun _ => 0))), (q2, .inl (tv 0, 72, .inl (fun _ => 0))), (q3, .inl (tv 0, 3, .inl (upd (upd (upd (fun _ => 0) 0 3) 1 3) 2 3))), (q4, .inl (tv 0, 7, .inl (upd (upd (upd (upd (upd (upd (upd (fun _ => 0) 0 0) 1 1) 2 3) 3 (-4)) 4 (-9)) 5 (-1)) 6 (-2)))), (q5, .inl (tv 0, 7, .inl (upd (upd (upd (upd (upd (upd (fun _ => 0) 0 0) 1 2) 2 9) 3 3) 4 1) 5 0))), (q6, .inl (tv 0, 72, .inl (fun _ => 0))), (q7, .inl (tv 0, 72, .inl (fun _ => 0))), (q8, .inl (tv 0, 3, .inl (fun _ => 0))), (q9, .inl (tv 0, 250, .inl (fun _ => 0))), (q10, .inl (tv 1, 1300, .inl (fun _ => 0))), (q11, .inl (tv 0, 8, .inl (fun _ => 0))), (q12, .inl (tv 0, 8, .inl (fun _ => 0))), (q13, .inl (tv 0, 8, .inl (fun _ => 0))), (q14, .inl (tv 1, 4, .inl (fun _ => 0))), (q15, .inl (tv 0, 4, .inl (fun _ => 0))), (q16, .inl (tv 0, 4, .inl (fun _ => 0))), (q17, .inl (tv 0, 192, .inl (fun _ => 0))), (q18, .inl (tv 0, 48, .inl (fun _ => 0)))]) 2 238 [some (.ref h0), some (.int 6)] [] 18 2065
  refine g_aload_n B dX8_init_238 rfl ?_
  refine g_get B C fl_X8_init_22 0 rfl rfl dX8_init_239 ?_
  refine g_iload_n B dX8_init_242 rfl ?_
  refine g_iload_n B dX8_init_243 rfl ?_
  refine g_iconst (v := 1) B dX8_init_244 (by decide) ?_
  refine g_icmp_ne_t (tgt := 252) B dX8_init_245 (by decide) (by decide) ?_
  refine g_iload_n B dX8_init_252 rfl ?_
  refine g_iconst (v := 2) B dX8_init_253 (by decide) ?_
  refine g_icmp_ne_t (tgt := 262) B dX8_init_254 (by decide) (by decide) ?_
  refine g_iload_n B dX8_init_262 rfl ?_
  refine g_iconst (v := 3) B dX8_init_263 (by decide) ?_
  refine g_icmp_ne_t (tgt := 271) B dX8_init_264 (by decide) (by decide) ?_
  refine g_iload_n B dX8_init_271 rfl ?_
  refine g_iconst (v := 4) B dX8_init_272 (by decide) ?_
  refine g_icmp_ne_t (tgt := 280) B dX8_init_273 (by decide) (by decide) ?_
  refine g_iload_n B dX8_init_280 rfl ?_
  refine g_bipush (v := 6) B dX8_init_281 (by decide) ?_
  refine g_icmp_ne_f (tgt := 290) B dX8_init_283 (by decide) (by decide) ?_
  refine g_iconst (v := 5) B dX8_init_286 (by decide) ?_
  refine g_goto (tgt := 291) B dX8_init_287 (by decide) ?_
  refine g_iast B C 6 5 0 rfl rfl (by decide) (by decide) dX8_init_291 ?_
  show GJ X (gH X D A [(h0, .inr (8, [.ref q1, .ref q2, .ref q3, .ref q4, .ref q5, .int 0, .int 0, .int 0, .ref q6, .ref q7, .ref q8, .ref q9, .ref q10, .int 0, .ref q11, .ref q12, .ref q13, .ref q14, .ref q15, .ref q16, .ref q17, .ref q18, .int 0])), (q1, .inl (tv 0, 3, .inl (fun _ => 0))), (q2, .inl (tv 0, 72, .inl (fun _ => 0))), (q3, .inl (tv 0, 3, .inl (upd (upd (upd (fun _ => 0) 0 3) 1 3) 2 3))), (q4, .inl (tv 0, 7, .inl (upd (upd (upd (upd (upd (upd (upd (fun _ => 0) 0 0) 1 1) 2 3) 3 (-4)) 4 (-9)) 5 (-1)) 6 (-2)))), (q5, .inl (tv 0, 7, .inl (upd (upd (upd (upd (upd (upd (upd (fun _ => 0) 0 0) 1 2) 2 9) 3 3) 4 1) 5 0) 6 5))), (q6, .inl (tv 0, 72, .inl (fun _ => 0))), (q7, .inl (tv 0, 72, .inl (fun _ => 0))), (q8, .inl (tv 0, 3, .inl (fun _ => 0))), (q9, .inl (tv 0, 250, .inl (fun _ => 0))), (q10, .inl (tv 1, 1300, .inl (fun _ => 0))), (q11, .inl (tv 0, 8, .inl (fun _ => 0))), (q12, .inl (tv 0, 8, .inl (fun _ => 0))), (q13, .inl (tv 0, 8, .inl (fun _ => 0))), (q14, .inl (tv 1, 4, .inl (fun _ => 0))), (q15, .inl (tv 0, 4, .inl (fun _ => 0))), (q16, .inl (tv 0, 4, .inl (fun _ => 0))), (q17, .inl (tv 0, 192, .inl (fun _ => 0))), (q18, .inl (tv 0, 48, .inl (fun _ => 0)))]) 2 292 [some (.ref h0), some (.int 6)] [] 18 2065
  refine g_iinc (v := 1) (y := 7) B dX8_init_292 rfl (by decide) (by decide) (by decide) ?_
  show GJ X (gH X D A [(h0, .inr (8, [.ref q1, .ref q2, .ref q3, .ref q4, .ref q5, .int 0, .int 0, .int 0, .ref q6, .ref q7, .ref q8, .ref q9, .ref q10, .int 0, .ref q11, .ref q12, .ref q13, .ref q14, .ref q15, .ref q16, .ref q17, .ref q18, .int 0])), (q1, .inl (tv 0, 3, .inl (fun _ => 0))), (q2, .inl (tv 0, 72, .inl (fun _ => 0))), (q3, .inl (tv 0, 3, .inl (upd (upd (upd (fun _ => 0) 0 3) 1 3) 2 3))), (q4, .inl (tv 0, 7, .inl (upd (upd (upd (upd (upd (upd (upd (fun _ => 0) 0 0) 1 1) 2 3) 3 (-4)) 4 (-9)) 5 (-1)) 6 (-2)))), (q5, .inl (tv 0, 7, .inl (upd (upd (upd (upd (upd (upd (upd (fun _ => 0) 0 0) 1 2) 2 9) 3 3) 4 1) 5 0) 6 5))), (q6, .inl (tv 0, 72, .inl (fun _ => 0))), (q7, .inl (tv 0, 72, .inl (fun _ => 0))), (q8, .inl (tv 0, 3, .inl (fun _ => 0))), (q9, .inl (tv 0, 250, .inl (fun _ => 0))), (q10, .inl (tv 1, 1300, .inl (fun _ => 0))), (q11, .inl (tv 0, 8, .inl (fun _ => 0))), (q12, .inl (tv 0, 8, .inl (fun _ => 0))), (q13, .inl (tv 0, 8, .inl (fun _ => 0))), (q14, .inl (tv 1, 4, .inl (fun _ => 0))), (q15, .inl (tv 0, 4, .inl (fun _ => 0))), (q16, .inl (tv 0, 4, .inl (fun _ => 0))), (q17, .inl (tv 0, 192, .inl (fun _ => 0))), (q18, .inl (tv 0, 48, .inl (fun _ => 0)))]) 2 295 [some (.ref h0), some (.int 7)] [] 18 2065
  refine g_goto (tgt := 167) B dX8_init_295 (by decide) ?_
  refine g_iload_n B dX8_init_167 rfl ?_
  refine g_bipush (v := 7) B dX8_init_168 (by decide) ?_
  refine g_icmp_ge_t (tgt := 298) B dX8_init_170 (by decide) (by decide) ?_
  refine g_aload_n B dX8_init_298 rfl ?_
  refine g_iconst (v := 5) B dX8_init_299 (by decide) ?_
  refine g_put B C fp_X8_init_65 0 rfl rfl rfl (Nat.le_of_ble_eq_true rfl) dX8_init_300 ?_
  show GJ X (gH X D A [(h0, .inr (8, [.ref q1, .ref q2, .ref q3, .ref q4, .ref q5, .int 5, .int 0, .int 0, .ref q6, .ref q7, .ref q8, .ref q9, .ref q10, .int 0, .ref q11, .ref q12, .ref q13, .ref q14, .ref q15, .ref q16, .ref q17, .ref q18, .int 0])), (q1, .inl (tv 0, 3, .inl (fun _ => 0))), (q2, .inl (tv 0, 72, .inl (fun _ => 0))), (q3, .inl (tv 0, 3, .inl (upd (upd (upd (fun _ => 0) 0 3) 1 3) 2 3))), (q4, .inl (tv 0, 7, .inl (upd (upd (upd (upd (upd (upd (upd (fun _ => 0) 0 0) 1 1) 2 3) 3 (-4)) 4 (-9)) 5 (-1)) 6 (-2)))), (q5, .inl (tv 0, 7, .inl (upd (upd (upd (upd (upd (upd (upd (fun _ => 0) 0 0) 1 2) 2 9) 3 3) 4 1) 5 0) 6 5))), (q6, .inl (tv 0, 72, .inl (fun _ => 0))), (q7, .inl (tv 0, 72, .inl (fun _ => 0))), (q8, .inl (tv 0, 3, .inl (fun _ => 0))), (q9, .inl (tv 0, 250, .inl (fun _ => 0))), (q10, .inl (tv 1, 1300, .inl (fun _ => 0))), (q11, .inl (tv 0, 8, .inl (fun _ => 0))), (q12, .inl (tv 0, 8, .inl (fun _ => 0))), (q13, .inl (tv 0, 8, .inl (fun _ => 0))), (q14, .inl (tv 1, 4, .inl (fun _ => 0))), (q15, .inl (tv 0, 4, .inl (fun _ => 0))), (q16, .inl (tv 0, 4, .inl (fun _ => 0))), (q17, .inl (tv 0, 192, .inl (fun _ => 0))), (q18, .inl (tv 0, 48, .inl (fun _ => 0)))]) 2 303 [some (.ref h0), some (.int 7)] [] 18 2065
  refine g_ret B E dX8_init_303 ?_
  exact ⟨(fun k => [h0, q1, q2, q3, q4, q5, q6, q7, q8, q9, q10, q11, q12, q13, q14, q15, q16, q17, q18].getD k 0), rfl, fun _ => in_M0⟩
