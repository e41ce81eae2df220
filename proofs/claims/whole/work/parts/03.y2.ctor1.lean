/-! the small constructors -/
abbrev hp_tys (tv : Nat → ClassId) : List (ClassId × FieldType) := [(tv 0, .int), (tv 1, .boolean), (tv 2, .object RX1), (tv 3, .object RX0), (tv 4, .object RX4)]
abbrev rm_X0_init : Room := { frames := 1, cells := 2, slots := 48, locals := 12 }
set_option maxRecDepth 20000 in
theorem us_X0_init_0 : ∀ w ∈ u_ws RX0 TX0 3, w ∈ wsX0_init := by decide +kernel
set_option maxRecDepth 20000 in
theorem fq_X0_init_9 : FQ RX0 wsX0_init 9 0 0 (tyX0 0) := ⟨RX0, TX0, 3, tyX0, rfl, by decide, us_X0_init_0, by decide +kernel, tyX0_ok, nmX0, rfl, rfl, rfl⟩
set_option maxRecDepth 20000 in
theorem fq_X0_init_15 : FQ RX0 wsX0_init 15 0 1 (tyX0 1) := ⟨RX0, TX0, 3, tyX0, rfl, by decide, us_X0_init_0, by decide +kernel, tyX0_ok, nmX0, rfl, rfl, rfl⟩
set_option maxRecDepth 20000 in
theorem fp_X0_init_18 : FP RX0 wsX0_init 18 0 2 (tyX0 2) := ⟨RX0, TX0, 3, tyX0, rfl, by decide, us_X0_init_0, by decide +kernel, tyX0_ok, nmX0, rfl, rfl⟩

set_option maxHeartbeats 8000000 in
set_option maxRecDepth 100000 in
theorem c_X0_init {l : Launch} {D : va_G} {tv : Nat → ClassId} {h0 : Nat} : IC l D (hp_tys tv) (fun _ => True) yX0_init wsX0_init rm_X0_init h0 0 [.null, .null, .int 0] 2 48 (fun w => ∃ q1 q2 : Nat, w = [(h0, .inr (0, [.ref q1, .ref q2, .int 0])), (q1, .inl (tv 0, 24, .inl (fun _ => 0))), (q2, .inl (tv 0, 24, .inl (fun _ => 0)))]) := by
  refine g_enter (by decide) rfl rfl (Nat.le_of_ble_eq_true rfl) ?_
  intro X A B C E
  have B : GB X l rm_X0_init RX0 cX0_init wsX0_init 1 := B
  show GJ X (gH X D A [(h0, .inr (0, [.null, .null, .int 0]))]) 1 0 [some (.ref h0)] [] 0 0
  refine g_aload_n B dX0_init_0 rfl ?_
  refine g_objInit B (by decide +kernel) (by decide +kernel) (by decide +kernel) (Nat.le_of_ble_eq_true rfl) (Nat.le_of_ble_eq_true rfl) dX0_init_1 ?_
  refine g_aload_n B dX0_init_4 rfl ?_
  refine g_bipush (v := 24) B dX0_init_5 (by decide) ?_
  refine g_newI (t0 := 0) (N := 24) B C rfl (by decide +kernel) (by decide) (by decide) (by decide) (Nat.le_of_ble_eq_true rfl) (Nat.le_of_ble_eq_true rfl) dX0_init_7 (fun q1 => ?_)
  show GJ X (gH X D A [(h0, .inr (0, [.null, .null, .int 0])), (q1, .inl (tv 0, 24, .inl (fun _ => 0)))]) 1 9 [some (.ref h0)] [.ref q1, .ref h0] 1 24
  refine g_putF B C fq_X0_init_9 0 rfl rfl rfl (Nat.le_of_ble_eq_true rfl) dX0_init_9 ?_
  show GJ X (gH X D A [(h0, .inr (0, [.ref q1, .null, .int 0])), (q1, .inl (tv 0, 24, .inl (fun _ => 0)))]) 1 12 [some (.ref h0)] [] 1 24
  refine g_aload_n B dX0_init_12 rfl ?_
  refine g_bipush (v := 24) B dX0_init_13 (by decide) ?_
  refine g_newI (t0 := 0) (N := 24) B C rfl (by decide +kernel) (by decide) (by decide) (by decide) (Nat.le_of_ble_eq_true rfl) (Nat.le_of_ble_eq_true rfl) dX0_init_15 (fun q2 => ?_)
  show GJ X (gH X D A [(h0, .inr (0, [.ref q1, .null, .int 0])), (q1, .inl (tv 0, 24, .inl (fun _ => 0))), (q2, .inl (tv 0, 24, .inl (fun _ => 0)))]) 1 17 [some (.ref h0)] [.ref q2, .ref h0] 2 48
  refine g_putF B C fq_X0_init_15 0 rfl rfl rfl (Nat.le_of_ble_eq_true rfl) dX0_init_17 ?_
  show GJ X (gH X D A [(h0, .inr (0, [.ref q1, .ref q2, .int 0])), (q1, .inl (tv 0, 24, .inl (fun _ => 0))), (q2, .inl (tv 0, 24, .inl (fun _ => 0)))]) 1 20 [some (.ref h0)] [] 2 48
  refine g_aload_n B dX0_init_20 rfl ?_
  refine g_iconst (v := 0) B dX0_init_21 (by decide) ?_
  refine g_put B C fp_X0_init_18 0 rfl rfl rfl (Nat.le_of_ble_eq_true rfl) dX0_init_22 ?_
  show GJ X (gH X D A [(h0, .inr (0, [.ref q1, .ref q2, .int 0])), (q1, .inl (tv 0, 24, .inl (fun _ => 0))), (q2, .inl (tv 0, 24, .inl (fun _ => 0)))]) 1 25 [some (.ref h0)] [] 2 48
  refine g_ret B E dX0_init_25 ?_
  exact ⟨q1, q2, rfl⟩

abbrev rm_X1_init : Room := { frames := 1, cells := 1, slots := 24, locals := 12 }
set_option maxRecDepth 20000 in
theorem us_X1_init_1 : ∀ w ∈ u_ws RX1 TX1 4, w ∈ wsX1_init := by decide +kernel
set_option maxRecDepth 20000 in
theorem fq_X1_init_9 : FQ RX1 wsX1_init 9 1 0 (tyX1 0) := ⟨RX1, TX1, 4, tyX1, rfl, by decide, us_X1_init_1, by decide +kernel, tyX1_ok, nmX1, rfl, rfl, rfl⟩
set_option maxRecDepth 20000 in
theorem fp_X1_init_15 : FP RX1 wsX1_init 15 1 1 (tyX1 1) := ⟨RX1, TX1, 4, tyX1, rfl, by decide, us_X1_init_1, by decide +kernel, tyX1_ok, nmX1, rfl, rfl⟩
set_option maxRecDepth 20000 in
theorem fp_X1_init_19 : FP RX1 wsX1_init 19 1 2 (tyX1 2) := ⟨RX1, TX1, 4, tyX1, rfl, by decide, us_X1_init_1, by decide +kernel, tyX1_ok, nmX1, rfl, rfl⟩
set_option maxRecDepth 20000 in
theorem fp_X1_init_22 : FP RX1 wsX1_init 22 1 3 (tyX1 3) := ⟨RX1, TX1, 4, tyX1, rfl, by decide, us_X1_init_1, by decide +kernel, tyX1_ok, nmX1, rfl, rfl⟩

set_option maxHeartbeats 8000000 in
set_option maxRecDepth 100000 in
theorem c_X1_init {l : Launch} {D : va_G} {tv : Nat → ClassId} {h0 : Nat} : IC l D (hp_tys tv) (fun _ => True) yX1_init wsX1_init rm_X1_init h0 1 [.null, .int 0, .int 0, .int 0] 1 24 (fun w => ∃ q1 : Nat, w = [(h0, .inr (1, [.ref q1, .int 0, .int (-1), .int 3])), (q1, .inl (tv 0, 24, .inl (fun _ => 0)))]) := by
  refine g_enter (by decide) rfl rfl (Nat.le_of_ble_eq_true rfl) ?_
  intro X A B C E
  have B : GB X l rm_X1_init RX1 cX1_init wsX1_init 1 := B
  show GJ X (gH X D A [(h0, .inr (1, [.null, .int 0, .int 0, .int 0]))]) 1 0 [some (.ref h0)] [] 0 0
  refine g_aload_n B dX1_init_0 rfl ?_
  refine g_objInit B (by decide +kernel) (by decide +kernel) (by decide +kernel) (Nat.le_of_ble_eq_true rfl) (Nat.le_of_ble_eq_true rfl) dX1_init_1 ?_
  refine g_aload_n B dX1_init_4 rfl ?_
  refine g_bipush (v := 24) B dX1_init_5 (by decide) ?_
  refine g_newI (t0 := 0) (N := 24) B C rfl (by decide +kernel) (by decide) (by decide) (by decide) (Nat.le_of_ble_eq_true rfl) (Nat.le_of_ble_eq_true rfl) dX1_init_7 (fun q1 => ?_)
  show GJ X (gH X D A [(h0, .inr (1, [.null, .int 0, .int 0, .int 0])), (q1, .inl (tv 0, 24, .inl (fun _ => 0)))]) 1 9 [some (.ref h0)] [.ref q1, .ref h0] 1 24
  refine g_putF B C fq_X1_init_9 0 rfl rfl rfl (Nat.le_of_ble_eq_true rfl) dX1_init_9 ?_
  show GJ X (gH X D A [(h0, .inr (1, [.ref q1, .int 0, .int 0, .int 0])), (q1, .inl (tv 0, 24, .inl (fun _ => 0)))]) 1 12 [some (.ref h0)] [] 1 24
  refine g_aload_n B dX1_init_12 rfl ?_
  refine g_iconst (v := 0) B dX1_init_13 (by decide) ?_
  refine g_put B C fp_X1_init_15 0 rfl rfl rfl (Nat.le_of_ble_eq_true rfl) dX1_init_14 ?_
  show GJ X (gH X D A [(h0, .inr (1, [.ref q1, .int 0, .int 0, .int 0])), (q1, .inl (tv 0, 24, .inl (fun _ => 0)))]) 1 17 [some (.ref h0)] [] 1 24
  refine g_aload_n B dX1_init_17 rfl ?_
  refine g_iconst (v := -1) B dX1_init_18 (by decide) ?_
  refine g_put B C fp_X1_init_19 0 rfl rfl rfl (Nat.le_of_ble_eq_true rfl) dX1_init_19 ?_
  show GJ X (gH X D A [(h0, .inr (1, [.ref q1, .int 0, .int (-1), .int 0])), (q1, .inl (tv 0, 24, .inl (fun _ => 0)))]) 1 22 [some (.ref h0)] [] 1 24
  refine g_aload_n B dX1_init_22 rfl ?_
  refine g_iconst (v := 3) B dX1_init_23 (by decide) ?_
  refine g_put B C fp_X1_init_22 0 rfl rfl rfl (Nat.le_of_ble_eq_true rfl) dX1_init_24 ?_
  show GJ X (gH X D A [(h0, .inr (1, [.ref q1, .int 0, .int (-1), .int 3])), (q1, .inl (tv 0, 24, .inl (fun _ => 0)))]) 1 27 [some (.ref h0)] [] 1 24
  refine g_ret B E dX1_init_27 ?_
  exact ⟨q1, rfl⟩

abbrev rm_X2_init : Room := { frames := 1, cells := 2, slots := 490, locals := 12 }
set_option maxRecDepth 20000 in
theorem us_X2_init_2 : ∀ w ∈ u_ws RX2 TX2 2, w ∈ wsX2_init := by decide +kernel
set_option maxRecDepth 20000 in
theorem fq_X2_init_9 : FQ RX2 wsX2_init 9 2 0 (tyX2 0) := ⟨RX2, TX2, 2, tyX2, rfl, by decide, us_X2_init_2, by decide +kernel, tyX2_ok, nmX2, rfl, rfl, rfl⟩
set_option maxRecDepth 20000 in
theorem fq_X2_init_15 : FQ RX2 wsX2_init 15 2 1 (tyX2 1) := ⟨RX2, TX2, 2, tyX2, rfl, by decide, us_X2_init_2, by decide +kernel, tyX2_ok, nmX2, rfl, rfl, rfl⟩

set_option maxHeartbeats 8000000 in
set_option maxRecDepth 100000 in
theorem c_X2_init {l : Launch} {D : va_G} {tv : Nat → ClassId} {h0 : Nat} : IC l D (hp_tys tv) (fun _ => True) yX2_init wsX2_init rm_X2_init h0 2 [.null, .null] 2 490 (fun w => ∃ q1 q2 : Nat, w = [(h0, .inr (2, [.ref q1, .ref q2])), (q1, .inl (tv 0, 250, .inl (fun _ => 0))), (q2, .inl (tv 0, 240, .inl (fun _ => 0)))]) := by
  refine g_enter (by decide) rfl rfl (Nat.le_of_ble_eq_true rfl) ?_
  intro X A B C E
  have B : GB X l rm_X2_init RX2 cX2_init wsX2_init 1 := B
  show GJ X (gH X D A [(h0, .inr (2, [.null, .null]))]) 1 0 [some (.ref h0)] [] 0 0
  refine g_aload_n B dX2_init_0 rfl ?_
  refine g_objInit B (by decide +kernel) (by decide +kernel) (by decide +kernel) (Nat.le_of_ble_eq_true rfl) (Nat.le_of_ble_eq_true rfl) dX2_init_1 ?_
  refine g_aload_n B dX2_init_4 rfl ?_
  refine g_sipush (v := 250) B dX2_init_5 (by decide) ?_
  refine g_newI (t0 := 0) (N := 250) B C rfl (by decide +kernel) (by decide) (by decide) (by decide) (Nat.le_of_ble_eq_true rfl) (Nat.le_of_ble_eq_true rfl) dX2_init_8 (fun q1 => ?_)
  show GJ X (gH X D A [(h0, .inr (2, [.null, .null])), (q1, .inl (tv 0, 250, .inl (fun _ => 0)))]) 1 10 [some (.ref h0)] [.ref q1, .ref h0] 1 250
  refine g_putF B C fq_X2_init_9 0 rfl rfl rfl (Nat.le_of_ble_eq_true rfl) dX2_init_10 ?_
  show GJ X (gH X D A [(h0, .inr (2, [.ref q1, .null])), (q1, .inl (tv 0, 250, .inl (fun _ => 0)))]) 1 13 [some (.ref h0)] [] 1 250
  refine g_aload_n B dX2_init_13 rfl ?_
  refine g_sipush (v := 240) B dX2_init_14 (by decide) ?_
  refine g_newI (t0 := 0) (N := 240) B C rfl (by decide +kernel) (by decide) (by decide) (by decide) (Nat.le_of_ble_eq_true rfl) (Nat.le_of_ble_eq_true rfl) dX2_init_17 (fun q2 => ?_)
  show GJ X (gH X D A [(h0, .inr (2, [.ref q1, .null])), (q1, .inl (tv 0, 250, .inl (fun _ => 0))), (q2, .inl (tv 0, 240, .inl (fun _ => 0)))]) 1 19 [some (.ref h0)] [.ref q2, .ref h0] 2 490
  refine g_putF B C fq_X2_init_15 0 rfl rfl rfl (Nat.le_of_ble_eq_true rfl) dX2_init_19 ?_
  show GJ X (gH X D A [(h0, .inr (2, [.ref q1, .ref q2])), (q1, .inl (tv 0, 250, .inl (fun _ => 0))), (q2, .inl (tv 0, 240, .inl (fun _ => 0)))]) 1 22 [some (.ref h0)] [] 2 490
  refine g_ret B E dX2_init_22 ?_
  exact ⟨q1, q2, rfl⟩

abbrev rm_X3_init : Room := { frames := 1, cells := 2, slots := 14, locals := 12 }
set_option maxRecDepth 20000 in
theorem us_X3_init_3 : ∀ w ∈ u_ws RX3 TX3 5, w ∈ wsX3_init := by decide +kernel
set_option maxRecDepth 20000 in
theorem fq_X3_init_9 : FQ RX3 wsX3_init 9 3 0 (tyX3 0) := ⟨RX3, TX3, 5, tyX3, rfl, by decide, us_X3_init_3, by decide +kernel, tyX3_ok, nmX3, rfl, rfl, rfl⟩
set_option maxRecDepth 20000 in
theorem fq_X3_init_15 : FQ RX3 wsX3_init 15 3 1 (tyX3 1) := ⟨RX3, TX3, 5, tyX3, rfl, by decide, us_X3_init_3, by decide +kernel, tyX3_ok, nmX3, rfl, rfl, rfl⟩
set_option maxRecDepth 20000 in
theorem fp_X3_init_18 : FP RX3 wsX3_init 18 3 2 (tyX3 2) := ⟨RX3, TX3, 5, tyX3, rfl, by decide, us_X3_init_3, by decide +kernel, tyX3_ok, nmX3, rfl, rfl⟩
set_option maxRecDepth 20000 in
theorem fp_X3_init_22 : FP RX3 wsX3_init 22 3 3 (tyX3 3) := ⟨RX3, TX3, 5, tyX3, rfl, by decide, us_X3_init_3, by decide +kernel, tyX3_ok, nmX3, rfl, rfl⟩
set_option maxRecDepth 20000 in
theorem fp_X3_init_25 : FP RX3 wsX3_init 25 3 4 (tyX3 4) := ⟨RX3, TX3, 5, tyX3, rfl, by decide, us_X3_init_3, by decide +kernel, tyX3_ok, nmX3, rfl, rfl⟩

set_option maxHeartbeats 8000000 in
set_option maxRecDepth 100000 in
theorem c_X3_init {l : Launch} {D : va_G} {tv : Nat → ClassId} {h0 : Nat} : IC l D (hp_tys tv) (fun _ => True) yX3_init wsX3_init rm_X3_init h0 3 [.null, .null, .int 0, .int 0, .int 0] 2 14 (fun w => ∃ q1 q2 : Nat, w = [(h0, .inr (3, [.ref q1, .ref q2, .int 5, .int 0, .int 0])), (q1, .inl (tv 0, 7, .inl (upd (upd (upd (upd (upd (upd (upd (fun _ => 0) 0 0) 1 1) 2 3) 3 (-4)) 4 (-9)) 5 (-1)) 6 (-2)))), (q2, .inl (tv 0, 7, .inl (upd (upd (upd (upd (upd (upd (upd (fun _ => 0) 0 0) 1 2) 2 9) 3 3) 4 1) 5 0) 6 5)))]) := by
  refine g_enter (by decide) rfl rfl (Nat.le_of_ble_eq_true rfl) ?_
  intro X A B C E
  have B : GB X l rm_X3_init RX3 cX3_init wsX3_init 1 := B
  show GJ X (gH X D A [(h0, .inr (3, [.null, .null, .int 0, .int 0, .int 0]))]) 1 0 [some (.ref h0)] [] 0 0
  refine g_aload_n B dX3_init_0 rfl ?_
  refine g_objInit B (by decide +kernel) (by decide +kernel) (by decide +kernel) (Nat.le_of_ble_eq_true rfl) (Nat.le_of_ble_eq_true rfl) dX3_init_1 ?_
  refine g_aload_n B dX3_init_4 rfl ?_
  refine g_bipush (v := 7) B dX3_init_5 (by decide) ?_
  refine g_newI (t0 := 0) (N := 7) B C rfl (by decide +kernel) (by decide) (by decide) (by decide) (Nat.le_of_ble_eq_true rfl) (Nat.le_of_ble_eq_true rfl) dX3_init_7 (fun q1 => ?_)
  show GJ X (gH X D A [(h0, .inr (3, [.null, .null, .int 0, .int 0, .int 0])), (q1, .inl (tv 0, 7, .inl (fun _ => 0)))]) 1 9 [some (.ref h0)] [.ref q1, .ref h0] 1 7
  refine g_dup B dX3_init_9 rfl ?_
  refine g_iconst (v := 0) B dX3_init_10 (by decide) ?_
  refine g_iconst (v := 0) B dX3_init_11 (by decide) ?_
  refine g_iast B C 0 1 0 rfl rfl (by decide) (by decide) dX3_init_12 ?_
  show GJ X (gH X D A [(h0, .inr (3, [.null, .null, .int 0, .int 0, .int 0])), (q1, .inl (tv 0, 7, .inl (upd (fun _ => 0) 0 0)))]) 1 13 [some (.ref h0)] [.ref q1, .ref h0] 1 7
  refine g_dup B dX3_init_13 rfl ?_
  refine g_iconst (v := 1) B dX3_init_14 (by decide) ?_
  refine g_iconst (v := 1) B dX3_init_15 (by decide) ?_
  refine g_iast B C 1 1 0 rfl rfl (by decide) (by decide) dX3_init_16 ?_
  show GJ X (gH X D A [(h0, .inr (3, [.null, .null, .int 0, .int 0, .int 0])), (q1, .inl (tv 0, 7, .inl (upd (upd (fun _ => 0) 0 0) 1 1)))]) 1 17 [some (.ref h0)] [.ref q1, .ref h0] 1 7
  refine g_dup B dX3_init_17 rfl ?_
  refine g_iconst (v := 2) B dX3_init_18 (by decide) ?_
  refine g_iconst (v := 3) B dX3_init_19 (by decide) ?_
  refine g_iast B C 2 1 0 rfl rfl (by decide) (by decide) dX3_init_20 ?_
  show GJ X (gH X D A [(h0, .inr (3, [.null, .null, .int 0, .int 0, .int 0])), (q1, .inl (tv 0, 7, .inl (upd (upd (upd (fun _ => 0) 0 0) 1 1) 2 3)))]) 1 21 [some (.ref h0)] [.ref q1, .ref h0] 1 7
  refine g_dup B dX3_init_21 rfl ?_
  refine g_iconst (v := 3) B dX3_init_22 (by decide) ?_
  refine g_bipush (v := -4) B dX3_init_23 (by decide) ?_
  refine g_iast B C 3 1 0 rfl rfl (by decide) (by decide) dX3_init_25 ?_
  show GJ X (gH X D A [(h0, .inr (3, [.null, .null, .int 0, .int 0, .int 0])), (q1, .inl (tv 0, 7, .inl (upd (upd (upd (upd (fun _ => 0) 0 0) 1 1) 2 3) 3 (-4))))]) 1 26 [some (.ref h0)] [.ref q1, .ref h0] 1 7
  refine g_dup B dX3_init_26 rfl ?_
  refine g_iconst (v := 4) B dX3_init_27 (by decide) ?_
  refine g_bipush (v := -9) B dX3_init_28 (by decide) ?_
  refine g_iast B C 4 1 0 rfl rfl (by decide) (by decide) dX3_init_30 ?_
  show GJ X (gH X D A [(h0, .inr (3, [.null, .null, .int 0, .int 0, .int 0])), (q1, .inl (tv 0, 7, .inl (upd (upd (upd (upd (upd (fun _ => 0) 0 0) 1 1) 2 3) 3 (-4)) 4 (-9))))]) 1 31 [some (.ref h0)] [.ref q1, .ref h0] 1 7
  refine g_dup B dX3_init_31 rfl ?_
  refine g_iconst (v := 5) B dX3_init_32 (by decide) ?_
  refine g_iconst (v := -1) B dX3_init_33 (by decide) ?_
  refine g_iast B C 5 1 0 rfl rfl (by decide) (by decide) dX3_init_34 ?_
  show GJ X (gH X D A [(h0, .inr (3, [.null, .null, .int 0, .int 0, .int 0])), (q1, .inl (tv 0, 7, .inl (upd (upd (upd (upd (upd (upd (fun _ => 0) 0 0) 1 1) 2 3) 3 (-4)) 4 (-9)) 5 (-1))))]) 1 35 [some (.ref h0)] [.ref q1, .ref h0] 1 7
  refine g_dup B dX3_init_35 rfl ?_
  refine g_bipush (v := 6) B dX3_init_36 (by decide) ?_
  refine g_bipush (v := -2) B dX3_init_38 (by decide) ?_
  refine g_iast B C 6 1 0 rfl rfl (by decide) (by decide) dX3_init_40 ?_
  show GJ X (gH X D A [(h0, .inr (3, [.null, .null, .int 0, .int 0, .int 0])), (q1, .inl (tv 0, 7, .inl (upd (upd (upd (upd (upd (upd (upd (fun _ => 0) 0 0) 1 1) 2 3) 3 (-4)) 4 (-9)) 5 (-1)) 6 (-2))))]) 1 41 [some (.ref h0)] [.ref q1, .ref h0] 1 7
  refine g_putF B C fq_X3_init_9 0 rfl rfl rfl (Nat.le_of_ble_eq_true rfl) dX3_init_41 ?_
  show GJ X (gH X D A [(h0, .inr (3, [.ref q1, .null, .int 0, .int 0, .int 0])), (q1, .inl (tv 0, 7, .inl (upd (upd (upd (upd (upd (upd (upd (fun _ => 0) 0 0) 1 1) 2 3) 3 (-4)) 4 (-9)) 5 (-1)) 6 (-2))))]) 1 44 [some (.ref h0)] [] 1 7
  refine g_aload_n B dX3_init_44 rfl ?_
  refine g_bipush (v := 7) B dX3_init_45 (by decide) ?_
  refine g_newI (t0 := 0) (N := 7) B C rfl (by decide +kernel) (by decide) (by decide) (by decide) (Nat.le_of_ble_eq_true rfl) (Nat.le_of_ble_eq_true rfl) dX3_init_47 (fun q2 => ?_)
  show GJ X (gH X D A [(h0, .inr (3, [.ref q1, .null, .int 0, .int 0, .int 0])), (q1, .inl (tv 0, 7, .inl (upd (upd (upd (upd (upd (upd (upd (fun _ => 0) 0 0) 1 1) 2 3) 3 (-4)) 4 (-9)) 5 (-1)) 6 (-2)))), (q2, .inl (tv 0, 7, .inl (fun _ => 0)))]) 1 49 [some (.ref h0)] [.ref q2, .ref h0] 2 14
  refine g_dup B dX3_init_49 rfl ?_
  refine g_iconst (v := 0) B dX3_init_50 (by decide) ?_
  refine g_iconst (v := 0) B dX3_init_51 (by decide) ?_
  refine g_iast B C 0 2 0 rfl rfl (by decide) (by decide) dX3_init_52 ?_
  show GJ X (gH X D A [(h0, .inr (3, [.ref q1, .null, .int 0, .int 0, .int 0])), (q1, .inl (tv 0, 7, .inl (upd (upd (upd (upd (upd (upd (upd (fun _ => 0) 0 0) 1 1) 2 3) 3 (-4)) 4 (-9)) 5 (-1)) 6 (-2)))), (q2, .inl (tv 0, 7, .inl (upd (fun _ => 0) 0 0)))]) 1 53 [some (.ref h0)] [.ref q2, .ref h0] 2 14
  refine g_dup B dX3_init_53 rfl ?_
  refine g_iconst (v := 1) B dX3_init_54 (by decide) ?_
  refine g_iconst (v := 2) B dX3_init_55 (by decide) ?_
  refine g_iast B C 1 2 0 rfl rfl (by decide) (by decide) dX3_init_56 ?_
  show GJ X (gH X D A [(h0, .inr (3, [.ref q1, .null, .int 0, .int 0, .int 0])), (q1, .inl (tv 0, 7, .inl (upd (upd (upd (upd (upd (upd (upd (fun _ => 0) 0 0) 1 1) 2 3) 3 (-4)) 4 (-9)) 5 (-1)) 6 (-2)))), (q2, .inl (tv 0, 7, .inl (upd (upd (fun _ => 0) 0 0) 1 2)))]) 1 57 [some (.ref h0)] [.ref q2, .ref h0] 2 14
  refine g_dup B dX3_init_57 rfl ?_
  refine g_iconst (v := 2) B dX3_init_58 (by decide) ?_
  refine g_bipush (v := 9) B dX3_init_59 (by decide) ?_
  refine g_iast B C 2 2 0 rfl rfl (by decide) (by decide) dX3_init_61 ?_
  show GJ X (gH X D A [(h0, .inr (3, [.ref q1, .null, .int 0, .int 0, .int 0])), (q1, .inl (tv 0, 7, .inl (upd (upd (upd (upd (upd (upd (upd (fun _ => 0) 0 0) 1 1) 2 3) 3 (-4)) 4 (-9)) 5 (-1)) 6 (-2)))), (q2, .inl (tv 0, 7, .inl (upd (upd (upd (fun _ => 0) 0 0) 1 2) 2 9)))]) 1 62 [some (.ref h0)] [.ref q2, .ref h0] 2 14
  refine g_dup B dX3_init_62 rfl ?_
  refine g_iconst (v := 3) B dX3_init_63 (by decide) ?_
  refine g_iconst (v := 3) B dX3_init_64 (by decide) ?_
  refine g_iast B C 3 2 0 rfl rfl (by decide) (by decide) dX3_init_65 ?_
  show GJ X (gH X D A [(h0, .inr (3, [.ref q1, .null, .int 0, .int 0, .int 0])), (q1, .inl (tv 0, 7, .inl (upd (upd (upd (upd (upd (upd (upd (fun _ => 0) 0 0) 1 1) 2 3) 3 (-4)) 4 (-9)) 5 (-1)) 6 (-2)))), (q2, .inl (tv 0, 7, .inl (upd (upd (upd (upd (fun _ => 0) 0 0) 1 2) 2 9) 3 3)))]) 1 66 [some (.ref h0)] [.ref q2, .ref h0] 2 14
  refine g_dup B dX3_init_66 rfl ?_
  refine g_iconst (v := 4) B dX3_init_67 (by decide) ?_
  refine g_iconst (v := 1) B dX3_init_68 (by decide) ?_
  refine g_iast B C 4 2 0 rfl rfl (by decide) (by decide) dX3_init_69 ?_
  show GJ X (gH X D A [(h0, .inr (3, [.ref q1, .null, .int 0, .int 0, .int 0])), (q1, .inl (tv 0, 7, .inl (upd (upd (upd (upd (upd (upd (upd (fun _ => 0) 0 0) 1 1) 2 3) 3 (-4)) 4 (-9)) 5 (-1)) 6 (-2)))), (q2, .inl (tv 0, 7, .inl (upd (upd (upd (upd (upd (fun _ => 0) 0 0) 1 2) 2 9) 3 3) 4 1)))]) 1 70 [some (.ref h0)] [.ref q2, .ref h0] 2 14
  refine g_dup B dX3_init_70 rfl ?_
  refine g_iconst (v := 5) B dX3_init_71 (by decide) ?_
  refine g_iconst (v := 0) B dX3_init_72 (by decide) ?_
  refine g_iast B C 5 2 0 rfl rfl (by decide) (by decide) dX3_init_73 ?_
  show GJ X (gH X D A [(h0, .inr (3, [.ref q1, .null, .int 0, .int 0, .int 0])), (q1, .inl (tv 0, 7, .inl (upd (upd (upd (upd (upd (upd (upd (fun _ => 0) 0 0) 1 1) 2 3) 3 (-4)) 4 (-9)) 5 (-1)) 6 (-2)))), (q2, .inl (tv 0, 7, .inl (upd (upd (upd (upd (upd (upd (fun _ => 0) 0 0) 1 2) 2 9) 3 3) 4 1) 5 0)))]) 1 74 [some (.ref h0)] [.ref q2, .ref h0] 2 14
  refine g_dup B dX3_init_74 rfl ?_
  refine g_bipush (v := 6) B dX3_init_75 (by decide) ?_
  refine g_iconst (v := 5) B dX3_init_77 (by decide) ?_
  refine g_iast B C 6 2 0 rfl rfl (by decide) (by decide) dX3_init_78 ?_
  show GJ X (gH X D A [(h0, .inr (3, [.ref q1, .null, .int 0, .int 0, .int 0])), (q1, .inl (tv 0, 7, .inl (upd (upd (upd (upd (upd (upd (upd (fun _ => 0) 0 0) 1 1) 2 3) 3 (-4)) 4 (-9)) 5 (-1)) 6 (-2)))), (q2, .inl (tv 0, 7, .inl (upd (upd (upd (upd (upd (upd (upd (fun _ => 0) 0 0) 1 2) 2 9) 3 3) 4 1) 5 0) 6 5)))]) 1 79 [some (.ref h0)] [.ref q2, .ref h0] 2 14
  refine g_putF B C fq_X3_init_15 0 rfl rfl rfl (Nat.le_of_ble_eq_true rfl) dX3_init_79 ?_
  show GJ X (gH X D A [(h0, .inr (3, [.ref q1, .ref q2, .int 0, .int 0, .int 0])), (q1, .inl (tv 0, 7, .inl (upd (upd (upd (upd (upd (upd (upd (fun _ => 0) 0 0) 1 1) 2 3) 3 (-4)) 4 (-9)) 5 (-1)) 6 (-2)))), (q2, .inl (tv 0, 7, .inl (upd (upd (upd (upd (upd (upd (upd (fun _ => 0) 0 0) 1 2) 2 9) 3 3) 4 1) 5 0) 6 5)))]) 1 82 [some (.ref h0)] [] 2 14
  refine g_aload_n B dX3_init_82 rfl ?_
  refine g_iconst (v := 5) B dX3_init_83 (by decide) ?_
  refine g_put B C fp_X3_init_18 0 rfl rfl rfl (Nat.le_of_ble_eq_true rfl) dX3_init_84 ?_
  show GJ X (gH X D A [(h0, .inr (3, [.ref q1, .ref q2, .int 5, .int 0, .int 0])), (q1, .inl (tv 0, 7, .inl (upd (upd (upd (upd (upd (upd (upd (fun _ => 0) 0 0) 1 1) 2 3) 3 (-4)) 4 (-9)) 5 (-1)) 6 (-2)))), (q2, .inl (tv 0, 7, .inl (upd (upd (upd (upd (upd (upd (upd (fun _ => 0) 0 0) 1 2) 2 9) 3 3) 4 1) 5 0) 6 5)))]) 1 87 [some (.ref h0)] [] 2 14
  refine g_aload_n B dX3_init_87 rfl ?_
  refine g_iconst (v := 0) B dX3_init_88 (by decide) ?_
  refine g_put B C fp_X3_init_22 0 rfl rfl rfl (Nat.le_of_ble_eq_true rfl) dX3_init_89 ?_
  show GJ X (gH X D A [(h0, .inr (3, [.ref q1, .ref q2, .int 5, .int 0, .int 0])), (q1, .inl (tv 0, 7, .inl (upd (upd (upd (upd (upd (upd (upd (fun _ => 0) 0 0) 1 1) 2 3) 3 (-4)) 4 (-9)) 5 (-1)) 6 (-2)))), (q2, .inl (tv 0, 7, .inl (upd (upd (upd (upd (upd (upd (upd (fun _ => 0) 0 0) 1 2) 2 9) 3 3) 4 1) 5 0) 6 5)))]) 1 92 [some (.ref h0)] [] 2 14
  refine g_aload_n B dX3_init_92 rfl ?_
  refine g_iconst (v := 0) B dX3_init_93 (by decide) ?_
  refine g_put B C fp_X3_init_25 0 rfl rfl rfl (Nat.le_of_ble_eq_true rfl) dX3_init_94 ?_
  show GJ X (gH X D A [(h0, .inr (3, [.ref q1, .ref q2, .int 5, .int 0, .int 0])), (q1, .inl (tv 0, 7, .inl (upd (upd (upd (upd (upd (upd (upd (fun _ => 0) 0 0) 1 1) 2 3) 3 (-4)) 4 (-9)) 5 (-1)) 6 (-2)))), (q2, .inl (tv 0, 7, .inl (upd (upd (upd (upd (upd (upd (upd (fun _ => 0) 0 0) 1 2) 2 9) 3 3) 4 1) 5 0) 6 5)))]) 1 97 [some (.ref h0)] [] 2 14
  refine g_ret B E dX3_init_97 ?_
  exact ⟨q1, q2, rfl⟩

abbrev rm_X4_init : Room := { frames := 1, cells := 1, slots := 48, locals := 12 }
set_option maxRecDepth 20000 in
theorem us_X4_init_4 : ∀ w ∈ u_ws RX4 TX4 4, w ∈ wsX4_init := by decide +kernel
set_option maxRecDepth 20000 in
theorem fq_X4_init_9 : FQ RX4 wsX4_init 9 4 0 (tyX4 0) := ⟨RX4, TX4, 4, tyX4, rfl, by decide, us_X4_init_4, by decide +kernel, tyX4_ok, nmX4, rfl, rfl, rfl⟩
set_option maxRecDepth 20000 in
theorem fp_X4_init_15 : FP RX4 wsX4_init 15 4 1 (tyX4 1) := ⟨RX4, TX4, 4, tyX4, rfl, by decide, us_X4_init_4, by decide +kernel, tyX4_ok, nmX4, rfl, rfl⟩
set_option maxRecDepth 20000 in
theorem fp_X4_init_19 : FP RX4 wsX4_init 19 4 2 (tyX4 2) := ⟨RX4, TX4, 4, tyX4, rfl, by decide, us_X4_init_4, by decide +kernel, tyX4_ok, nmX4, rfl, rfl⟩
set_option maxRecDepth 20000 in
theorem fp_X4_init_22 : FP RX4 wsX4_init 22 4 3 (tyX4 3) := ⟨RX4, TX4, 4, tyX4, rfl, by decide, us_X4_init_4, by decide +kernel, tyX4_ok, nmX4, rfl, rfl⟩

set_option maxHeartbeats 8000000 in
set_option maxRecDepth 100000 in
theorem c_X4_init {l : Launch} {D : va_G} {tv : Nat → ClassId} {h0 : Nat} : IC l D (hp_tys tv) (fun _ => True) yX4_init wsX4_init rm_X4_init h0 4 [.null, .int 0, .int 0, .int 0] 1 48 (fun w => ∃ q1 : Nat, w = [(h0, .inr (4, [.ref q1, .int 0, .int 0, .int 1])), (q1, .inl (tv 0, 48, .inl (fun _ => 0)))]) := by
  refine g_enter (by decide) rfl rfl (Nat.le_of_ble_eq_true rfl) ?_
  intro X A B C E
  have B : GB X l rm_X4_init RX4 cX4_init wsX4_init 1 := B
  show GJ X (gH X D A [(h0, .inr (4, [.null, .int 0, .int 0, .int 0]))]) 1 0 [some (.ref h0)] [] 0 0
  refine g_aload_n B dX4_init_0 rfl ?_
  refine g_objInit B (by decide +kernel) (by decide +kernel) (by decide +kernel) (Nat.le_of_ble_eq_true rfl) (Nat.le_of_ble_eq_true rfl) dX4_init_1 ?_
  refine g_aload_n B dX4_init_4 rfl ?_
  refine g_bipush (v := 48) B dX4_init_5 (by decide) ?_
  refine g_newI (t0 := 0) (N := 48) B C rfl (by decide +kernel) (by decide) (by decide) (by decide) (Nat.le_of_ble_eq_true rfl) (Nat.le_of_ble_eq_true rfl) dX4_init_7 (fun q1 => ?_)
  show GJ X (gH X D A [(h0, .inr (4, [.null, .int 0, .int 0, .int 0])), (q1, .inl (tv 0, 48, .inl (fun _ => 0)))]) 1 9 [some (.ref h0)] [.ref q1, .ref h0] 1 48
  refine g_putF B C fq_X4_init_9 0 rfl rfl rfl (Nat.le_of_ble_eq_true rfl) dX4_init_9 ?_
  show GJ X (gH X D A [(h0, .inr (4, [.ref q1, .int 0, .int 0, .int 0])), (q1, .inl (tv 0, 48, .inl (fun _ => 0)))]) 1 12 [some (.ref h0)] [] 1 48
  refine g_aload_n B dX4_init_12 rfl ?_
  refine g_iconst (v := 0) B dX4_init_13 (by decide) ?_
  refine g_put B C fp_X4_init_15 0 rfl rfl rfl (Nat.le_of_ble_eq_true rfl) dX4_init_14 ?_
  show GJ X (gH X D A [(h0, .inr (4, [.ref q1, .int 0, .int 0, .int 0])), (q1, .inl (tv 0, 48, .inl (fun _ => 0)))]) 1 17 [some (.ref h0)] [] 1 48
  refine g_aload_n B dX4_init_17 rfl ?_
  refine g_iconst (v := 0) B dX4_init_18 (by decide) ?_
  refine g_put B C fp_X4_init_19 0 rfl rfl rfl (Nat.le_of_ble_eq_true rfl) dX4_init_19 ?_
  show GJ X (gH X D A [(h0, .inr (4, [.ref q1, .int 0, .int 0, .int 0])), (q1, .inl (tv 0, 48, .inl (fun _ => 0)))]) 1 22 [some (.ref h0)] [] 1 48
  refine g_aload_n B dX4_init_22 rfl ?_
  refine g_iconst (v := 1) B dX4_init_23 (by decide) ?_
  refine g_put B C fp_X4_init_22 0 rfl rfl rfl (Nat.le_of_ble_eq_true rfl) dX4_init_24 ?_
  show GJ X (gH X D A [(h0, .inr (4, [.ref q1, .int 0, .int 0, .int 1])), (q1, .inl (tv 0, 48, .inl (fun _ => 0)))]) 1 27 [some (.ref h0)] [] 1 48
  refine g_ret B E dX4_init_27 ?_
  exact ⟨q1, rfl⟩

abbrev rm_X5_init : Room := { frames := 1, cells := 3, slots := 24, locals := 12 }
set_option maxRecDepth 20000 in
theorem us_X5_init_5 : ∀ w ∈ u_ws RX5 TX5 4, w ∈ wsX5_init := by decide +kernel
set_option maxRecDepth 20000 in
theorem fq_X5_init_9 : FQ RX5 wsX5_init 9 5 0 (tyX5 0) := ⟨RX5, TX5, 4, tyX5, rfl, by decide, us_X5_init_5, by decide +kernel, tyX5_ok, nmX5, rfl, rfl, rfl⟩
set_option maxRecDepth 20000 in
theorem fq_X5_init_15 : FQ RX5 wsX5_init 15 5 1 (tyX5 1) := ⟨RX5, TX5, 4, tyX5, rfl, by decide, us_X5_init_5, by decide +kernel, tyX5_ok, nmX5, rfl, rfl, rfl⟩
set_option maxRecDepth 20000 in
theorem fq_X5_init_18 : FQ RX5 wsX5_init 18 5 2 (tyX5 2) := ⟨RX5, TX5, 4, tyX5, rfl, by decide, us_X5_init_5, by decide +kernel, tyX5_ok, nmX5, rfl, rfl, rfl⟩
set_option maxRecDepth 20000 in
theorem fp_X5_init_21 : FP RX5 wsX5_init 21 5 3 (tyX5 3) := ⟨RX5, TX5, 4, tyX5, rfl, by decide, us_X5_init_5, by decide +kernel, tyX5_ok, nmX5, rfl, rfl⟩

set_option maxHeartbeats 8000000 in
set_option maxRecDepth 100000 in
theorem c_X5_init {l : Launch} {D : va_G} {tv : Nat → ClassId} {h0 : Nat} : IC l D (hp_tys tv) (fun _ => True) yX5_init wsX5_init rm_X5_init h0 5 [.null, .null, .null, .int 0] 3 24 (fun w => ∃ q1 q2 q3 : Nat, w = [(h0, .inr (5, [.ref q1, .ref q2, .ref q3, .int 0])), (q1, .inl (tv 0, 8, .inl (fun _ => 0))), (q2, .inl (tv 0, 8, .inl (fun _ => 0))), (q3, .inl (tv 0, 8, .inl (fun _ => 0)))]) := by
  refine g_enter (by decide) rfl rfl (Nat.le_of_ble_eq_true rfl) ?_
  intro X A B C E
  have B : GB X l rm_X5_init RX5 cX5_init wsX5_init 1 := B
  show GJ X (gH X D A [(h0, .inr (5, [.null, .null, .null, .int 0]))]) 1 0 [some (.ref h0)] [] 0 0
  refine g_aload_n B dX5_init_0 rfl ?_
  refine g_objInit B (by decide +kernel) (by decide +kernel) (by decide +kernel) (Nat.le_of_ble_eq_true rfl) (Nat.le_of_ble_eq_true rfl) dX5_init_1 ?_
  refine g_aload_n B dX5_init_4 rfl ?_
  refine g_bipush (v := 8) B dX5_init_5 (by decide) ?_
  refine g_newI (t0 := 0) (N := 8) B C rfl (by decide +kernel) (by decide) (by decide) (by decide) (Nat.le_of_ble_eq_true rfl) (Nat.le_of_ble_eq_true rfl) dX5_init_7 (fun q1 => ?_)
  show GJ X (gH X D A [(h0, .inr (5, [.null, .null, .null, .int 0])), (q1, .inl (tv 0, 8, .inl (fun _ => 0)))]) 1 9 [some (.ref h0)] [.ref q1, .ref h0] 1 8
  refine g_putF B C fq_X5_init_9 0 rfl rfl rfl (Nat.le_of_ble_eq_true rfl) dX5_init_9 ?_
  show GJ X (gH X D A [(h0, .inr (5, [.ref q1, .null, .null, .int 0])), (q1, .inl (tv 0, 8, .inl (fun _ => 0)))]) 1 12 [some (.ref h0)] [] 1 8
  refine g_aload_n B dX5_init_12 rfl ?_
  refine g_bipush (v := 8) B dX5_init_13 (by decide) ?_
  refine g_newI (t0 := 0) (N := 8) B C rfl (by decide +kernel) (by decide) (by decide) (by decide) (Nat.le_of_ble_eq_true rfl) (Nat.le_of_ble_eq_true rfl) dX5_init_15 (fun q2 => ?_)
  show GJ X (gH X D A [(h0, .inr (5, [.ref q1, .null, .null, .int 0])), (q1, .inl (tv 0, 8, .inl (fun _ => 0))), (q2, .inl (tv 0, 8, .inl (fun _ => 0)))]) 1 17 [some (.ref h0)] [.ref q2, .ref h0] 2 16
  refine g_putF B C fq_X5_init_15 0 rfl rfl rfl (Nat.le_of_ble_eq_true rfl) dX5_init_17 ?_
  show GJ X (gH X D A [(h0, .inr (5, [.ref q1, .ref q2, .null, .int 0])), (q1, .inl (tv 0, 8, .inl (fun _ => 0))), (q2, .inl (tv 0, 8, .inl (fun _ => 0)))]) 1 20 [some (.ref h0)] [] 2 16
  refine g_aload_n B dX5_init_20 rfl ?_
  refine g_bipush (v := 8) B dX5_init_21 (by decide) ?_
  refine g_newI (t0 := 0) (N := 8) B C rfl (by decide +kernel) (by decide) (by decide) (by decide) (Nat.le_of_ble_eq_true rfl) (Nat.le_of_ble_eq_true rfl) dX5_init_23 (fun q3 => ?_)
  show GJ X (gH X D A [(h0, .inr (5, [.ref q1, .ref q2, .null, .int 0])), (q1, .inl (tv 0, 8, .inl (fun _ => 0))), (q2, .inl (tv 0, 8, .inl (fun _ => 0))), (q3, .inl (tv 0, 8, .inl (fun _ => 0)))]) 1 25 [some (.ref h0)] [.ref q3, .ref h0] 3 24
  refine g_putF B C fq_X5_init_18 0 rfl rfl rfl (Nat.le_of_ble_eq_true rfl) dX5_init_25 ?_
  show GJ X (gH X D A [(h0, .inr (5, [.ref q1, .ref q2, .ref q3, .int 0])), (q1, .inl (tv 0, 8, .inl (fun _ => 0))), (q2, .inl (tv 0, 8, .inl (fun _ => 0))), (q3, .inl (tv 0, 8, .inl (fun _ => 0)))]) 1 28 [some (.ref h0)] [] 3 24
  refine g_aload_n B dX5_init_28 rfl ?_
  refine g_iconst (v := 0) B dX5_init_29 (by decide) ?_
  refine g_put B C fp_X5_init_21 0 rfl rfl rfl (Nat.le_of_ble_eq_true rfl) dX5_init_30 ?_
  show GJ X (gH X D A [(h0, .inr (5, [.ref q1, .ref q2, .ref q3, .int 0])), (q1, .inl (tv 0, 8, .inl (fun _ => 0))), (q2, .inl (tv 0, 8, .inl (fun _ => 0))), (q3, .inl (tv 0, 8, .inl (fun _ => 0)))]) 1 33 [some (.ref h0)] [] 3 24
  refine g_ret B E dX5_init_33 ?_
  exact ⟨q1, q2, q3, rfl⟩

abbrev rm_X6_init : Room := { frames := 1, cells := 1, slots := 100, locals := 12 }
set_option maxRecDepth 20000 in
theorem us_X6_init_6 : ∀ w ∈ u_ws RX6 TX6 1, w ∈ wsX6_init := by decide +kernel
set_option maxRecDepth 20000 in
theorem fq_X6_init_9 : FQ RX6 wsX6_init 9 6 0 (tyX6 0) := ⟨RX6, TX6, 1, tyX6, rfl, by decide, us_X6_init_6, by decide +kernel, tyX6_ok, nmX6, rfl, rfl, rfl⟩

set_option maxHeartbeats 8000000 in
set_option maxRecDepth 100000 in
theorem c_X6_init {l : Launch} {D : va_G} {tv : Nat → ClassId} {h0 : Nat} : IC l D (hp_tys tv) (fun _ => True) yX6_init wsX6_init rm_X6_init h0 6 [.null] 1 100 (fun w => ∃ q1 : Nat, w = [(h0, .inr (6, [.ref q1])), (q1, .inl (tv 0, 100, .inl (fun _ => 0)))]) := by
  refine g_enter (by decide) rfl rfl (Nat.le_of_ble_eq_true rfl) ?_
  intro X A B C E
  have B : GB X l rm_X6_init RX6 cX6_init wsX6_init 1 := B
  show GJ X (gH X D A [(h0, .inr (6, [.null]))]) 1 0 [some (.ref h0)] [] 0 0
  refine g_aload_n B dX6_init_0 rfl ?_
  refine g_objInit B (by decide +kernel) (by decide +kernel) (by decide +kernel) (Nat.le_of_ble_eq_true rfl) (Nat.le_of_ble_eq_true rfl) dX6_init_1 ?_
  refine g_aload_n B dX6_init_4 rfl ?_
  refine g_bipush (v := 100) B dX6_init_5 (by decide) ?_
  refine g_newI (t0 := 0) (N := 100) B C rfl (by decide +kernel) (by decide) (by decide) (by decide) (Nat.le_of_ble_eq_true rfl) (Nat.le_of_ble_eq_true rfl) dX6_init_7 (fun q1 => ?_)
  show GJ X (gH X D A [(h0, .inr (6, [.null])), (q1, .inl (tv 0, 100, .inl (fun _ => 0)))]) 1 9 [some (.ref h0)] [.ref q1, .ref h0] 1 100
  refine g_putF B C fq_X6_init_9 0 rfl rfl rfl (Nat.le_of_ble_eq_true rfl) dX6_init_9 ?_
  show GJ X (gH X D A [(h0, .inr (6, [.ref q1])), (q1, .inl (tv 0, 100, .inl (fun _ => 0)))]) 1 12 [some (.ref h0)] [] 1 100
  refine g_ret B E dX6_init_12 ?_
  exact ⟨q1, rfl⟩

