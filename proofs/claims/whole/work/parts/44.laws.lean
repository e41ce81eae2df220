/-! the start -/
theorem nX_0 : ∀ g, g < 3 → nX muX0 g = 0 := fun g hg => by
  rcases (show g = 0 ∨ g = 1 ∨ g = 2 by omega) with rfl | rfl | rfl <;> decide
theorem nM_0 (g : Nat) : nM muM0 g = 0 := by
  show ((0 : Int32)).toNatClampNeg = 0
  decide
theorem IX_0 : IX muX0 := by
  refine ⟨fun g hg => ⟨?_, ?_, ?_, fun k hk => ?_⟩, fun g hg => ⟨3, by decide, ?_⟩, ⟨by decide, by decide⟩, fun k hk => ⟨0, by decide, rfl⟩, fun k hk => ⟨0, by decide, rfl⟩, fun k hk => ⟨false, rfl⟩, fun s hs => ⟨0, by decide, ?_⟩, fun s hs => ⟨true, ?_⟩⟩
  · rw [nX_0 g hg]
    rcases (show g = 0 ∨ g = 1 ∨ g = 2 by omega) with rfl | rfl | rfl <;> rfl
  · rw [nX_0 g hg]; decide
  · rw [nX_0 g hg]
    rcases (show g = 0 ∨ g = 1 ∨ g = 2 by omega) with rfl | rfl | rfl <;> rfl
  · rw [nX_0 g hg] at hk
    exact absurd hk (by omega)
  · rcases (show g = 0 ∨ g = 1 ∨ g = 2 by omega) with rfl | rfl | rfl <;> rfl
  · rcases (show s = 0 ∨ s = 1 ∨ s = 2 ∨ s = 3 by omega) with rfl | rfl | rfl | rfl <;> rfl
  · rcases (show s = 0 ∨ s = 1 ∨ s = 2 ∨ s = 3 by omega) with rfl | rfl | rfl | rfl <;> rfl
theorem IM_0 : IM muM0 := by
  refine ⟨fun g hg => ⟨?_, ?_⟩, fun g hg => ⟨3, by decide, ?_⟩, ⟨0, by decide, rfl⟩, fun k hk => ⟨0, by decide, rfl⟩, fun k hk => ⟨0, by decide, rfl⟩, fun k hk => ⟨false, rfl⟩, fun s hs => ⟨0, by decide, rfl⟩, fun s hs => ⟨false, rfl⟩⟩
  · rw [nM_0 g]; rfl
  · rw [nM_0 g]; decide
  · rcases (show g = 0 ∨ g = 1 ∨ g = 2 by omega) with rfl | rfl | rfl <;> rfl
theorem PO_0 : PO (muM0 5) := by
  show ∀ d, d < 7 → 0 ≤ (hp_pri d).toInt ∧ (hp_pri d).toInt ≤ 99
  decide
theorem RR_0 : RR muX0 muM0 := by
  refine ⟨⟨IX_0, IM_0, PO_0⟩, ⟨rfl, rfl⟩, ⟨rfl, rfl, rfl⟩, ⟨by decide, by decide⟩, fun g hg => ⟨?_, ?_, fun k hk => ?_⟩, ⟨rfl, rfl, rfl, rfl⟩, fun s hs => ⟨⟨true, ?_, rfl⟩, ?_, ?_, fun k hk => ?_⟩, rfl⟩
  · rcases (show g = 0 ∨ g = 1 ∨ g = 2 by omega) with rfl | rfl | rfl <;> rfl
  · rcases (show g = 0 ∨ g = 1 ∨ g = 2 by omega) with rfl | rfl | rfl <;> rfl
  · rw [nM_0 g] at hk
    exact absurd hk (by omega)
  · rcases (show s = 0 ∨ s = 1 ∨ s = 2 ∨ s = 3 by omega) with rfl | rfl | rfl | rfl <;> rfl
  · rcases (show s = 0 ∨ s = 1 ∨ s = 2 ∨ s = 3 by omega) with rfl | rfl | rfl | rfl <;> rfl
  · rcases (show s = 0 ∨ s = 1 ∨ s = 2 ∨ s = 3 by omega) with rfl | rfl | rfl | rfl <;> rfl
  · rcases (show s = 0 ∨ s = 1 ∨ s = 2 ∨ s = 3 by omega) with rfl | rfl | rfl | rfl <;> rfl
/-! what the tables and the start give -/
theorem arr_i {s : State} {args : Array Value} (h : (Cond.arrayClass .int).before args s = true) : ∃ cA : ClassId, ArrOfT s cA .int ∧ va_RA s cA .int := by
  obtain ⟨c, k, comp, h1, h2, h3⟩ := Cond.arrayClass_spec h
  exact ⟨c, fun n z => ⟨fun k h => (by cases h), k, h2, comp, h3⟩, h1⟩
theorem arr_z {s : State} {args : Array Value} (h : (Cond.arrayClass .boolean).before args s = true) : ∃ cA : ClassId, ArrOfT s cA .boolean ∧ va_RA s cA .boolean := by
  obtain ⟨c, k, comp, h1, h2, h3⟩ := Cond.arrayClass_spec h
  exact ⟨c, fun n z => ⟨fun k h => (by cases h), k, h2, comp, h3⟩, h1⟩
theorem arr_q {s : State} {C : String} (h : va_AO C s) : ∃ cA : ClassId, ArrOfT s cA (.object C) ∧ va_RA s cA (.object C) := by
  obtain ⟨comp, c, k, hcomp, -, hk, hkind, hname⟩ := Cond.arrayOver_spec h
  exact ⟨c, fun n z => ⟨fun k h => (by cases h), k, hk, comp, hkind⟩, k, comp, hk, hkind, hcomp, hname⟩
section LTB
variable {s : State} {b : Nat}
set_option maxRecDepth 20000 in
theorem law_evI (hts : ∀ w ∈ lw_tbl, w.before #[Value.ref b] s = true) : evI s := ⟨va_Nw.of rfl (hts (.methodLinkNest RX7 29 yX3_init RX7) (by decide +kernel)), va_Nw.of rfl (hts (.methodLinkNest RX7 36 yX5_init RX7) (by decide +kernel)), va_Nw.of rfl (hts (.methodLinkNest RX7 41 yX0_init RX7) (by decide +kernel)), va_Nw.of rfl (hts (.methodLinkNest RX7 48 yX2_init RX7) (by decide +kernel)), va_Nw.of rfl (hts (.methodLinkNest RX7 55 yX6_init RX7) (by decide +kernel)), va_Nw.of rfl (hts (.methodLinkNest RX7 64 yX1_init RX7) (by decide +kernel)), va_Nw.of rfl (hts (.methodLinkNest RX7 65 yX4_init RX7) (by decide +kernel)), va_AO.of (hts (.arrayOver (.object RX1)) (by decide +kernel)), va_AO.of (hts (.arrayOver (.object RX0)) (by decide +kernel)), va_AO.of (hts (.arrayOver (.object RX4)) (by decide +kernel))⟩
set_option maxHeartbeats 4000000 in
set_option maxRecDepth 20000 in
theorem law_K (hts : ∀ w ∈ lw_tbl, w.before #[Value.ref b] s = true) : ∃ (D : va_G) (tv : Nat → ClassId), va_K D vwCl (hp_tys tv) s := by
  obtain ⟨c0, i0, k0⟩ := u_known (C := RX0) (T := TX0) (N := 3) (n := 3) hts inX0 (hts (.instantiable RX0 3) (by decide +kernel))
  obtain ⟨c1, i1, k1⟩ := u_known (C := RX1) (T := TX1) (N := 4) (n := 4) hts inX1 (hts (.instantiable RX1 4) (by decide +kernel))
  obtain ⟨c2, i2, k2⟩ := u_known (C := RX2) (T := TX2) (N := 2) (n := 2) hts inX2 (hts (.instantiable RX2 2) (by decide +kernel))
  obtain ⟨c3, i3, k3⟩ := u_known (C := RX3) (T := TX3) (N := 5) (n := 5) hts inX3 (hts (.instantiable RX3 5) (by decide +kernel))
  obtain ⟨c4, i4, k4⟩ := u_known (C := RX4) (T := TX4) (N := 4) (n := 4) hts inX4 (hts (.instantiable RX4 4) (by decide +kernel))
  obtain ⟨c5, i5, k5⟩ := u_known (C := RX5) (T := TX5) (N := 4) (n := 4) hts inX5 (hts (.instantiable RX5 4) (by decide +kernel))
  obtain ⟨c6, i6, k6⟩ := u_known (C := RX6) (T := TX6) (N := 1) (n := 1) hts inX6 (hts (.instantiable RX6 1) (by decide +kernel))
  obtain ⟨c7, i7, k7⟩ := u_known (C := RX7) (T := TX7) (N := 9) (n := 9) hts inX7 (hts (.instantiable RX7 9) (by decide +kernel))
  obtain ⟨c8, i8, k8⟩ := u_known (C := RX8) (T := TX8) (N := 23) (n := 23) hts inX8 (hts (.instantiable RX8 23) (by decide +kernel))
  have hI := law_evI hts
  obtain ⟨a0, p0⟩ := arr_i (hts (.arrayClass .int) (by decide +kernel))
  obtain ⟨a1, p1⟩ := arr_z (hts (.arrayClass .boolean) (by decide +kernel))
  obtain ⟨a2, p2⟩ := arr_q hI.2.2.2.2.2.2.2.1
  obtain ⟨a3, p3⟩ := arr_q hI.2.2.2.2.2.2.2.2.1
  obtain ⟨a4, p4⟩ := arr_q hI.2.2.2.2.2.2.2.2.2
  refine ⟨(fun k => [c0, c1, c2, c3, c4, c5, c6, c7, c8].getD k c0, fun k => [i0, i1, i2, i3, i4, i5, i6, i7, i8].getD k i0), fun k => [a0, a1, a2, a3, a4].getD k a0, ⟨fun k q hq => ?_, fun k q hq => ?_⟩⟩
  · have hlt : k < 9 := (List.getElem?_eq_some_iff.mp hq).1
    exact match k, hq, hlt with
    | 0, hq, _ => by
      cases (show some ((RX0, TX0, 3) : vw_C) = some q from hq)
      exact k0
    | 1, hq, _ => by
      cases (show some ((RX1, TX1, 4) : vw_C) = some q from hq)
      exact k1
    | 2, hq, _ => by
      cases (show some ((RX2, TX2, 2) : vw_C) = some q from hq)
      exact k2
    | 3, hq, _ => by
      cases (show some ((RX3, TX3, 5) : vw_C) = some q from hq)
      exact k3
    | 4, hq, _ => by
      cases (show some ((RX4, TX4, 4) : vw_C) = some q from hq)
      exact k4
    | 5, hq, _ => by
      cases (show some ((RX5, TX5, 4) : vw_C) = some q from hq)
      exact k5
    | 6, hq, _ => by
      cases (show some ((RX6, TX6, 1) : vw_C) = some q from hq)
      exact k6
    | 7, hq, _ => by
      cases (show some ((RX7, TX7, 9) : vw_C) = some q from hq)
      exact k7
    | 8, hq, _ => by
      cases (show some ((RX8, TX8, 23) : vw_C) = some q from hq)
      exact k8
    | n + 9, _, h => absurd h (by omega)
  · have hlt : k < 5 := (List.getElem?_eq_some_iff.mp hq).1
    exact match k, hq, hlt with
    | 0, hq, _ => by
      cases (show some ((a0, .int) : ClassId × FieldType) = some q from hq)
      exact p0
    | 1, hq, _ => by
      cases (show some ((a1, .boolean) : ClassId × FieldType) = some q from hq)
      exact p1
    | 2, hq, _ => by
      cases (show some ((a2, .object RX1) : ClassId × FieldType) = some q from hq)
      exact p2
    | 3, hq, _ => by
      cases (show some ((a3, .object RX0) : ClassId × FieldType) = some q from hq)
      exact p3
    | 4, hq, _ => by
      cases (show some ((a4, .object RX4) : ClassId × FieldType) = some q from hq)
      exact p4
    | n + 5, _, h => absurd h (by omega)
set_option maxRecDepth 20000 in
theorem law_evX (hts : ∀ w ∈ lw_tbl, w.before #[Value.ref b] s = true) (hgv : (Jvm.Cond.and given_1 narrow_1).before #[Value.ref b] s = true) : evX (fun q => s.heap.size ≤ q) s := by
  have hs := flat_of_before _ hgv
  obtain ⟨t, h1, h2⟩ := va_Tof (tm := .static "HiccupPeace" "LETTERS" "[I") (ty := .int) (N := 7) (f := fun j => .int (hp_let j)) (A := fun q => s.heap.size ≤ q) (by decide) (hs (.arrayOf (.static "HiccupPeace" "LETTERS" "[I") .int) (by decide +kernel)) (va_eqt (hs (.eq (.length (.static "HiccupPeace" "LETTERS" "[I")) (.int 7)) (by decide +kernel))) (fun j hj => match j, hj with
    | 0, _ => va_eqt (hs (.eq (.elem (.static "HiccupPeace" "LETTERS" "[I") (.int 0)) (.int 110)) (by decide +kernel))
    | 1, _ => va_eqt (hs (.eq (.elem (.static "HiccupPeace" "LETTERS" "[I") (.int 1)) (.int 98)) (by decide +kernel))
    | 2, _ => va_eqt (hs (.eq (.elem (.static "HiccupPeace" "LETTERS" "[I") (.int 2)) (.int 99)) (by decide +kernel))
    | 3, _ => va_eqt (hs (.eq (.elem (.static "HiccupPeace" "LETTERS" "[I") (.int 3)) (.int 118)) (by decide +kernel))
    | 4, _ => va_eqt (hs (.eq (.elem (.static "HiccupPeace" "LETTERS" "[I") (.int 4)) (.int 102)) (by decide +kernel))
    | 5, _ => va_eqt (hs (.eq (.elem (.static "HiccupPeace" "LETTERS" "[I") (.int 5)) (.int 115)) (by decide +kernel))
    | 6, _ => va_eqt (hs (.eq (.elem (.static "HiccupPeace" "LETTERS" "[I") (.int 6)) (.int 104)) (by decide +kernel))
    | n + 7, h => absurd h (by omega)) (fun a h => Nat.not_le.mpr h)
  exact ⟨va_Nw.of rfl (hts (.methodLinkNest RX1 41 yX7_isDish RX7) (by decide +kernel)), va_Nw.of rfl (hts (.methodLinkNest RX0 45 yX7_isHour RX7) (by decide +kernel)), va_Nw.of rfl (hts (.methodLinkNest RX2 18 yX7_hasHour RX7) (by decide +kernel)), va_Nw.of rfl (hts (.methodLinkNest RX3 28 yX7_isDish RX7) (by decide +kernel)), va_Nw.of rfl (hts (.methodLinkNest RX5 25 yX7_hasHour RX7) (by decide +kernel)), t, va_Zof (hts (.laysStatic "HiccupPeace" "LETTERS" "[I") (by decide +kernel)) (hts (.initialized "HiccupPeace") (by decide +kernel)) h1 (fun a h => Nat.not_le.mpr h), h2⟩
theorem evX_of {U : State} {A A' : Nat → Prop} {H : Heap} {locs : List Loc} (h : evX A s) (hA : ∀ q, A' q → A q) (hS : va_S A s.heap H locs) (hU : U.heap = H) (hW : s.WarmedH U.vm) : evX A' U := by
  obtain ⟨h1, h2, h3, h4, h5, t, hz, ht⟩ := h
  have hk : ∀ a : Nat, a < s.heap.size → ¬ A a → U.heap[a]? = s.heap[a]? := fun a h1 h2 => by rw [hU]; exact hS.2.1 a h1 h2
  exact ⟨va_Nw.warmM hW h1, va_Nw.warmM hW h2, va_Nw.warmM hW h3, va_Nw.warmM hW h4, va_Nw.warmM hW h5, t, ((va_Z.moved hW.alike hz).kept hk).narrow hA, ((va_T.moved hW.alike ht).kept hk).narrow hA⟩
theorem Nw_calling {w : Cond} {U : State} {g : JFrame} {mk : MethodId} {a : Array Value} (hw : w.onTables = true) (h : va_Nw w U) : va_Nw w (U.calling g mk a) := va_tabs (A := #[]) (A' := #[]) (u := U) (U := U.calling g mk a) hw rfl h
theorem evX_calling {A : Nat → Prop} {U : State} {g : JFrame} {mk : MethodId} {a : Array Value} (h : evX A U) : evX A (U.calling g mk a) := by
  obtain ⟨h1, h2, h3, h4, h5, t, hz, ht⟩ := h
  exact ⟨Nw_calling rfl h1, Nw_calling rfl h2, Nw_calling rfl h3, Nw_calling rfl h4, Nw_calling rfl h5, t, va_Z.moved (u := U) (U := U.calling g mk a) (Vm.Alike.refl U.vm) hz, va_T.moved (u := U) (U := U.calling g mk a) (Vm.Alike.refl U.vm) ht⟩
theorem evI_warm {U : State} (hW : s.WarmedH U.vm) (h : evI s) : evI U := by
  obtain ⟨h1, h2, h3, h4, h5, h6, h7, h8, h9, h10⟩ := h
  exact ⟨va_Nw.warmM hW h1, va_Nw.warmM hW h2, va_Nw.warmM hW h3, va_Nw.warmM hW h4, va_Nw.warmM hW h5, va_Nw.warmM hW h6, va_Nw.warmM hW h7, va_AO.moved hW.alike h8, va_AO.moved hW.alike h9, va_AO.moved hW.alike h10⟩
theorem evI_calling (U : State) (g : JFrame) (mk : MethodId) (a : Array Value) (h : evI U) : evI (U.calling g mk a) := by
  obtain ⟨h1, h2, h3, h4, h5, h6, h7, h8, h9, h10⟩ := h
  exact ⟨Nw_calling rfl h1, Nw_calling rfl h2, Nw_calling rfl h3, Nw_calling rfl h4, Nw_calling rfl h5, Nw_calling rfl h6, Nw_calling rfl h7, va_AO.moved (u := U) (U := U.calling g mk a) (Vm.Alike.refl U.vm) h8, va_AO.moved (u := U) (U := U.calling g mk a) (Vm.Alike.refl U.vm) h9, va_AO.moved (u := U) (U := U.calling g mk a) (Vm.Alike.refl U.vm) h10⟩
end LTB
/-! two lists of cells side by side -/
section APP
variable {D : va_G} {cl : List vw_C} {H : Heap} {A : Nat → Prop} {wa wb : va_W}
theorem app_1 {k : Nat} {q : Nat × va_E} (h : wa[k]? = some q) : (wa ++ wb)[k]? = some q := by
  rw [List.getElem?_append_left (List.getElem?_eq_some_iff.mp h).1]; exact h
theorem app_2 {k : Nat} {q : Nat × va_E} (h : wb[k]? = some q) : (wa ++ wb)[wa.length + k]? = some q := by
  rw [List.getElem?_append_right (by omega), Nat.add_sub_cancel_left]; exact h
theorem app_P1 (h : va_P D cl (wa ++ wb) H) : va_P D cl wa H := fun k q hk => h k q (app_1 hk)
theorem app_P2 (h : va_P D cl (wa ++ wb) H) : va_P D cl wb H := fun k q hk => h _ q (app_2 hk)
theorem app_D1 (h : va_D A (wa ++ wb)) : va_D A wa := ⟨fun i j p q hi hj e => h.1 i j p q (app_1 hi) (app_1 hj) e, fun k q hk => h.2 k q (app_1 hk)⟩
theorem app_D2 (h : va_D A (wa ++ wb)) : va_D A wb := ⟨fun i j p q hi hj e => by
  have := h.1 _ _ p q (app_2 hi) (app_2 hj) e
  omega, fun k q hk => h.2 _ q (app_2 hk)⟩
theorem app_ne (h : va_D A (wa ++ wb)) {i j : Nat} {p q : Nat × va_E} (hi : wa[i]? = some p) (hj : wb[j]? = some q) : p.1 ≠ q.1 := fun e => by
  have h1 := h.1 _ _ p q (app_1 hi) (app_2 hj) e
  have h2 := (List.getElem?_eq_some_iff.mp hi).1
  omega
theorem D_at {V : ab_V} {mu : ab_mem} {Sh : List ab_kd} {i : Nat} (hi : i < Sh.length) : (ab_wd V mu Sh)[i]? = some (aL V i, ab_cell V mu i Sh[i]) := ab_get (List.getElem?_eq_getElem hi)
theorem D_inj {V : ab_V} {mu : ab_mem} {Sh : List ab_kd} (h : va_D A (ab_wd V mu Sh)) : ∀ i j, i < Sh.length → j < Sh.length → aL V i = aL V j → i = j := fun i j hi hj e => h.1 i j _ _ (D_at hi) (D_at hj) e
theorem D_new {V : ab_V} {mu : ab_mem} {Sh : List ab_kd} (h : va_D A (ab_wd V mu Sh)) : ∀ q, ab_A V Sh q → A q := fun q hq => by
  obtain ⟨k, hk, rfl⟩ := hq
  exact h.2 k _ (D_at hk)
end APP
set_option maxRecDepth 20000 in
theorem nwL_7 : NW RL wsL_law 7 7 9 [.null, .null, .null, .null, .null, .null, .null, .null, .int 0] := ⟨RX7, TX7, tyX7, rfl, inlX7, tyX7_ok, by decide +kernel, by decide +kernel, by decide +kernel, fun j hj => by
  rcases (show j = 0 ∨ j = 1 ∨ j = 2 ∨ j = 3 ∨ j = 4 ∨ j = 5 ∨ j = 6 ∨ j = 7 ∨ j = 8 by omega) with rfl | rfl | rfl | rfl | rfl | rfl | rfl | rfl | rfl <;> rfl⟩
set_option maxRecDepth 20000 in
theorem nwL_8 : NW RL wsL_law 10 8 23 [.null, .null, .null, .null, .null, .int 0, .int 0, .int 0, .null, .null, .null, .null, .null, .int 0, .null, .null, .null, .null, .null, .null, .null, .null, .int 0] := ⟨RX8, TX8, tyX8, rfl, inlX8, tyX8_ok, by decide +kernel, by decide +kernel, by decide +kernel, fun j hj => by
  rcases (show j = 0 ∨ j = 1 ∨ j = 2 ∨ j = 3 ∨ j = 4 ∨ j = 5 ∨ j = 6 ∨ j = 7 ∨ j = 8 ∨ j = 9 ∨ j = 10 ∨ j = 11 ∨ j = 12 ∨ j = 13 ∨ j = 14 ∨ j = 15 ∨ j = 16 ∨ j = 17 ∨ j = 18 ∨ j = 19 ∨ j = 20 ∨ j = 21 ∨ j = 22 by omega) with rfl | rfl | rfl | rfl | rfl | rfl | rfl | rfl | rfl | rfl | rfl | rfl | rfl | rfl | rfl | rfl | rfl | rfl | rfl | rfl | rfl | rfl | rfl <;> rfl⟩
set_option maxRecDepth 20000 in
theorem kiL_7 : KI wsL_law room_1 yX7_init wsX7_init rm_X7_init 41 1146 := ⟨_, _, _, gL_law_X7_init, rfl, rfl, rfl, by decide +kernel, by decide +kernel, rfl, by decide +kernel, by decide⟩
set_option maxRecDepth 20000 in
theorem kiL_8 : KI wsL_law room_1 yX8_init wsX8_init rm_X8_init 18 2065 := ⟨_, _, _, gL_law_X8_init, rfl, rfl, rfl, by decide +kernel, by decide +kernel, rfl, by decide +kernel, by decide⟩
set_option maxRecDepth 20000 in
theorem mlL_7 : Cond.methodLink RL 9 yX7_init ∈ wsL_law := by decide +kernel
set_option maxRecDepth 20000 in
theorem mlL_8 : Cond.methodLink RL 12 yX8_init ∈ wsL_law := by decide +kernel
theorem OKX_of {D : va_G} {tv : Nat → ClassId} {ad : Nat → Nat} {A : Nat → Prop} {mu : ab_mem} (h : va_D A (ab_wd (D, tv, ad, evX (ab_A (D, tv, ad, fun _ => True) ShX)) mu ShX)) : OKX (D, tv, ad, evX (ab_A (D, tv, ad, fun _ => True) ShX)) :=
  ⟨⟨D_inj h, fun s U H locs hS hU hW he => evX_of he (fun _ h => h) hS hU hW, fun U g mk a he => evX_calling he⟩, fun _ h => h⟩
theorem OKM_of {D : va_G} {tv : Nat → ClassId} {ad : Nat → Nat} {A : Nat → Prop} {mu : ab_mem} (h : va_D A (ab_wd (D, tv, ad, fun _ => True) mu ShM)) : OKM (D, tv, ad, fun _ => True) :=
  ⟨D_inj h, fun _ _ _ _ _ _ _ _ => trivial, fun _ _ _ _ _ => trivial⟩
set_option maxHeartbeats 4000000 in
set_option maxRecDepth 100000 in
theorem law_go {X : ab_X} {l : Launch} {D : va_G} {tv : Nat → ClassId} {b L : Nat} {ss : Nat → Int32} (B : GB X l room_1 RL code wsL_law 4) (hK : va_K D vwCl (hp_tys tv) (xs X)) (hI : evI (xs X)) (hE : evX (nA X) (xs X)) (hX : va_X b L ss (xs X) (xs X).heap) (hbl : b < (xs X).heap.size) (hL : L ≤ 3072) (hend : ∀ VX VM k x m, GJ X (LPh X VX VM x m) 4 1254 (lL b VX VM k) [] 61 3243) : GJ X (gH X D (nA X) []) 4 0 [some (.ref b), none, none, none] [] 0 0 := by
  refine g_new B hK (fun q h => h) nwL_7 (by decide) (by decide) dL_law_0 (fun q1 => ?_)
  refine g_dup B dL_law_3 rfl ?_
  refine g_callI (w := []) (cs := 1) (sl := 9) (q := q1) (ci := 7) (fs := [.null, .null, .null, .null, .null, .null, .null, .null, .int 0]) (pc := 4) (lo := [some (.ref b), none, none, none]) (st := [.ref q1]) (ev2 := evI) B hK (fun q h => h) kiL_7 mlL_7 evI_calling (fun U hW => evI_warm hW hI) c_X7_init (Nat.le_of_ble_eq_true rfl) (by decide) (by decide) dL_law_4 (fun w1 h1 => ?_)
  obtain ⟨ad1, e1, in1⟩ := h1
  subst e1
  refine g_in (w := w1) (in1 (evX (ab_A (D, tv, ad1, fun _ => True) ShX))) ?_
  refine g_astore_n B dL_law_7 (by decide) ?_
  refine g_new B hK (fun q h => h) nwL_8 (by decide) (by decide) dL_law_8 (fun q2 => ?_)
  refine g_dup B dL_law_11 rfl ?_
  refine g_callI (w := ab_wd (D, tv, ad1, evX (ab_A (D, tv, ad1, fun _ => True) ShX)) muX0 ShX) (cs := 43) (sl := 1178) (q := q2) (ci := 8) (fs := [.null, .null, .null, .null, .null, .int 0, .int 0, .int 0, .null, .null, .null, .null, .null, .int 0, .null, .null, .null, .null, .null, .null, .null, .null, .int 0]) (pc := 12) (lo := [some (.ref b), some (.ref (ad1 0)), none, none]) (st := [.ref q2]) (ev2 := fun _ => True) B hK (fun q h => h) kiL_8 mlL_8 (fun _ _ _ _ _ => trivial) (fun _ _ => trivial) c_X8_init (Nat.le_of_ble_eq_true rfl) (by decide) (by decide) dL_law_12 (fun w2 h2 => ?_)
  obtain ⟨ad2, e2, in2⟩ := h2
  subst e2
  have in2 := in2 (fun _ => True)
  refine g_astore_n B dL_law_15 (by decide) ?_
  refine g_iconst (v := 0) B dL_law_16 (by decide) ?_
  refine g_istore_n B dL_law_17 (by decide) ?_
  intro H locs ls hP hl
  obtain ⟨hP1, hD1, hS1⟩ := hP
  have hDX := app_D1 hD1
  have hDM := in2.D (app_D2 hD1)
  have K : LC X l room_1 (D, tv, ad1, evX (ab_A (D, tv, ad1, fun _ => True) ShX)) (D, tv, ad2, fun _ => True) b L ss 61 3243 := by
    refine ⟨⟨B, by decide, by decide⟩, ⟨hK, hK⟩, ⟨OKX_of hDX, OKM_of hDM⟩, ⟨fun i j hi hj => ?_, D_new hDX, D_new hDM⟩, fun U H locs hS hU hW => ⟨evX_of hE (D_new hDX) hS hU hW, trivial⟩, hX, hbl, hL⟩
    exact app_ne hD1 (D_at hi) (in2.get (D_at hj))
  exact law_loop K (hend _ _) (L + 1) 0 (Nat.zero_le _) (by omega) muX0 muM0 RR_0 H locs ls ⟨app_P1 hP1, in2.P (app_P2 hP1), hS1⟩ hl

