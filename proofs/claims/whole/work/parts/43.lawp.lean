/-! the law's loop -/
section LAWP
variable {X : ab_X} {l : Launch} {VX VM : ab_V} {b L : Nat} {ss : Nat → Int32} {cs sl k : Nat} {x m : ab_mem}
set_option maxHeartbeats 4000000 in
set_option maxRecDepth 100000 in
theorem law_switch (K : LC X l room_1 VX VM b L ss cs sl) (hk : k + 6 ≤ L) (h : RR x m) (nx : ∀ x2 m2, RR x2 m2 → GJ X (LPh X VX VM x2 m2) 4 1248 (lL b VX VM k) [] cs sl) : ∀ j, j < 34 → GJ X (LPh X VX VM x m) 4 33 (lL b VX VM k) [.int (nI j)] cs sl := fun j hj => match j, hj with
  | 0, _ => g_tableIn (off := 151) (tgt := 184) K.1.1 dL_law_33 (by decide) (by decide) (by decide) (by decide) (lo_type K hk h nx)
  | 1, _ => g_tableIn (off := 184) (tgt := 217) K.1.1 dL_law_33 (by decide) (by decide) (by decide) (by decide) (lo_wipe K hk h nx)
  | 2, _ => g_tableIn (off := 207) (tgt := 240) K.1.1 dL_law_33 (by decide) (by decide) (by decide) (by decide) (lo_fault K hk h nx)
  | 3, _ => g_tableIn (off := 230) (tgt := 263) K.1.1 dL_law_33 (by decide) (by decide) (by decide) (by decide) (lo_undo K hk h nx)
  | 4, _ => g_tableIn (off := 253) (tgt := 286) K.1.1 dL_law_33 (by decide) (by decide) (by decide) (by decide) (lo_calm K hk h nx)
  | 5, _ => g_tableIn (off := 286) (tgt := 319) K.1.1 dL_law_33 (by decide) (by decide) (by decide) (by decide) (lo_does K hk h nx)
  | 6, _ => g_tableIn (off := 319) (tgt := 352) K.1.1 dL_law_33 (by decide) (by decide) (by decide) (by decide) (lo_set K hk h nx)
  | 7, _ => g_tableIn (off := 352) (tgt := 385) K.1.1 dL_law_33 (by decide) (by decide) (by decide) (by decide) (lo_price K hk h nx)
  | 8, _ => g_tableIn (off := 385) (tgt := 418) K.1.1 dL_law_33 (by decide) (by decide) (by decide) (by decide) (lo_read K hk h nx)
  | 9, _ => g_tableIn (off := 418) (tgt := 451) K.1.1 dL_law_33 (by decide) (by decide) (by decide) (by decide) (lo_dish K hk h nx)
  | 10, _ => g_tableIn (off := 451) (tgt := 484) K.1.1 dL_law_33 (by decide) (by decide) (by decide) (by decide) (lo_level K hk h nx)
  | 11, _ => g_tableIn (off := 484) (tgt := 517) K.1.1 dL_law_33 (by decide) (by decide) (by decide) (by decide) (lo_hiccups K hk h nx)
  | 12, _ => g_tableIn (off := 507) (tgt := 540) K.1.1 dL_law_33 (by decide) (by decide) (by decide) (by decide) (lo_broken K hk h nx)
  | 13, _ => g_tableIn (off := 530) (tgt := 563) K.1.1 dL_law_33 (by decide) (by decide) (by decide) (by decide) (lo_judged K hk h nx)
  | 14, _ => g_tableIn (off := 543) (tgt := 576) K.1.1 dL_law_33 (by decide) (by decide) (by decide) (by decide) (lo_armistice K hk h nx)
  | 15, _ => g_tableIn (off := 566) (tgt := 599) K.1.1 dL_law_33 (by decide) (by decide) (by decide) (by decide) (lo_led K hk h nx)
  | 16, _ => g_tableIn (off := 599) (tgt := 632) K.1.1 dL_law_33 (by decide) (by decide) (by decide) (by decide) (lo_odds K hk h nx)
  | 17, _ => g_tableIn (off := 643) (tgt := 676) K.1.1 dL_law_33 (by decide) (by decide) (by decide) (by decide) (lo_heard K hk h nx)
  | 18, _ => g_tableIn (off := 676) (tgt := 709) K.1.1 dL_law_33 (by decide) (by decide) (by decide) (by decide) (lo_quiet K hk h nx)
  | 19, _ => g_tableIn (off := 729) (tgt := 762) K.1.1 dL_law_33 (by decide) (by decide) (by decide) (by decide) (lo_force K hk h nx)
  | 20, _ => g_tableIn (off := 772) (tgt := 805) K.1.1 dL_law_33 (by decide) (by decide) (by decide) (by decide) (lo_seen K hk h nx)
  | 21, _ => g_tableIn (off := 815) (tgt := 848) K.1.1 dL_law_33 (by decide) (by decide) (by decide) (by decide) (lo_forget K hk h nx)
  | 22, _ => g_tableIn (off := 828) (tgt := 861) K.1.1 dL_law_33 (by decide) (by decide) (by decide) (by decide) (lo_fright K hk h nx)
  | 23, _ => g_tableIn (off := 851) (tgt := 884) K.1.1 dL_law_33 (by decide) (by decide) (by decide) (by decide) (lo_unlike K hk h nx)
  | 24, _ => g_tableIn (off := 864) (tgt := 897) K.1.1 dL_law_33 (by decide) (by decide) (by decide) (by decide) (lo_parrot K hk h nx)
  | 25, _ => g_tableIn (off := 887) (tgt := 920) K.1.1 dL_law_33 (by decide) (by decide) (by decide) (by decide) (lo_trained K hk h nx)
  | 26, _ => g_tableIn (off := 920) (tgt := 953) K.1.1 dL_law_33 (by decide) (by decide) (by decide) (by decide) (lo_sheet K hk h nx)
  | 27, _ => g_tableIn (off := 963) (tgt := 996) K.1.1 dL_law_33 (by decide) (by decide) (by decide) (by decide) (lo_lose K hk h nx)
  | 28, _ => g_tableIn (off := 986) (tgt := 1019) K.1.1 dL_law_33 (by decide) (by decide) (by decide) (by decide) (lo_put K hk h nx)
  | 29, _ => g_tableIn (off := 1039) (tgt := 1072) K.1.1 dL_law_33 (by decide) (by decide) (by decide) (by decide) (lo_get K hk h nx)
  | 30, _ => g_tableIn (off := 1082) (tgt := 1115) K.1.1 dL_law_33 (by decide) (by decide) (by decide) (by decide) (lo_copy K hk h nx)
  | 31, _ => g_tableIn (off := 1145) (tgt := 1178) K.1.1 dL_law_33 (by decide) (by decide) (by decide) (by decide) (lo_write K hk h nx)
  | 32, _ => g_tableIn (off := 1178) (tgt := 1211) K.1.1 dL_law_33 (by decide) (by decide) (by decide) (by decide) (lo_count K hk h nx)
  | 33, _ => g_tableIn (off := 1201) (tgt := 1234) K.1.1 dL_law_33 (by decide) (by decide) (by decide) (by decide) (lo_digest K hk h nx)
  | n + 34, h => absurd h (by omega)
set_option maxHeartbeats 4000000 in
set_option maxRecDepth 100000 in
theorem law_loop (K : LC X l room_1 VX VM b L ss cs sl) (hend : ∀ k x m, GJ X (LPh X VX VM x m) 4 1254 (lL b VX VM k) [] cs sl) : ∀ n k, k ≤ L → L - k < n → ∀ x m, RR x m → GJ X (LPh X VX VM x m) 4 18 (lL b VX VM k) [] cs sl := by
  have hL : L ≤ 3072 := K.2.2.2.2.2.2.2
  intro n
  induction n with
  | zero => intro k _ h; exact absurd h (by omega)
  | succ n ih =>
    intro k hkL hn x m h
    refine g_iload_n K.1.1 dL_law_18 rfl ?_
    refine g_aload_n K.1.1 dL_law_19 rfl ?_
    refine L_slen K dL_law_20 ?_
    refine g_bipush (v := 6) K.1.1 dL_law_21 (by decide) ?_
    refine g_isub K.1.1 dL_law_23 ?_
    refine g_icmp_gt (tgt := 1254) K.1.1 dL_law_24 (by decide) (fun _ => hend k x m) (fun c => ?_)
    have hk : k + 6 ≤ L := by
      have e : (Int32.ofNat L - 6).toInt = (L : Int) - 6 := pk_sub_toInt (a := L) (b := 6) (by omega) (by decide)
      rw [fa_lt, e, nI_toInt (by omega)] at c
      omega
    refine g_aload_n K.1.1 dL_law_27 rfl ?_
    refine g_iload_n K.1.1 dL_law_28 rfl ?_
    refine L_sld K (vp_in_nI (by omega) (by omega)) dL_law_29 ?_
    refine g_bipush (v := 63) K.1.1 dL_law_30 (by decide) ?_
    refine g_iand K.1.1 dL_law_32 ?_
    have nx : ∀ x2 m2, RR x2 m2 → GJ X (LPh X VX VM x2 m2) 4 1248 (lL b VX VM k) [] cs sl := fun x2 m2 h2 => by
      refine g_iinc (v := 6) (y := nI (k + 6)) K.1.1 dL_law_1248 rfl (by decide) (nI_add k 6) (by decide) ?_
      refine g_goto (tgt := 18) K.1.1 dL_law_1251 (by decide) ?_
      exact ih (k + 6) hk (by omega) x2 m2 h2
    obtain ⟨j, hj, ej⟩ := pk_andE (ss (nI k).toNatClampNeg) (m := 63) 6 (by decide)
    rw [ej]
    by_cases h34 : j < 34
    · exact law_switch K hk h nx j h34
    · exact g_tableOut (tgt := 1248) K.1.1 dL_law_33 (Or.inr (by rw [nI_toInt (by omega)]; omega)) (by decide) (nx x m h)
end LAWP
