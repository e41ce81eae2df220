/-! the sheets, on both sides -/
theorem hsB_iff {z : Nat} {i n : Int32} (hz : z ≤ 48) : hsB (nI z) i n = true ↔ ∃ a b, i = nI a ∧ n = nI b ∧ a + b ≤ z := by
  unfold hsB
  rw [decide_eq_true_iff]
  constructor
  · rintro ⟨h1, h2, h3, h4⟩
    obtain ⟨a, ha, rfl⟩ := nI_of h1
    obtain ⟨b, hb, rfl⟩ := nI_of h2
    rw [nI_ltI (by omega) ha] at h3
    rw [pk_sub (by omega), nI_ltI (by omega) hb] at h4
    exact ⟨a, b, rfl, rfl, by omega⟩
  · rintro ⟨a, b, rfl, rfl, h⟩
    have z0 : ∀ k, k < 2 ^ 31 → ¬ nI k < 0 := fun k hk => by rw [show (0 : Int32) = nI 0 from rfl, nI_ltI hk (by decide)]; omega
    refine ⟨z0 a (by omega), z0 b (by omega), ?_, ?_⟩
    · rw [nI_ltI (by omega) (by omega)]; omega
    · rw [pk_sub (by omega), nI_ltI (by omega) (by omega)]; omega
theorem hs_in {z : Nat} {i : Int32} (hz : z ≤ 48) : hsB (nI z) i 1 = inB i 0 (nI z - 1) := by
  have e : (nI z - 1).toInt = (z : Int) - 1 := pk_sub_toInt (a := z) (b := 1) (by omega) (by decide)
  have e0 : (0 : Int32).toInt = 0 := rfl
  rw [Bool.eq_iff_iff, hsB_iff hz, inB_t, fa_le, fa_le, e, e0]
  constructor
  · rintro ⟨a, b, rfl, hb, h⟩
    have hb1 : b = 1 := ((nI_eq (a := 1) (b := b) (by decide) (by omega)).mp hb).symm
    rw [nI_toInt (by omega)]
    omega
  · rintro ⟨h1, h2⟩
    obtain ⟨a, ha, rfl⟩ := nI_of (x := i) (by rw [fa_lt, e0]; omega)
    rw [nI_toInt ha] at h2
    exact ⟨a, 1, rfl, rfl, by omega⟩
section OPT
variable {l : Launch} {V U : ab_V} {x m : ab_mem}
theorem lk_same (h : RR x m) {s : Nat} {fo i : Int32} (hs : s < 4) : lkX (x (34 + 2 * s) 3) (x (34 + 2 * s) 1) fo (x (34 + 2 * s) 2) i = lkS (m 14 s) (m 15 s) fo (m 16 s) i := by
  obtain ⟨⟨b, b1, b2⟩, b3, -, -⟩ := R_sh h hs
  obtain ⟨z, hz, z1, z2⟩ := RR_s0 h hs
  unfold lkX lkS
  rw [b1, b2, b3, z1, z2, hs_in hz]
  cases b
  · rw [if_pos (show bI false = 0 from rfl), if_neg (show ¬ bI (!false) = 0 by decide)]
  · rw [if_neg (show ¬ bI true = 0 by decide), if_pos (show bI (!true) = 0 from rfl)]
theorem lk_in (h : RR x m) {s : Nat} {fo i : Int32} (hs : s < 4) (hl : lkX (x (34 + 2 * s) 3) (x (34 + 2 * s) 1) fo (x (34 + 2 * s) 2) i = 0) : ∃ z k, z ≤ 48 ∧ x (34 + 2 * s) 2 = nI z ∧ k < z ∧ i = nI k := by
  obtain ⟨z, hz, z1, z2⟩ := RR_s0 h hs
  unfold lkX at hl
  split at hl
  · split at hl
    · split at hl
      · rename_i q
        rw [z1, hsB_iff hz] at q
        obtain ⟨a, b, e1, e2, e3⟩ := q
        by_cases hb : b = 1
        · exact ⟨z, a, hz, z1, by omega, e1⟩
        · exact absurd ((nI_eq (a := 1) (b := b) (by decide) (by omega)).mp e2).symm hb
      · exact absurd hl (by decide)
    · exact absurd hl (by decide)
  · exact absurd hl (by decide)
theorem lk_no {a b c d e : Int32} (hl : ¬ lkS a b c d e = 0) : ¬ lkS a b c d e ≤ 0 := by
  unfold lkS at *
  split at hl
  · rename_i q; rw [if_pos q]; decide
  · rename_i q
    rw [if_neg q]
    split at hl
    · rename_i q2
      rw [if_pos q2]
      split at hl
      · exact absurd rfl hl
      · rename_i q3; rw [if_neg q3]; decide
    · rename_i q2; rw [if_neg q2]; decide
theorem th_is {b : Bool} : (bI b = 0 → bI (!b) = 1) ∧ (¬ bI b = 0 → bI (!b) = 0) := by cases b <;> decide
theorem op_read (hV : OKX V) (hU : OKM U) (h : RR x m) (a b : Int32) : OPI l V U yX7_read yX8_read wsX7_read wsX8_read rm_X7_read rm_X8_read [.int a, .int b] x m := by
  by_cases hb : inB a 0 3 = true ∧ inB b 0 2 = true
  · obtain ⟨s, hs, rfl⟩ := inB_of 3 (by decide) hb.1
    obtain ⟨g, hg, rfl⟩ := inB_of 2 (by decide) hb.2
    obtain ⟨⟨c, b1, b2⟩, b3, -, b5⟩ := R_sh h (s := s) (by omega)
    obtain ⟨z, hz, z1, z2⟩ := RR_s0 h (s := s) (by omega)
    by_cases ht : x (34 + 2 * s) 3 = 0
    · have ht2 : m 14 s = 1 := by rw [b2]; rw [b1] at ht; exact th_is.1 ht
      have e : rdF (fun k => m 17 (48 * s + k)) 0 (min z 24) = rdF (x (35 + 2 * s)) 0 (min z 24) := rd_congr _ _ (fun k hk => by rw [Nat.zero_add]; exact (b5 k (by omega)).symm)
      refine op_w (c_X7_read hV (by omega) (by omega) hz z1 ht) (c_X8_read hU (by omega) (by omega) hz z2 ht2) (by rw [e]) ?_
      rw [e]
      exact RR_read h (N := min z 24) (by omega) (by omega) (by omega) rfl
    · exact op_w (c_X7_read_no hV (by omega) (by omega) ht) (c_X8_read_no hU (by omega) (by omega) (by rw [b2]; rw [b1] at ht; exact th_is.2 ht)) rfl (RR_finding h)
  · exact op_same h (c_X7_read_bad hV hb) (c_X8_read_bad hU hb) rfl
theorem op_sheet (hV : OKX V) (hU : OKM U) (h : RR x m) (a f z : Int32) : OPI l V U yX7_sheet yX8_sheet wsX7_sheet wsX8_sheet rm_X7_sheet rm_X8_sheet [.int a, .int f, .int z] x m := by
  by_cases hb : inB a 0 3 = true ∧ inB f 0 2 = true ∧ z ≤ 48
  · obtain ⟨s, hs, rfl⟩ := inB_of 3 (by decide) hb.1
    by_cases h0 : 0 ≤ z
    · obtain ⟨k, hk, rfl⟩ := inB_of (a := z) 48 (by decide) (inB_t.mpr ⟨h0, hb.2.2⟩)
      exact op_w (c_X7_sheet hV (by omega) hb.2.1 hb.2.2 h0) (c_X8_sheet hU (by omega) hb.2.1 hb.2.2 h0) rfl (RR_renew h (by omega) hk)
    · exact op_w (c_X7_sheet_no hV (by omega) hb.2.1 hb.2.2 h0) (c_X8_sheet_no hU (by omega) hb.2.1 hb.2.2 h0) rfl (RR_finding h)
  · exact op_same h (c_X7_sheet_bad hV hb) (c_X8_sheet_bad hU hb) rfl
theorem op_lose (hV : OKX V) (hU : OKM U) (h : RR x m) (a : Int32) : OPI l V U yX7_lose yX8_lose wsX7_lose wsX8_lose rm_X7_lose rm_X8_lose [.int a] x m := by
  by_cases hb : inB a 0 3 = true
  · obtain ⟨s, hs, rfl⟩ := inB_of 3 (by decide) hb
    obtain ⟨⟨c, b1, b2⟩, b3, b4, b5⟩ := R_sh h (s := s) (by omega)
    by_cases ht : x (34 + 2 * s) 3 = 0
    · exact op_w (c_X7_lose hV (by omega) ht) (c_X8_lose hU (by omega) (by rw [b2]; rw [b1] at ht; exact th_is.1 ht)) b4 (RR_lose h (by omega))
    · exact op_w (c_X7_lose_no hV (by omega) ht) (c_X8_lose_no hU (by omega) (by rw [b2]; rw [b1] at ht; exact th_is.2 ht)) rfl (RR_finding h)
  · exact op_same h (c_X7_lose_bad hV hb) (c_X8_lose_bad hU hb) rfl
theorem op_put (hV : OKX V) (hU : OKM U) (h : RR x m) (a f i v : Int32) : OPI l V U yX7_put yX8_put wsX7_put wsX8_put rm_X7_put rm_X8_put [.int a, .int f, .int i, .int v] x m := by
  by_cases hb : inB a 0 3 = true ∧ inB f 0 2 = true
  · obtain ⟨s, hs, rfl⟩ := inB_of 3 (by decide) hb.1
    have ek := lk_same h (s := s) (fo := f) (i := i) (by omega)
    by_cases hl : lkX (x (34 + 2 * s) 3) (x (34 + 2 * s) 1) f (x (34 + 2 * s) 2) i = 0
    · obtain ⟨z, k, hz, z1, hk, rfl⟩ := lk_in h (by omega) hl
      refine op_w (c_X7_put hV (by omega) hb.2 z1 hz hk hl) (c_X8_put hU (by omega) hb.2 (by omega) (by rw [← ek]; exact hl)) rfl ?_
      rw [(R_sh h (s := s) (by omega)).2.1]
      exact RR_put h (by omega) (by omega)
    · refine op_w (c_X7_put_no hV (by omega) hb.2 hl) (c_X8_put_no hU (by omega) hb.2 (lk_no (by rw [← ek]; exact hl))) (by rw [ek]) ?_
      rw [ek]
      exact RR_finding h
  · exact op_same h (c_X7_put_bad hV hb) (c_X8_put_bad hU hb) rfl
theorem op_get (hV : OKX V) (hU : OKM U) (h : RR x m) (a f i : Int32) : OPI l V U yX7_get yX8_get wsX7_get wsX8_get rm_X7_get rm_X8_get [.int a, .int f, .int i] x m := by
  by_cases hb : inB a 0 3 = true ∧ inB f 0 2 = true
  · obtain ⟨s, hs, rfl⟩ := inB_of 3 (by decide) hb.1
    have ek := lk_same h (s := s) (fo := f) (i := i) (by omega)
    by_cases hl : lkX (x (34 + 2 * s) 3) (x (34 + 2 * s) 1) f (x (34 + 2 * s) 2) i = 0
    · obtain ⟨z, k, hz, z1, hk, rfl⟩ := lk_in h (by omega) hl
      exact op_same h (c_X7_get hV (by omega) hb.2 (by omega) hl) (c_X8_get hU (by omega) hb.2 (by omega) (by rw [← ek]; exact hl)) ((R_sh h (s := s) (by omega)).2.2.2 k (by omega))
    · refine op_w (c_X7_get_no hV (by omega) hb.2 hl) (c_X8_get_no hU (by omega) hb.2 (lk_no (by rw [← ek]; exact hl))) rfl ?_
      rw [ek]
      exact RR_finding h
  · exact op_same h (c_X7_get_bad hV hb) (c_X8_get_bad hU hb) rfl
theorem op_copy (hV : OKX V) (hU : OKM U) (h : RR x m) (a b c d e : Int32) : OPI l V U yX7_copy yX8_copy wsX7_copy wsX8_copy rm_X7_copy rm_X8_copy [.int a, .int b, .int c, .int d, .int e] x m := by
  by_cases hb : inB a 0 3 = true ∧ inB c 0 3 = true
  · obtain ⟨s, hs, rfl⟩ := inB_of 3 (by decide) hb.1
    obtain ⟨t, ht, rfl⟩ := inB_of 3 (by decide) hb.2
    obtain ⟨⟨c1, b1, b2⟩, b3, -, -⟩ := R_sh h (s := s) (by omega)
    obtain ⟨⟨c2, d1, d2⟩, d3, -, -⟩ := R_sh h (s := t) (by omega)
    obtain ⟨z, hz, z1, z2⟩ := RR_s0 h (s := s) (by omega)
    obtain ⟨y, hy, y1, y2⟩ := RR_s0 h (s := t) (by omega)
    by_cases n1 : x (34 + 2 * s) 3 = 0
    · have n3 : m 14 s = 1 := by rw [b2]; rw [b1] at n1; exact th_is.1 n1
      by_cases n2 : x (34 + 2 * t) 3 = 0
      · have n4 : m 14 t = 1 := by rw [d2]; rw [d1] at n2; exact th_is.1 n2
        by_cases hf : x (34 + 2 * s) 1 = x (34 + 2 * t) 1
        · have hf2 : m 15 s = m 15 t := by rw [← b3, ← d3]; exact hf
          by_cases hi : hsB (x (34 + 2 * s) 2) b e = true ∧ hsB (x (34 + 2 * t) 2) d e = true
          · have hi1 := hi.1
            have hi2 := hi.2
            rw [z1, hsB_iff hz] at hi1
            rw [y1, hsB_iff hy] at hi2
            obtain ⟨i, n, rfl, rfl, i1⟩ := hi1
            obtain ⟨j, n', rfl, en, j1⟩ := hi2
            have en2 : n = n' := (nI_eq (by omega) (by omega)).mp en
            subst en2
            exact ⟨_, _, c_X7_copy hV (by omega) (by omega) n1 n2 hf hi.1 hi.2 (by omega) (by omega), c_X8_copy hU (by omega) (by omega) n3 n4 hf2 z2 y2 hz hy i1 j1, fun r1 x2 r2 m2 p q => ⟨p.1.trans q.1.symm, RR_p (congrArg pX p.2) q.2 (RR_copy h (by omega) (by omega) (by omega) (by omega))⟩⟩
          · refine op_w (c_X7_copy_index hV (by omega) (by omega) n1 n2 hf hi) (c_X8_copy_index hU (by omega) (by omega) n3 n4 hf2 (fun q => hi ?_)) rfl (RR_finding h)
            obtain ⟨q1, q2, q3, q4, q5⟩ := q
            rw [z2] at q4
            rw [y2] at q5
            obtain ⟨i, n, e1, e2, e3⟩ := lgc2 q1 q3 hz q4
            obtain ⟨j, k, f1, f2, f3⟩ := lgc2 q2 q3 hy q5
            rw [z1, y1, hsB_iff hz, hsB_iff hy]
            exact ⟨⟨i, n, e1, e2, e3⟩, ⟨j, k, f1, f2, f3⟩⟩
        · exact op_w (c_X7_copy_store hV (by omega) (by omega) n1 n2 hf) (c_X8_copy_store hU (by omega) (by omega) n3 n4 (by rw [← b3, ← d3]; exact hf)) rfl (RR_finding h)
      · exact op_w (c_X7_copy_null hV (by omega) (by omega) (Or.inr n2)) (c_X8_copy_null hU (by omega) (by omega) (Or.inr (by rw [d2]; rw [d1] at n2; exact th_is.2 n2))) rfl (RR_finding h)
    · exact op_w (c_X7_copy_null hV (by omega) (by omega) (Or.inl n1)) (c_X8_copy_null hU (by omega) (by omega) (Or.inl (by rw [b2]; rw [b1] at n1; exact th_is.2 n1))) rfl (RR_finding h)
  · exact op_same h (c_X7_copy_bad hV hb) (c_X8_copy_bad hU hb) rfl
theorem op_write (hV : OKX V) (hU : OKM U) (h : RR x m) (a b : Int32) : OPI l V U yX7_write yX8_write wsX7_write wsX8_write rm_X7_write rm_X8_write [.int a, .int b] x m := by
  by_cases hb : inB a 0 2 = true ∧ inB b 0 3 = true
  · obtain ⟨g, hg, rfl⟩ := inB_of 2 (by decide) hb.1
    obtain ⟨s, hs, rfl⟩ := inB_of 3 (by decide) hb.2
    obtain ⟨⟨c, b1, b2⟩, b3, -, b5⟩ := R_sh h (s := s) (by omega)
    obtain ⟨z, hz, z1, z2⟩ := RR_s0 h (s := s) (by omega)
    by_cases ht : x (34 + 2 * s) 3 = 0
    · exact ⟨_, _, c_X7_write hV (R_ix h) (by omega) (by omega) ht z1 hz, c_X8_write hU (R_im h) (by omega) (by omega) (by rw [b2]; rw [b1] at ht; exact th_is.1 ht) z2 hz, fun r1 x2 r2 m2 p q => ⟨p.1.trans q.1.symm, RR_p p.2 q.2 (RR_write h (by omega) (by omega) (by omega))⟩⟩
    · exact op_w (c_X7_write_no hV (by omega) (by omega) ht) (c_X8_write_no hU (by omega) (by omega) (by rw [b2]; rw [b1] at ht; exact th_is.2 ht)) rfl (RR_finding h)
  · exact op_same h (c_X7_write_bad hV hb) (c_X8_write_bad hU hb) rfl
theorem dgN_congr {h : Int64} {f f2 : Nat → Int64 → Int64} : ∀ n, (∀ k, k < n → f k = f2 k) → dgN h f n = dgN h f2 n := by
  intro n
  induction n with
  | zero => intro _; rfl
  | succ n ih => intro q; rw [dgN, dgN, ih (fun k hk => q k (by omega)), q n (by omega)]
theorem op_digest (hV : OKX V) (hU : OKM U) (h : RR x m) : OPL l V U yX7_digest yX8_digest wsX7_digest wsX8_digest rm_X7_digest rm_X8_digest [] x m := by
  refine opl_q h (c_X7_digest hV (R_ix h)) (c_X8_digest hU (R_im h) (R_po h)) ?_
  have q0 : cntX x = cntM m := funext (cnt_eq h)
  have q1 : ∀ g, g < 3 → H_flt x g = G_flt m g := fun g hg => flt_eq h hg
  have q2 : ∀ g, g < 3 → H_hic x g = G_hic m g := fun g hg => by unfold H_hic G_hic; rw [b_eq h hg]
  have q3 : ∀ k g, g < 3 → H_lv k x g = G_lv k m g := fun k g hg => by unfold H_lv G_lv; rw [l_eq h hg]
  have q4 : ∀ g, g < 3 → H_hrd x g = G_hrd m g := fun g hg => by unfold H_hrd G_hrd; rw [ch_eq h hg]
  have q5 : ∀ g, g < 3 → H_frt x g = G_frt m g := fun g hg => by unfold H_frt G_frt; rw [ag_eq h hg]
  have q6 : ∀ g, g < 3 → H_bk x g = G_bk m g := fun g hg => bk_eq h (inB_nI (n := 2) (by omega) (by decide))
  have q7 : H_jd x = G_jd m := by unfold H_jd G_jd; rw [bkn_eq h]
  have q8 : ∀ w, H_ar w x = G_ar w m := fun w => by unfold H_ar G_ar; rw [bkn_eq h, ar_eq]
  have q9 : ∀ w, H_od w x = G_od w m := fun w => by unfold H_od G_od; rw [o_eq h]
  have q10 : ∀ i g, g < 2 → H_q i x g = G_q i m g := fun i g hg => by unfold H_q G_q oM; rw [R_e h, R_pr h, R_mk h, R_lw h, R_fb h, b_eq h (g := 1 - g) (by omega), lv_eq h (g := g) (by omega)]
  have q11 : ∀ w, H_fo w x = G_fo w m := fun w => by unfold H_fo G_fo; rw [R_e h, R_mk h, R_fb h, lv_eq h (g := 0) (by decide), lv_eq h (g := 1) (by decide)]
  have q12 : H_ul x = G_ul m := us_eq h
  have q13 : ∀ g, g < 2 → H_pa g x = G_pa g m := fun g hg => pa_eq h hg
  have q14 : H_tr x = G_tr m := by funext w; unfold H_tr G_tr; rw [tr_eq2 h (g := 0) (by decide), lk_eq h (g := 0) (by decide)]
  have eB : ∀ h0, dgB h0 (H_flt x) (H_hic x) (H_lv 0 x) (H_lv 9 x) (H_lv 23 x) (H_hrd x) (H_frt x) 3 = dgB h0 (G_flt m) (G_hic m) (G_lv 0 m) (G_lv 9 m) (G_lv 23 m) (G_hrd m) (G_frt m) 3 := fun h0 => dgN_congr 3 (fun k hk => by rw [q1 k hk, q2 k hk, q3 0 k hk, q3 9 k hk, q3 23 k hk, q4 k hk, q5 k hk])
  have eC : ∀ h0, dgC h0 (H_bk x) 3 = dgC h0 (G_bk m) 3 := fun h0 => dgN_congr 3 (fun k hk => by rw [q6 k hk])
  have eE : ∀ h0, dgE h0 (H_q (-1) x) (H_q 0 x) 2 = dgE h0 (G_q (-1) m) (G_q 0 m) 2 := fun h0 => dgN_congr 2 (fun k hk => by rw [q10 _ k hk, q10 _ k hk])
  unfold dgAll
  rw [q0, eB, eC, q7, q8, q8, q9, q9, eE, q11, q11, q12, q13 0 (by decide), q13 1 (by decide), q14]
end OPT
